/-! contracts, laid by program (wip/gen) -/
theorem loop_ex {L q : Nat} (h : L ≤ 5 * q + 4) (hq : 5 * q ≤ L) (hL : L ≤ 2560) : nI L - nI 5 < nI (5 * q) := by
  rw [Int32.lt_iff_toInt_lt, pk_sub_toInt (by omega) (by omega), tonI (by omega)]; omega
theorem loop_in {L q : Nat} (h : 5 * q + 5 ≤ L) (hL : L ≤ 2560) : ¬ nI L - nI 5 < nI (5 * q) := by
  rw [Int32.lt_iff_toInt_lt, pk_sub_toInt (by omega) (by omega), tonI (by omega)]; omega
set_option maxHeartbeats 8000000 in
set_option maxRecDepth 100000 in
theorem law_loop (l : Launch) (hl : l.stackTraces = false) (E : jE) (A : Nat → Prop) {t sz sg la dk ot mo ou : Nat} {p : Program} {e : Env} {R : Room} {s : State} {m : MethodId} {args : Array Value} {below : List Frame} {meth : Method} {c : Code} {Q : State → Prop} {mc ms bs Ln : Nat} {xs : Nat → Int32} (C : jC p l e R s m args below meth c x code 7 ret 2000 mc ms E A) (hX : va_X bs Ln xs s s.heap) (hbl : bs < s.heap.size) (hbA : ¬ A bs) (hLn : Ln ≤ 2560) (hmc : 40 + 600 * 513 ≤ mc) (hms : 400 + 10000 * 513 ≤ ms) (fin : ∀ (q : Nat) (z g b : Nat → Int32) (cr ca cg ck : Int32) (on : Int64) (os : Value) (th : Int32) (ro : Nat → Option Nat) (LL : List Nat) (ff : Nat → va_E), 5 * q ≤ Ln → jJ p l e R s m args below meth c E A 7 Q (40 + 600 * q) (400 + 10000 * q) 1680 [(4, .int (nI (5 * q))), (3, .ref ot), (2, .ref mo), (1, .ref dk), (0, .ref bs)] [] (gW E t sz sg la dk ot mo ou z g b cr ca cg ck on os th cr ca cg ck ro LL ff)) : ∀ (n q : Nat) (z g b : Nat → Int32) (cr ca cg ck : Int32) (on : Int64) (os : Value) (th : Int32) (ro : Nat → Option Nat) (LL : List Nat) (ff : Nat → va_E), Ln ≤ 5 * q + 4 + 5 * n → 5 * q ≤ Ln → Rel E z g ro LL ff → jJ p l e R s m args below meth c E A 7 Q (40 + 600 * q) (400 + 10000 * q) 27 [(4, .int (nI (5 * q))), (3, .ref ot), (2, .ref mo), (1, .ref dk), (0, .ref bs)] [] (gW E t sz sg la dk ot mo ou z g b cr ca cg ck on os th cr ca cg ck ro LL ff) := by
  intro n
  induction n with
  | zero =>
    intro q z g b cr ca cg ck on os th ro LL ff h1 h2 hR
    refine j_iload C dL_law_27 rfl ?_
    refine j_aload_n C dL_law_29 rfl ?_
    refine j_slen C hX hbl hbA dL_law_30 ?_
    refine j_iconst (v := nI 5) C dL_law_31 rfl ?_
    refine j_isub C dL_law_32 rfl ?_
    refine j_icmp_gt_t (tgt := 1680) C dL_law_33 (by decide) (loop_ex (by omega) h2 hLn) ?_
    exact fin q z g b cr ca cg ck on os th ro LL ff h2
  | succ n ih =>
    intro q z g b cr ca cg ck on os th ro LL ff h1 h2 hR
    refine j_iload C dL_law_27 rfl ?_
    refine j_aload_n C dL_law_29 rfl ?_
    refine j_slen C hX hbl hbA dL_law_30 ?_
    refine j_iconst (v := nI 5) C dL_law_31 rfl ?_
    refine j_isub C dL_law_32 rfl ?_
    by_cases h3 : 5 * q + 5 ≤ Ln
    case neg =>
      refine j_icmp_gt_t (tgt := 1680) C dL_law_33 (by decide) (loop_ex (by omega) h2 hLn) ?_
      exact fin q z g b cr ca cg ck on os th ro LL ff h2
    case pos =>
      refine j_icmp_gt_f (tgt := 1680) C dL_law_33 (by decide) (loop_in h3 hLn) ?_
      refine j_aload_n C dL_law_36 rfl ?_
      refine j_iload C dL_law_37 rfl ?_
      refine j_sld C hX hbl hbA (5 * q) rfl (by omega) (by omega) rfl dL_law_39 ?_
      refine j_bipush (v := nI 63) C dL_law_40 rfl ?_
      obtain ⟨k, hk, ek⟩ := pk_andE (xs (5 * q)) (m := nI 63) 6 rfl
      refine j_iand (z := nI k) C dL_law_42 ek ?_
      have go : ∀ (z g b : Nat → Int32) (cr ca cg ck : Int32) (on : Int64) (os : Value) (th : Int32) (ro : Nat → Option Nat) (LL : List Nat) (ff : Nat → va_E), Rel E z g ro LL ff → jJ p l e R s m args below meth c E A 7 Q (40 + 600 * q + 600) (400 + 10000 * q + 10000) 1674 [(4, .int (nI (5 * q))), (3, .ref ot), (2, .ref mo), (1, .ref dk), (0, .ref bs)] [] (gW E t sz sg la dk ot mo ou z g b cr ca cg ck on os th cr ca cg ck ro LL ff) := by
        intro z g b cr ca cg ck on os th ro LL ff hR
        refine j_iinc (lv' := [(4, .int (nI (5 * (q + 1)))), (3, .ref ot), (2, .ref mo), (1, .ref dk), (0, .ref bs)]) C dL_law_1674 (v := nI (5 * (q + 1))) rfl (by rw [show 5 * (q + 1) = 5 * q + 5 by omega]; exact nI_add _ _) (by decide) rfl ?_
        refine j_goto (tgt := 27) C dL_law_1677 (by decide) ?_
        refine j_widen (k := 40 + 600 * (q + 1)) (n := 400 + 10000 * (q + 1)) (by omega) (by omega) ?_
        exact ih (q + 1) z g b cr ca cg ck on os th ro LL ff (by omega) (by omega) hR
      by_cases h4 : k < 37
      case neg =>
        refine j_tableOut (tgt := 1674) C dL_law_43 (Or.inr (by rw [tonI (by omega)]; omega)) (by decide) ?_
        exact j_widen (by omega) (by omega) (go z g b cr ca cg ck on os th ro LL ff hR)
      case pos =>
        have h5 : k = 0 ∨ k = 1 ∨ k = 2 ∨ k = 3 ∨ k = 4 ∨ k = 5 ∨ k = 6 ∨ k = 7 ∨ k = 8 ∨ k = 9 ∨ k = 10 ∨ k = 11 ∨ k = 12 ∨ k = 13 ∨ k = 14 ∨ k = 15 ∨ k = 16 ∨ k = 17 ∨ k = 18 ∨ k = 19 ∨ k = 20 ∨ k = 21 ∨ k = 22 ∨ k = 23 ∨ k = 24 ∨ k = 25 ∨ k = 26 ∨ k = 27 ∨ k = 28 ∨ k = 29 ∨ k = 30 ∨ k = 31 ∨ k = 32 ∨ k = 33 ∨ k = 34 ∨ k = 35 ∨ k = 36 := by omega
        rcases h5 with rfl | rfl | rfl | rfl | rfl | rfl | rfl | rfl | rfl | rfl | rfl | rfl | rfl | rfl | rfl | rfl | rfl | rfl | rfl | rfl | rfl | rfl | rfl | rfl | rfl | rfl | rfl | rfl | rfl | rfl | rfl | rfl | rfl | rfl | rfl | rfl | rfl
        · refine j_tableIn (off := 161) (tgt := 204) C dL_law_43 (by decide) (by decide) (by decide) (by decide) ?_
          exact op_write (nn := 0) l hl E A C hX hbl hbA hLn (by omega) (by omega) (by omega) rfl rfl rfl rfl hR go
        · refine j_tableIn (off := 225) (tgt := 268) C dL_law_43 (by decide) (by decide) (by decide) (by decide) ?_
          exact op_fill (nn := 0) l hl E A C hX hbl hbA hLn (by omega) (by omega) (by omega) rfl rfl rfl rfl hR go
        · refine j_tableIn (off := 277) (tgt := 320) C dL_law_43 (by decide) (by decide) (by decide) (by decide) ?_
          exact op_cut (nn := 0) l hl E A C hX hbl hbA hLn (by omega) (by omega) (by omega) rfl rfl rfl rfl hR go
        · refine j_tableIn (off := 329) (tgt := 372) C dL_law_43 (by decide) (by decide) (by decide) (by decide) ?_
          exact op_take (nn := 0) l hl E A C hX hbl hbA hLn (by omega) (by omega) (by omega) rfl rfl rfl rfl hR go
        · refine j_tableIn (off := 381) (tgt := 424) C dL_law_43 (by decide) (by decide) (by decide) (by decide) ?_
          exact op_put (nn := 0) l hl E A C hX hbl hbA hLn (by omega) (by omega) (by omega) rfl rfl rfl rfl hR go
        · refine j_tableIn (off := 433) (tgt := 476) C dL_law_43 (by decide) (by decide) (by decide) (by decide) ?_
          exact op_copy (nn := 0) l hl E A C hX hbl hbA hLn (by omega) (by omega) (by omega) rfl rfl rfl rfl hR go
        · refine j_tableIn (off := 473) (tgt := 516) C dL_law_43 (by decide) (by decide) (by decide) (by decide) ?_
          exact op_leave (nn := 0) l hl E A C hX hbl hbA hLn (by omega) (by omega) (by omega) rfl rfl rfl rfl hR go
        · refine j_tableIn (off := 501) (tgt := 544) C dL_law_43 (by decide) (by decide) (by decide) (by decide) ?_
          exact op_place (nn := 0) l hl E A C hX hbl hbA hLn (by omega) (by omega) (by omega) rfl rfl rfl rfl hR go
        · refine j_tableIn (off := 538) (tgt := 581) C dL_law_43 (by decide) (by decide) (by decide) (by decide) ?_
          exact op_span (nn := 0) l hl E A C hX hbl hbA hLn (by omega) (by omega) (by omega) rfl rfl rfl rfl hR go
        · refine j_tableIn (off := 587) (tgt := 630) C dL_law_43 (by decide) (by decide) (by decide) (by decide) ?_
          exact op_stretch (nn := 0) l hl E A C hX hbl hbA hLn (by omega) (by omega) (by omega) rfl rfl rfl rfl hR go
        · refine j_tableIn (off := 636) (tgt := 679) C dL_law_43 (by decide) (by decide) (by decide) (by decide) ?_
          exact op_isFarPlace (nn := 0) l hl E A C hX hbl hbA hLn (by omega) (by omega) (by omega) rfl rfl rfl rfl hR go
        · refine j_tableIn (off := 673) (tgt := 716) C dL_law_43 (by decide) (by decide) (by decide) (by decide) ?_
          exact op_isFarSpan (nn := 0) l hl E A C hX hbl hbA hLn (by omega) (by omega) (by omega) rfl rfl rfl rfl hR go
        · refine j_tableIn (off := 722) (tgt := 765) C dL_law_43 (by decide) (by decide) (by decide) (by decide) ?_
          exact op_isFarStretch (nn := 0) l hl E A C hX hbl hbA hLn (by omega) (by omega) (by omega) rfl rfl rfl rfl hR go
        · refine j_tableIn (off := 771) (tgt := 814) C dL_law_43 (by decide) (by decide) (by decide) (by decide) ?_
          exact op_insides (nn := 0) l hl E A C hX hbl hbA hLn (by omega) (by omega) (by omega) rfl rfl rfl rfl hR go
        · refine j_tableIn (off := 811) (tgt := 854) C dL_law_43 (by decide) (by decide) (by decide) (by decide) ?_
          exact op_text (nn := 0) l hl E A C hX hbl hbA hLn (by omega) (by omega) (by omega) rfl rfl rfl rfl hR go
        · refine j_tableIn (off := 839) (tgt := 882) C dL_law_43 (by decide) (by decide) (by decide) (by decide) ?_
          exact op_length (nn := 0) l hl E A C hX hbl hbA hLn (by omega) (by omega) (by omega) rfl rfl rfl rfl hR go
        · refine j_tableIn (off := 867) (tgt := 910) C dL_law_43 (by decide) (by decide) (by decide) (by decide) ?_
          exact op_signAt (nn := 0) l hl E A C hX hbl hbA hLn (by omega) (by omega) (by omega) rfl rfl rfl rfl hR go
        · refine j_tableIn (off := 907) (tgt := 950) C dL_law_43 (by decide) (by decide) (by decide) (by decide) ?_
          exact op_part (nn := 0) l hl E A C hX hbl hbA hLn (by omega) (by omega) (by omega) rfl rfl rfl rfl hR go
        · refine j_tableIn (off := 959) (tgt := 1002) C dL_law_43 (by decide) (by decide) (by decide) (by decide) ?_
          exact op_isEmpty (nn := 0) l hl E A C hX hbl hbA hLn (by omega) (by omega) (by omega) rfl rfl rfl rfl hR go
        · refine j_tableIn (off := 987) (tgt := 1030) C dL_law_43 (by decide) (by decide) (by decide) (by decide) ?_
          exact op_compare (nn := 0) l hl E A C hX hbl hbA hLn (by omega) (by omega) (by omega) rfl rfl rfl rfl hR go
        · refine j_tableIn (off := 1027) (tgt := 1070) C dL_law_43 (by decide) (by decide) (by decide) (by decide) ?_
          exact op_compareParts (nn := 0) l hl E A C hX hbl hbA hLn (by omega) (by omega) (by omega) rfl rfl rfl rfl hR go
        · refine j_tableIn (off := 1091) (tgt := 1134) C dL_law_43 (by decide) (by decide) (by decide) (by decide) ?_
          exact op_isLike (nn := 0) l hl E A C hX hbl hbA hLn (by omega) (by omega) (by omega) rfl rfl rfl rfl hR go
        · refine j_tableIn (off := 1131) (tgt := 1174) C dL_law_43 (by decide) (by decide) (by decide) (by decide) ?_
          exact op_order (nn := 0) l hl E A C hX hbl hbA hLn (by omega) (by omega) (by omega) rfl rfl rfl rfl hR go
        · refine j_tableIn (off := 1183) (tgt := 1226) C dL_law_43 (by decide) (by decide) (by decide) (by decide) ?_
          exact op_ahead (nn := 0) l hl E A C hX hbl hbA hLn (by omega) (by omega) (by omega) rfl rfl rfl rfl hR go
        · refine j_tableIn (off := 1223) (tgt := 1266) C dL_law_43 (by decide) (by decide) (by decide) (by decide) ?_
          exact op_must (nn := 0) l hl E A C hX hbl hbA hLn (by omega) (by omega) (by omega) rfl rfl rfl rfl hR go
        · refine j_tableIn (off := 1251) (tgt := 1294) C dL_law_43 (by decide) (by decide) (by decide) (by decide) ?_
          exact op_mustSaying (nn := 0) l hl E A C hX hbl hbA hLn (by omega) (by omega) (by omega) rfl rfl rfl rfl hR go
        · refine j_tableIn (off := 1308) (tgt := 1351) C dL_law_43 (by decide) (by decide) (by decide) (by decide) ?_
          exact op_orElse (nn := 0) l hl E A C hX hbl hbA hLn (by omega) (by omega) (by omega) rfl rfl rfl rfl hR go
        · refine j_tableIn (off := 1348) (tgt := 1391) C dL_law_43 (by decide) (by decide) (by decide) (by decide) ?_
          exact op_orGiven (nn := 0) l hl E A C hX hbl hbA hLn (by omega) (by omega) (by omega) rfl rfl rfl rfl hR go
        · refine j_tableIn (off := 1388) (tgt := 1431) C dL_law_43 (by decide) (by decide) (by decide) (by decide) ?_
          exact op_isMissing (nn := 0) l hl E A C hX hbl hbA hLn (by omega) (by omega) (by omega) rfl rfl rfl rfl hR go
        · refine j_tableIn (off := 1416) (tgt := 1459) C dL_law_43 (by decide) (by decide) (by decide) (by decide) ?_
          exact op_isThere (nn := 0) l hl E A C hX hbl hbA hLn (by omega) (by omega) (by omega) rfl rfl rfl rfl hR go
        · refine j_tableIn (off := 1444) (tgt := 1487) C dL_law_43 (by decide) (by decide) (by decide) (by decide) ?_
          exact op_areSame (nn := 0) l hl E A C hX hbl hbA hLn (by omega) (by omega) (by omega) rfl rfl rfl rfl hR go
        · refine j_tableIn (off := 1484) (tgt := 1527) C dL_law_43 (by decide) (by decide) (by decide) (by decide) ?_
          exact op_code (nn := 0) l hl E A C hX hbl hbA hLn (by omega) (by omega) (by omega) rfl rfl rfl rfl hR go
        · refine j_tableIn (off := 1512) (tgt := 1555) C dL_law_43 (by decide) (by decide) (by decide) (by decide) ?_
          exact op_codes (nn := 0) l hl E A C hX hbl hbA hLn (by omega) (by omega) (by omega) rfl rfl rfl rfl hR go
        · refine j_tableIn (off := 1564) (tgt := 1607) C dL_law_43 (by decide) (by decide) (by decide) (by decide) ?_
          exact op_knock (nn := 0) l hl E A C hX hbl hbA hLn (by omega) (by omega) (by omega) rfl rfl rfl rfl hR go
        · refine j_tableIn (off := 1577) (tgt := 1620) C dL_law_43 (by decide) (by decide) (by decide) (by decide) ?_
          exact op_house (nn := 0) l hl E A C hX hbl hbA hLn (by omega) (by omega) (by omega) rfl rfl rfl rfl hR go
        · refine j_tableIn (off := 1605) (tgt := 1648) C dL_law_43 (by decide) (by decide) (by decide) (by decide) ?_
          exact op_isSound (nn := 0) l hl E A C hX hbl hbA hLn (by omega) (by omega) (by omega) rfl rfl rfl rfl hR go
        · refine j_tableIn (off := 1618) (tgt := 1661) C dL_law_43 (by decide) (by decide) (by decide) (by decide) ?_
          exact op_digest (nn := 0) l hl E A C hX hbl hbA hLn (by omega) (by omega) (by omega) rfl rfl rfl rfl hR go
