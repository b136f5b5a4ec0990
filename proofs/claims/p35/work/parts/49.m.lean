/-! contracts, laid by program (wip/gen) -/
abbrev gW (E : jE) (t sz sg la dk ot mo ou : Nat) (z g b : Nat → Int32) (cr ca cg ck : Int32) (on : Int64) (os : Value) (th re ak gv kn : Int32) (ro : Nat → Option Nat) (LL : List Nat) (ff : Nat → va_E) : va_W := mW E (t, .inr (2, [.ref sz, .ref sg, .ref la])) (sz, .inl (E.2.1, 9, .inl z)) (sg, .inl (E.2.1, 216, .inl g)) (la, .inl (E.2.1, 24, .inl b)) (dk, .inr (3, [.ref t, .int cr, .int ca, .int cg, .int ck])) (ot, .inr (4, [.long on, os])) mo ou th re ak gv kn ro LL ff
set_option maxHeartbeats 4000000 in
set_option maxRecDepth 100000 in
theorem op_length (l : Launch) (hl : l.stackTraces = false) (E : jE) (A : Nat → Prop) {t sz sg la dk ot mo ou : Nat} {z g b : Nat → Int32} {cr ca cg ck : Int32} {on : Int64} {os : Value} {th : Int32} {ro : Nat → Option Nat} {LL : List Nat} {ff : Nat → va_E} {p : Program} {e : Env} {R : Room} {s : State} {m : MethodId} {args : Array Value} {below : List Frame} {meth : Method} {c : Code} {Q : State → Prop} {nn mc ms bs Ln q cs sl : Nat} {xs : Nat → Int32} {x1 x2 x3 x4 : Int32} (C : jC p l e R s m args below meth c x code 7 ret 2000 mc ms E A) (hX : va_X bs Ln xs s s.heap) (hbl : bs < s.heap.size) (hbA : ¬ A bs) (hLn : Ln ≤ 2560) (hq : 5 * q + 5 ≤ Ln) (hmc : cs + 600 ≤ mc) (hms : sl + 10000 ≤ ms) (e1 : xs (5 * q + 1) = x1) (e2 : xs (5 * q + 2) = x2) (e3 : xs (5 * q + 3) = x3) (e4 : xs (5 * q + 4) = x4) (hR : Rel E z g ro LL ff) (kk : ∀ (z' g' b' : Nat → Int32) (cr' ca' cg' ck' : Int32) (on' : Int64) (os' : Value) (th' : Int32) (ro' : Nat → Option Nat) (L' : List Nat) (f' : Nat → va_E), Rel E z' g' ro' L' f' → jJ p l e R s m args below meth c E A 7 Q (cs + 600) (sl + 10000) 1645 [(4, .int (nI (5 * q))), (3, .ref ot), (2, .ref mo), (1, .ref dk), (0, .ref bs)] [] (gW E t sz sg la dk ot mo ou (z') (g') (b') (cr') (ca') (cg') (ck') (on') (os') (th') (cr') (ca') (cg') (ck') (ro') (L') (f'))) : jJ p l e R s m args below meth c E A 7 Q cs sl 882 [(4, .int (nI (5 * q))), (3, .ref ot), (2, .ref mo), (1, .ref dk), (0, .ref bs)] [] (gW E t sz sg la dk ot mo ou z g b cr ca cg ck on os th cr ca cg ck ro LL ff) := by
  have hT := hR.tx
  rcases seat_cases x1 9 (by decide) with ⟨i, hi, rfl⟩ | hbx1
  · skip
    rcases hR.1 i (by omega) with ⟨hz_i, hr_i⟩ | ⟨a_i, n_i, h_i, hn_i, hz_i, hr_i, hm_i, hf_i, hs_i⟩
    · skip
      refine j_aload_n C dL_law_882 rfl ?_
      refine j_aload_n C dL_law_883 rfl ?_
      refine j_iload C dL_law_884 rfl ?_
      refine j_iconst (v := (nI 1)) C dL_law_886 rfl ?_
      refine j_iadd (z := (nI (5 * q + 1))) C dL_law_887 (nI_add _ _) ?_
      refine j_sld (z := (nI i)) C hX hbl hbA (5 * q + 1) rfl (by omega) (by omega) e1 dL_law_888 ?_
      refine j_aload_n C dL_law_889 rfl ?_
      refine j_callSH C (w_length_r l E A (rr := z i) (f_length_k l E A hi)) ok_L_length w_759 (by decide) rfl rfl (Nat.le_of_ble_eq_true rfl) ⟨by omega, by omega⟩ dL_law_890 (fun _ _ h => ?_)
      obtain ⟨rfl, rfl⟩ := h
      refine j_istore (lv' := [(5, .int (nI 0)), (4, .int (nI (5 * q))), (3, .ref ot), (2, .ref mo), (1, .ref dk), (0, .ref bs)]) C dL_law_893 (by decide) rfl ?_
      refine j_aload_n C dL_law_895 rfl ?_
      refine j_aload_n C dL_law_896 rfl ?_
      refine j_iload C dL_law_897 rfl ?_
      refine j_iconst (v := (nI 1)) C dL_law_899 rfl ?_
      refine j_iadd (z := (nI (5 * q + 1))) C dL_law_900 (nI_add _ _) ?_
      refine j_sld (z := (nI i)) C hX hbl hbA (5 * q + 1) rfl (by omega) (by omega) e1 dL_law_901 ?_
      refine j_callVr C 6 (v := .int (-1)) (w := (gW E t sz sg la dk ot mo ou z g b cr ca cg ck ((z i).toInt64) os (nI 0) cr ca cg ck ro LL ff)) (g_length_m l E A hi hr_i) ok_X5_length w_1068 (by decide) rfl rfl (Nat.le_of_ble_eq_true rfl) rfl rfl ⟨by omega, by omega⟩ dL_law_902 ?_
      refine j_istore (lv' := [(6, .int (-1)), (5, .int (nI 0)), (4, .int (nI (5 * q))), (3, .ref ot), (2, .ref mo), (1, .ref dk), (0, .ref bs)]) C dL_law_905 (by decide) rfl ?_
      refine j_goto (tgt := 1645) C dL_law_907 (by decide) ?_
      refine j_lv (lv' := [(4, .int (nI (5 * q))), (3, .ref ot), (2, .ref mo), (1, .ref dk), (0, .ref bs)]) (by simp only [List.mem_cons, List.not_mem_nil, or_false, forall_eq_or_imp, forall_eq, true_or, or_true, and_self, Nat.add_zero]) ?_
      refine j_widen (k := cs + 600) (n := sl + 10000) (by omega) (by omega) ?_
      exact kk _ _ _ _ _ _ _ _ _ _ _ _ _ (hR)
    · skip
      refine j_aload_n C dL_law_882 rfl ?_
      refine j_aload_n C dL_law_883 rfl ?_
      refine j_iload C dL_law_884 rfl ?_
      refine j_iconst (v := (nI 1)) C dL_law_886 rfl ?_
      refine j_iadd (z := (nI (5 * q + 1))) C dL_law_887 (nI_add _ _) ?_
      refine j_sld (z := (nI i)) C hX hbl hbA (5 * q + 1) rfl (by omega) (by omega) e1 dL_law_888 ?_
      refine j_aload_n C dL_law_889 rfl ?_
      refine j_callSH C (w_length_r l E A (rr := z i) (f_length_k l E A hi)) ok_L_length w_759 (by decide) rfl rfl (Nat.le_of_ble_eq_true rfl) ⟨by omega, by omega⟩ dL_law_890 (fun _ _ h => ?_)
      obtain ⟨rfl, rfl⟩ := h
      refine j_istore (lv' := [(5, .int (nI 0)), (4, .int (nI (5 * q))), (3, .ref ot), (2, .ref mo), (1, .ref dk), (0, .ref bs)]) C dL_law_893 (by decide) rfl ?_
      refine j_aload_n C dL_law_895 rfl ?_
      refine j_aload_n C dL_law_896 rfl ?_
      refine j_iload C dL_law_897 rfl ?_
      refine j_iconst (v := (nI 1)) C dL_law_899 rfl ?_
      refine j_iadd (z := (nI (5 * q + 1))) C dL_law_900 (nI_add _ _) ?_
      refine j_sld (z := (nI i)) C hX hbl hbA (5 * q + 1) rfl (by omega) (by omega) e1 dL_law_901 ?_
      refine j_callVr C 6 (v := .int (nI n_i)) (w := (gW E t sz sg la dk ot mo ou z g b cr ca cg ck ((z i).toInt64) os (nI 0) cr ca cg ck ro LL ff)) (g_length_k l E A hi hr_i hm_i hf_i hn_i) ok_X5_length w_1068 (by decide) rfl rfl (Nat.le_of_ble_eq_true rfl) rfl rfl ⟨by omega, by omega⟩ dL_law_902 ?_
      refine j_istore (lv' := [(6, .int (nI n_i)), (5, .int (nI 0)), (4, .int (nI (5 * q))), (3, .ref ot), (2, .ref mo), (1, .ref dk), (0, .ref bs)]) C dL_law_905 (by decide) rfl ?_
      refine j_goto (tgt := 1645) C dL_law_907 (by decide) ?_
      refine j_lv (lv' := [(4, .int (nI (5 * q))), (3, .ref ot), (2, .ref mo), (1, .ref dk), (0, .ref bs)]) (by simp only [List.mem_cons, List.not_mem_nil, or_false, forall_eq_or_imp, forall_eq, true_or, or_true, and_self, Nat.add_zero]) ?_
      refine j_widen (k := cs + 600) (n := sl + 10000) (by omega) (by omega) ?_
      exact kk _ _ _ _ _ _ _ _ _ _ _ _ _ (hR)
  · skip
    refine j_aload_n C dL_law_882 rfl ?_
    refine j_aload_n C dL_law_883 rfl ?_
    refine j_iload C dL_law_884 rfl ?_
    refine j_iconst (v := (nI 1)) C dL_law_886 rfl ?_
    refine j_iadd (z := (nI (5 * q + 1))) C dL_law_887 (nI_add _ _) ?_
    refine j_sld (z := x1) C hX hbl hbA (5 * q + 1) rfl (by omega) (by omega) e1 dL_law_888 ?_
    refine j_aload_n C dL_law_889 rfl ?_
    refine j_callSH C (w_length_jIO l E A (f_length_b l hl E A hbx1)) ok_L_length w_759 (by decide) rfl rfl (Nat.le_of_ble_eq_true rfl) ⟨by omega, by omega⟩ dL_law_890 (fun _ _ h => ?_)
    obtain ⟨rfl, rfl⟩ := h
    refine j_istore (lv' := [(5, .int (nI 1)), (4, .int (nI (5 * q))), (3, .ref ot), (2, .ref mo), (1, .ref dk), (0, .ref bs)]) C dL_law_893 (by decide) rfl ?_
    refine j_aload_n C dL_law_895 rfl ?_
    refine j_aload_n C dL_law_896 rfl ?_
    refine j_iload C dL_law_897 rfl ?_
    refine j_iconst (v := (nI 1)) C dL_law_899 rfl ?_
    refine j_iadd (z := (nI (5 * q + 1))) C dL_law_900 (nI_add _ _) ?_
    refine j_sld (z := x1) C hX hbl hbA (5 * q + 1) rfl (by omega) (by omega) e1 dL_law_901 ?_
    refine j_callVr C 6 (v := .int (nI 0)) (w := (gW E t sz sg la dk ot mo ou z g b cr ca cg ck on os (nI 1) cr ca cg ck ro LL ff)) (g_length_b l E A hbx1) ok_X5_length w_1068 (by decide) rfl rfl (Nat.le_of_ble_eq_true rfl) rfl rfl ⟨by omega, by omega⟩ dL_law_902 ?_
    refine j_istore (lv' := [(6, .int (nI 0)), (5, .int (nI 1)), (4, .int (nI (5 * q))), (3, .ref ot), (2, .ref mo), (1, .ref dk), (0, .ref bs)]) C dL_law_905 (by decide) rfl ?_
    refine j_goto (tgt := 1645) C dL_law_907 (by decide) ?_
    refine j_lv (lv' := [(4, .int (nI (5 * q))), (3, .ref ot), (2, .ref mo), (1, .ref dk), (0, .ref bs)]) (by simp only [List.mem_cons, List.not_mem_nil, or_false, forall_eq_or_imp, forall_eq, true_or, or_true, and_self, Nat.add_zero]) ?_
    refine j_widen (k := cs + 600) (n := sl + 10000) (by omega) (by omega) ?_
    exact kk _ _ _ _ _ _ _ _ _ _ _ _ _ (hR)
set_option maxHeartbeats 4000000 in
set_option maxRecDepth 100000 in
theorem op_knock (l : Launch) (hl : l.stackTraces = false) (E : jE) (A : Nat → Prop) {t sz sg la dk ot mo ou : Nat} {z g b : Nat → Int32} {cr ca cg ck : Int32} {on : Int64} {os : Value} {th : Int32} {ro : Nat → Option Nat} {LL : List Nat} {ff : Nat → va_E} {p : Program} {e : Env} {R : Room} {s : State} {m : MethodId} {args : Array Value} {below : List Frame} {meth : Method} {c : Code} {Q : State → Prop} {nn mc ms bs Ln q cs sl : Nat} {xs : Nat → Int32} {x1 x2 x3 x4 : Int32} (C : jC p l e R s m args below meth c x code 7 ret 2000 mc ms E A) (hX : va_X bs Ln xs s s.heap) (hbl : bs < s.heap.size) (hbA : ¬ A bs) (hLn : Ln ≤ 2560) (hq : 5 * q + 5 ≤ Ln) (hmc : cs + 600 ≤ mc) (hms : sl + 10000 ≤ ms) (e1 : xs (5 * q + 1) = x1) (e2 : xs (5 * q + 2) = x2) (e3 : xs (5 * q + 3) = x3) (e4 : xs (5 * q + 4) = x4) (hR : Rel E z g ro LL ff) (kk : ∀ (z' g' b' : Nat → Int32) (cr' ca' cg' ck' : Int32) (on' : Int64) (os' : Value) (th' : Int32) (ro' : Nat → Option Nat) (L' : List Nat) (f' : Nat → va_E), Rel E z' g' ro' L' f' → jJ p l e R s m args below meth c E A 7 Q (cs + 600) (sl + 10000) 1645 [(4, .int (nI (5 * q))), (3, .ref ot), (2, .ref mo), (1, .ref dk), (0, .ref bs)] [] (gW E t sz sg la dk ot mo ou (z') (g') (b') (cr') (ca') (cg') (ck') (on') (os') (th') (cr') (ca') (cg') (ck') (ro') (L') (f'))) : jJ p l e R s m args below meth c E A 7 Q cs sl 1578 [(4, .int (nI (5 * q))), (3, .ref ot), (2, .ref mo), (1, .ref dk), (0, .ref bs)] [] (gW E t sz sg la dk ot mo ou z g b cr ca cg ck on os th cr ca cg ck ro LL ff) := by
  have hT := hR.tx
  refine j_aload_n C dL_law_1578 rfl ?_
  refine j_callVr C 4 (v := .int (ck + nI 1)) (w := (gW E t sz sg la dk ot mo ou z g b cr ca cg (ck + nI 1) on os th cr ca cg ck ro LL ff)) (f_knock_k l E A) ok_X3_knock w_130 (by decide) rfl rfl (Nat.le_of_ble_eq_true rfl) rfl rfl ⟨by omega, by omega⟩ dL_law_1579 ?_
  refine j_aload_n C dL_law_1582 rfl ?_
  refine j_callVr C 6 (v := .int (ck + nI 1)) (w := (gW E t sz sg la dk ot mo ou z g b cr ca cg (ck + nI 1) on os (nI 0) cr ca cg (ck + nI 1) ro LL ff)) (g_knock_k l E A) ok_X5_knock w_1177 (by decide) rfl rfl (Nat.le_of_ble_eq_true rfl) rfl rfl ⟨by omega, by omega⟩ dL_law_1583 ?_
  refine j_icmp_eq (tgt := 1645) C dL_law_1586 (by decide) (fun h1586 => ?_) (fun h1586 => ?_)
  · skip
    refine j_lv (lv' := [(4, .int (nI (5 * q))), (3, .ref ot), (2, .ref mo), (1, .ref dk), (0, .ref bs)]) (by simp only [List.mem_cons, List.not_mem_nil, or_false, forall_eq_or_imp, forall_eq, true_or, or_true, and_self, Nat.add_zero]) ?_
    refine j_widen (k := cs + 600) (n := sl + 10000) (by omega) (by omega) ?_
    exact kk _ _ _ _ _ _ _ _ _ _ _ _ _ (hR)
  · skip
    refine j_iconst (v := (nI 0)) C dL_law_1589 rfl ?_
    exact j_zret C hQ rfl rfl dL_law_1590 ⟨by omega, by omega⟩ ⟨rfl, rfl⟩
