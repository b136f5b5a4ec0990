/-! contracts, laid by program (wip/gen) -/
theorem max18 {g : Nat} (h : g ≤ 18) : (if nI g < nI 18 then nI 18 else nI g) = nI 18 := by
  by_cases q : g = 18
  · subst q; rfl
  · rw [if_pos ((nI_ltI (by omega) (by omega)).mpr (by omega))]
theorem sub_le0 {q n : Nat} (h : q ≤ n) (hn : n < 100) : nI q - nI n ≤ 0 := by
  rw [Int32.le_iff_toInt_le, pk_sub_toInt (by omega) (by omega), Int32.toInt_zero]; omega
abbrev jSz (n : Nat) : Prop := n = 16 ∨ n = 34
theorem fit_b (x : Int32) : fits .byte (.int (vp_nar .byte x.toInt8.toInt32)) = true := pk_fb _
set_option maxHeartbeats 4000000 in
set_option maxRecDepth 100000 in
theorem c_newLength (l : Launch) (E : jE) (A : Nat → Prop) {ws : va_W} {g : Nat} (hg : g ≤ 18) : jMet l yJ8_newLength_cabcc cJ8_newLength_cabcc 4 (some .int) 0 0 0 E A [.int (nI 16), .int (nI g), .int (nI 18)] ws (jR (some (.int (nI 34))) ws) jNo := by
  refine jMet.intro' [(0, .int (nI 16)), (1, .int (nI g)), (2, .int (nI 18))] (by decide) (Nat.le_of_ble_eq_true rfl) rfl ?_
  intro p e R s m args below meth c Q C hQ
  refine j_iload_n C dJ8_newLength_cabcc_0 rfl ?_
  refine j_iload_n C dJ8_newLength_cabcc_1 rfl ?_
  refine j_iload_n C dJ8_newLength_cabcc_2 rfl ?_
  refine j_mmax (z := (nI 18)) C w_548 w_235 w_41 w_236 (Nat.le_of_ble_eq_true rfl) ⟨Nat.le_of_ble_eq_true rfl, Nat.le_of_ble_eq_true rfl⟩ dJ8_newLength_cabcc_3 (max18 hg) ?_
  refine j_iadd (z := (nI 34)) C dJ8_newLength_cabcc_6 (nI_add _ _) ?_
  refine j_istore_n (lv' := [(3, .int (nI 34)), (0, .int (nI 16)), (1, .int (nI g)), (2, .int (nI 18))]) C dJ8_newLength_cabcc_7 (by decide) rfl ?_
  refine j_iconst (v := (nI 0)) C dJ8_newLength_cabcc_8 rfl ?_
  refine j_iload_n C dJ8_newLength_cabcc_9 rfl ?_
  refine j_icmpn_ge_f (tgt := 21) C dJ8_newLength_cabcc_10 (by decide) (by omega) (by omega) (by omega) ?_
  refine j_iload_n C dJ8_newLength_cabcc_13 rfl ?_
  refine j_ldc C w_549 dJ8_newLength_cabcc_14 ?_
  refine j_icmp_gt_f (tgt := 21) C dJ8_newLength_cabcc_16 (by decide) (by decide) ?_
  refine j_iload_n C dJ8_newLength_cabcc_19 rfl ?_
  exact j_iret C hQ rfl dJ8_newLength_cabcc_20 ⟨Nat.le_of_ble_eq_true rfl, Nat.le_of_ble_eq_true rfl⟩ ⟨rfl, rfl⟩
set_option maxHeartbeats 4000000 in
set_option maxRecDepth 100000 in
theorem c_newCapacity (l : Launch) (E : jE) (A : Nat → Prop) {ws : va_W} {sb va cnt q : Nat} {f : Nat → Int32} (hq : 16 < q) (hq2 : q ≤ 34) : jMet l yJ5_newCapacity_0f7a4 cJ5_newCapacity_0f7a4 6 (some .int) 1 0 0 E A [.ref sb, .int (nI q)] ((sb, .inr (1, [.ref va, .int (nI 0), .int (nI 0), .int (nI cnt)])) :: (va, .inl (E.2.2.1, 16, .inl f)) :: ws) (jR (some (.int (nI 34))) ((sb, .inr (1, [.ref va, .int (nI 0), .int (nI 0), .int (nI cnt)])) :: (va, .inl (E.2.2.1, 16, .inl f)) :: ws)) jNo := by
  refine jMet.intro' [(0, .ref sb), (1, .int (nI q))] (by decide) (Nat.le_of_ble_eq_true rfl) rfl ?_
  intro p e R s m args below meth c Q C hQ
  refine j_aload_n C dJ5_newCapacity_0f7a4_0 rfl ?_
  refine j_get C 0 rfl inj_J4 rfl 0 (by decide) w_517 rfl dJ5_newCapacity_0f7a4_1 ?_
  refine j_alen C 1 1 rfl rfl rfl dJ5_newCapacity_0f7a4_4 ?_
  refine j_istore_n (lv' := [(2, .int (nI 16)), (0, .ref sb), (1, .int (nI q))]) C dJ5_newCapacity_0f7a4_5 (by decide) rfl ?_
  refine j_iload_n C dJ5_newCapacity_0f7a4_6 rfl ?_
  refine j_aload_n C dJ5_newCapacity_0f7a4_7 rfl ?_
  refine j_get C 0 rfl inj_J4 rfl 1 (by decide) w_518 rfl dJ5_newCapacity_0f7a4_8 ?_
  refine j_ishl (z := (nI q)) C dJ5_newCapacity_0f7a4_11 rfl ?_
  refine j_istore_n (lv' := [(3, .int (nI q)), (2, .int (nI 16)), (0, .ref sb), (1, .int (nI q))]) C dJ5_newCapacity_0f7a4_12 (by decide) rfl ?_
  refine j_iload_n C dJ5_newCapacity_0f7a4_13 rfl ?_
  refine j_iload_n C dJ5_newCapacity_0f7a4_14 rfl ?_
  refine j_isub (z := (nI (q - 16))) C dJ5_newCapacity_0f7a4_15 (pk_sub (by omega)) ?_
  refine j_istore (lv' := [(4, .int (nI (q - 16))), (3, .int (nI q)), (2, .int (nI 16)), (0, .ref sb), (1, .int (nI q))]) C dJ5_newCapacity_0f7a4_16 (by decide) rfl ?_
  refine j_iload_n C dJ5_newCapacity_0f7a4_18 rfl ?_
  refine j_iload C dJ5_newCapacity_0f7a4_19 rfl ?_
  refine j_iload_n C dJ5_newCapacity_0f7a4_21 rfl ?_
  refine j_iconst (v := (nI 2)) C dJ5_newCapacity_0f7a4_22 rfl ?_
  refine j_aload_n C dJ5_newCapacity_0f7a4_23 rfl ?_
  refine j_get C 0 rfl inj_J4 rfl 1 (by decide) w_518 rfl dJ5_newCapacity_0f7a4_24 ?_
  refine j_ishl (z := (nI 2)) C dJ5_newCapacity_0f7a4_27 rfl ?_
  refine j_iadd (z := (nI 18)) C dJ5_newCapacity_0f7a4_28 (nI_add _ _) ?_
  refine j_callS C (c_newLength l E A (by omega)) ok_J8_newLength_cabcc w_545 (by decide) rfl rfl (Nat.le_of_ble_eq_true rfl) ⟨Nat.le_of_ble_eq_true rfl, Nat.le_of_ble_eq_true rfl⟩ dJ5_newCapacity_0f7a4_29 (fun _ _ h => h.elim) (fun _ _ h => ?_)
  obtain ⟨rfl, rfl⟩ := h
  refine j_istore (lv' := [(5, .int (nI 34)), (4, .int (nI (q - 16))), (3, .int (nI q)), (2, .int (nI 16)), (0, .ref sb), (1, .int (nI q))]) C dJ5_newCapacity_0f7a4_32 (by decide) rfl ?_
  refine j_iload C dJ5_newCapacity_0f7a4_34 rfl ?_
  refine j_ldc C w_553 dJ5_newCapacity_0f7a4_36 ?_
  refine j_icmp_ne_t (tgt := 51) C dJ5_newCapacity_0f7a4_38 (by decide) (by decide) ?_
  refine j_iload C dJ5_newCapacity_0f7a4_51 rfl ?_
  refine j_aload_n C dJ5_newCapacity_0f7a4_53 rfl ?_
  refine j_get C 0 rfl inj_J4 rfl 1 (by decide) w_518 rfl dJ5_newCapacity_0f7a4_54 ?_
  refine j_ishr (z := (nI 34)) C dJ5_newCapacity_0f7a4_57 rfl ?_
  exact j_iret C hQ rfl dJ5_newCapacity_0f7a4_58 ⟨Nat.le_of_ble_eq_true rfl, Nat.le_of_ble_eq_true rfl⟩ ⟨rfl, rfl⟩
set_option maxHeartbeats 4000000 in
set_option maxRecDepth 100000 in
theorem c_copyOf (l : Launch) (E : jE) (A : Nat → Prop) {ws : va_W} {va : Nat} {f : Nat → Int32} (hf : sb_Fit f) : jMet l yJ7_copyOf_9075b cJ7_copyOf_9075b 3 (some (.array .byte)) 0 1 34 E A [.ref va, .int (nI 34)] ((va, .inl (E.2.2.1, 16, .inl f)) :: ws) (fun vv ww => ∃ (v2 : Nat) (f2 : Nat → Int32), sb_Fit f2 ∧ vv = some (.ref v2) ∧ ww = (v2, .inl (E.2.2.1, 34, .inl f2)) :: ((va, .inl (E.2.2.1, 16, .inl f)) :: ws)) jNo := by
  refine jMet.intro' [(0, .ref va), (1, .int (nI 34))] (by decide) (Nat.le_of_ble_eq_true rfl) rfl ?_
  intro p e R s m args below meth c Q C hQ
  refine j_iload_n C dJ7_copyOf_9075b_0 rfl ?_
  refine j_aload_n C dJ7_copyOf_9075b_1 rfl ?_
  refine j_alen C 0 1 rfl rfl rfl dJ7_copyOf_9075b_2 ?_
  refine j_icmpn_ne_t (tgt := 14) C dJ7_copyOf_9075b_3 (by decide) (by omega) (by omega) (by omega) ?_
  refine j_iload_n C dJ7_copyOf_9075b_14 rfl ?_
  refine j_newB C 34 w_342 rfl (by omega) (by omega) (by omega) dJ7_copyOf_9075b_15 (fun v1 => ?_)
  refine j_front ?_
  refine j_astore_n (lv' := [(2, .ref v1), (0, .ref va), (1, .int (nI 34))]) C dJ7_copyOf_9075b_17 (by decide) rfl ?_
  refine j_aload_n C dJ7_copyOf_9075b_18 rfl ?_
  refine j_iconst (v := (nI 0)) C dJ7_copyOf_9075b_19 rfl ?_
  refine j_aload_n C dJ7_copyOf_9075b_20 rfl ?_
  refine j_iconst (v := (nI 0)) C dJ7_copyOf_9075b_21 rfl ?_
  refine j_aload_n C dJ7_copyOf_9075b_22 rfl ?_
  refine j_alen C 1 1 rfl rfl rfl dJ7_copyOf_9075b_23 ?_
  refine j_iload_n C dJ7_copyOf_9075b_24 rfl ?_
  refine j_mmin (z := (nI 16)) C w_564 w_178 w_41 w_179 (Nat.le_of_ble_eq_true rfl) ⟨Nat.le_of_ble_eq_true rfl, Nat.le_of_ble_eq_true rfl⟩ dJ7_copyOf_9075b_25 (by decide) ?_
  refine j_copyB (ws' := ((v1, .inl (E.2.2.1, 34, .inl (va_cpy f (fun _ => 0) 0 0 16))) :: (va, .inl (E.2.2.1, 16, .inl f)) :: ws)) C 1 0 0 0 16 w_565 rfl rfl (by omega) (by omega) (by omega) (by omega) hf (Nat.le_of_ble_eq_true rfl) dJ7_copyOf_9075b_28 rfl ?_
  refine j_aload_n C dJ7_copyOf_9075b_31 rfl ?_
  exact j_aret C hQ rfl (Or.inr ⟨_, rfl⟩) dJ7_copyOf_9075b_32 ⟨Nat.le_of_ble_eq_true rfl, Nat.le_of_ble_eq_true rfl⟩ ⟨_, _, (sb_fitC hf sb_fit0), rfl, rfl⟩
set_option maxHeartbeats 4000000 in
set_option maxRecDepth 100000 in
theorem c_ens_0 (l : Launch) (E : jE) (A : Nat → Prop) {ws : va_W} {sb va cnt q n : Nat} {f : Nat → Int32} (hn : jSz n) (hq : q ≤ n) (hf : sb_Fit f) : jMet l yJ5_ensureCapacityInternal_d00df cJ5_ensureCapacityInternal_d00df 3 (none : Option Jvm.ClassFile.FieldType) 2 1 34 E A [.ref sb, .int (nI q)] ((sb, .inr (1, [.ref va, .int (nI 0), .int (nI 0), .int (nI cnt)])) :: (va, .inl (E.2.2.1, n, .inl f)) :: ws) (fun vv ww => ∃ (v2 n2 : Nat) (f2 : Nat → Int32), jSz n2 ∧ q ≤ n2 ∧ sb_Fit f2 ∧ vv = none ∧ ww = (sb, .inr (1, [.ref v2, .int (nI 0), .int (nI 0), .int (nI cnt)])) :: (v2, .inl (E.2.2.1, n2, .inl f2)) :: ws) jNo := by
  refine jMet.intro' [(0, .ref sb), (1, .int (nI q))] (by decide) (Nat.le_of_ble_eq_true rfl) rfl ?_
  intro p e R s m args below meth c Q C hQ
  refine j_aload_n C dJ5_ensureCapacityInternal_d00df_0 rfl ?_
  refine j_get C 0 rfl inj_J4 rfl 0 (by decide) w_517 rfl dJ5_ensureCapacityInternal_d00df_1 ?_
  refine j_alen C 1 1 rfl rfl rfl dJ5_ensureCapacityInternal_d00df_4 ?_
  refine j_aload_n C dJ5_ensureCapacityInternal_d00df_5 rfl ?_
  refine j_get C 0 rfl inj_J4 rfl 1 (by decide) w_518 rfl dJ5_ensureCapacityInternal_d00df_6 ?_
  refine j_ishr (z := (nI n)) C dJ5_ensureCapacityInternal_d00df_9 rfl ?_
  refine j_istore_n (lv' := [(2, .int (nI n)), (0, .ref sb), (1, .int (nI q))]) C dJ5_ensureCapacityInternal_d00df_10 (by decide) rfl ?_
  refine j_iload_n C dJ5_ensureCapacityInternal_d00df_11 rfl ?_
  refine j_iload_n C dJ5_ensureCapacityInternal_d00df_12 rfl ?_
  refine j_isub (z := (nI q - nI n)) C dJ5_ensureCapacityInternal_d00df_13 rfl ?_
  refine j_if_le_t (tgt := 38) C dJ5_ensureCapacityInternal_d00df_14 (by decide) (sub_le0 hq (by omega)) ?_
  exact j_vret C hQ rfl dJ5_ensureCapacityInternal_d00df_38 ⟨Nat.le_of_ble_eq_true rfl, Nat.le_of_ble_eq_true rfl⟩ ⟨_, _, _, hn, hq, hf, rfl, rfl⟩
set_option maxHeartbeats 4000000 in
set_option maxRecDepth 100000 in
theorem c_ens_1 (l : Launch) (E : jE) (A : Nat → Prop) {ws : va_W} {sb va cnt q : Nat} {f : Nat → Int32} (hq : 16 < q) (hq2 : q ≤ 34) (hf : sb_Fit f) : jMet l yJ5_ensureCapacityInternal_d00df cJ5_ensureCapacityInternal_d00df 3 (none : Option Jvm.ClassFile.FieldType) 2 1 34 E A [.ref sb, .int (nI q)] ((sb, .inr (1, [.ref va, .int (nI 0), .int (nI 0), .int (nI cnt)])) :: (va, .inl (E.2.2.1, 16, .inl f)) :: ws) (fun vv ww => ∃ (v2 n2 : Nat) (f2 : Nat → Int32), jSz n2 ∧ q ≤ n2 ∧ sb_Fit f2 ∧ vv = none ∧ ww = (sb, .inr (1, [.ref v2, .int (nI 0), .int (nI 0), .int (nI cnt)])) :: (v2, .inl (E.2.2.1, n2, .inl f2)) :: ws) jNo := by
  refine jMet.intro' [(0, .ref sb), (1, .int (nI q))] (by decide) (Nat.le_of_ble_eq_true rfl) rfl ?_
  intro p e R s m args below meth c Q C hQ
  refine j_aload_n C dJ5_ensureCapacityInternal_d00df_0 rfl ?_
  refine j_get C 0 rfl inj_J4 rfl 0 (by decide) w_517 rfl dJ5_ensureCapacityInternal_d00df_1 ?_
  refine j_alen C 1 1 rfl rfl rfl dJ5_ensureCapacityInternal_d00df_4 ?_
  refine j_aload_n C dJ5_ensureCapacityInternal_d00df_5 rfl ?_
  refine j_get C 0 rfl inj_J4 rfl 1 (by decide) w_518 rfl dJ5_ensureCapacityInternal_d00df_6 ?_
  refine j_ishr (z := (nI 16)) C dJ5_ensureCapacityInternal_d00df_9 rfl ?_
  refine j_istore_n (lv' := [(2, .int (nI 16)), (0, .ref sb), (1, .int (nI q))]) C dJ5_ensureCapacityInternal_d00df_10 (by decide) rfl ?_
  refine j_iload_n C dJ5_ensureCapacityInternal_d00df_11 rfl ?_
  refine j_iload_n C dJ5_ensureCapacityInternal_d00df_12 rfl ?_
  refine j_isub (z := (nI (q - 16))) C dJ5_ensureCapacityInternal_d00df_13 (pk_sub (by omega)) ?_
  refine j_ifn_le_f (tgt := 38) C dJ5_ensureCapacityInternal_d00df_14 (by decide) (by omega) (by omega) ?_
  refine j_aload_n C dJ5_ensureCapacityInternal_d00df_17 rfl ?_
  refine j_aload_n C dJ5_ensureCapacityInternal_d00df_18 rfl ?_
  refine j_get C 0 rfl inj_J4 rfl 0 (by decide) w_517 rfl dJ5_ensureCapacityInternal_d00df_19 ?_
  refine j_aload_n C dJ5_ensureCapacityInternal_d00df_22 rfl ?_
  refine j_iload_n C dJ5_ensureCapacityInternal_d00df_23 rfl ?_
  refine j_callU C (q0 := 0) (Cn := "java/lang/StringBuilder") (owner := "java/lang/AbstractStringBuilder") (c_newCapacity l E A (by omega) (by omega)) okU_J5_newCapacity_0f7a4 w_541 w_1209 ⟨by decide, by decide⟩ rfl w_543 w_544 (j_selP C.2.2.2.2.1 ⟨by decide, by decide⟩ w_500 w_542 w_543 w_571 rfl) (by decide) rfl rfl (Nat.le_of_ble_eq_true rfl) rfl rfl ⟨Nat.le_of_ble_eq_true rfl, Nat.le_of_ble_eq_true rfl⟩ dJ5_ensureCapacityInternal_d00df_24 (fun _ _ h => ?_)
  obtain ⟨rfl, rfl⟩ := h
  refine j_aload_n C dJ5_ensureCapacityInternal_d00df_27 rfl ?_
  refine j_get C 0 rfl inj_J4 rfl 1 (by decide) w_518 rfl dJ5_ensureCapacityInternal_d00df_28 ?_
  refine j_ishl (z := (nI 34)) C dJ5_ensureCapacityInternal_d00df_31 rfl ?_
  refine j_perm (pre := [(sb, .inr (1, [.ref va, .int (nI 0), .int (nI 0), .int (nI cnt)])), (va, .inl (E.2.2.1, 16, .inl f))]) (pre' := [(va, .inl (E.2.2.1, 16, .inl f)), (sb, .inr (1, [.ref va, .int (nI 0), .int (nI 0), .int (nI cnt)]))]) (tl := ws) [1, 0] rfl (by decide) ?_
  refine j_callS C (c_copyOf l E A hf) ok_J7_copyOf_9075b w_554 (by decide) rfl rfl (Nat.le_of_ble_eq_true rfl) ⟨Nat.le_of_ble_eq_true rfl, Nat.le_of_ble_eq_true rfl⟩ dJ5_ensureCapacityInternal_d00df_32 (fun _ _ h => h.elim) (fun _ _ h => ?_)
  obtain ⟨v2, f2, hf2, rfl, rfl⟩ := h
  refine j_put (ws' := ((v2, .inl (E.2.2.1, 34, .inl f2)) :: (va, .inl (E.2.2.1, 16, .inl f)) :: (sb, .inr (1, [.ref v2, .int (nI 0), .int (nI 0), .int (nI cnt)])) :: ws)) C 2 rfl inj_J4 tyJ4 tyJ4_ok nmJ4 rfl 0 (by decide) w_517 rfl (tyJ4_ok 0 (by decide)) rfl rfl (Nat.le_of_ble_eq_true rfl) dJ5_ensureCapacityInternal_d00df_35 rfl ?_
  refine j_perm (pre := [(v2, .inl (E.2.2.1, 34, .inl f2)), (va, .inl (E.2.2.1, 16, .inl f)), (sb, .inr (1, [.ref v2, .int (nI 0), .int (nI 0), .int (nI cnt)]))]) (pre' := [(sb, .inr (1, [.ref v2, .int (nI 0), .int (nI 0), .int (nI cnt)])), (v2, .inl (E.2.2.1, 34, .inl f2))]) (tl := ws) [2, 0] rfl (by decide) ?_
  exact j_vret C hQ rfl dJ5_ensureCapacityInternal_d00df_38 ⟨Nat.le_of_ble_eq_true rfl, Nat.le_of_ble_eq_true rfl⟩ ⟨_, _, _, Or.inr rfl, by omega, hf2, rfl, rfl⟩
theorem c_ens (l : Launch) (E : jE) (A : Nat → Prop) {ws : va_W} {sb va cnt q n : Nat} {f : Nat → Int32} (hn : jSz n) (hq : q ≤ 34) (hf : sb_Fit f) : jMet l yJ5_ensureCapacityInternal_d00df cJ5_ensureCapacityInternal_d00df 3 (none : Option Jvm.ClassFile.FieldType) 2 1 34 E A [.ref sb, .int (nI q)] ((sb, .inr (1, [.ref va, .int (nI 0), .int (nI 0), .int (nI cnt)])) :: (va, .inl (E.2.2.1, n, .inl f)) :: ws) (fun vv ww => ∃ (v2 n2 : Nat) (f2 : Nat → Int32), jSz n2 ∧ q ≤ n2 ∧ sb_Fit f2 ∧ vv = none ∧ ww = (sb, .inr (1, [.ref v2, .int (nI 0), .int (nI 0), .int (nI cnt)])) :: (v2, .inl (E.2.2.1, n2, .inl f2)) :: ws) jNo := by
  by_cases h : q ≤ n
  · exact c_ens_0 l E A hn h hf
  · rcases hn with rfl | rfl
    · exact c_ens_1 l E A (by omega) hq hf
    · omega
set_option maxHeartbeats 4000000 in
set_option maxRecDepth 100000 in
theorem c_isLatin1 (l : Launch) (E : jE) (A : Nat → Prop) {ws : va_W} {sb va cnt : Nat} : jMet l yJ5_isLatin1_aae02 cJ5_isLatin1_aae02 1 (some .boolean) 0 0 0 E A [.ref sb] ((sb, .inr (1, [.ref va, .int (nI 0), .int (nI 0), .int (nI cnt)])) :: ws) (jR (some (.int (nI 1))) ((sb, .inr (1, [.ref va, .int (nI 0), .int (nI 0), .int (nI cnt)])) :: ws)) jNo := by
  refine jMet.intro' [(0, .ref sb)] (by decide) (Nat.le_of_ble_eq_true rfl) rfl ?_
  intro p e R s m args below meth c Q C hQ
  refine j_compact C w_508 dJ5_isLatin1_aae02_0 ?_
  refine j_ifn_eq_f (tgt := 17) C dJ5_isLatin1_aae02_3 (by decide) (by omega) (by omega) ?_
  refine j_aload_n C dJ5_isLatin1_aae02_6 rfl ?_
  refine j_get C 0 rfl inj_J4 rfl 1 (by decide) w_518 rfl dJ5_isLatin1_aae02_7 ?_
  refine j_ifn_ne_f (tgt := 17) C dJ5_isLatin1_aae02_10 (by decide) (by omega) (by omega) ?_
  refine j_iconst (v := (nI 1)) C dJ5_isLatin1_aae02_13 rfl ?_
  refine j_goto (tgt := 18) C dJ5_isLatin1_aae02_14 (by decide) ?_
  exact j_zret C hQ rfl rfl dJ5_isLatin1_aae02_18 ⟨Nat.le_of_ble_eq_true rfl, Nat.le_of_ble_eq_true rfl⟩ ⟨rfl, rfl⟩
set_option maxHeartbeats 4000000 in
set_option maxRecDepth 100000 in
theorem c_canEncode (l : Launch) (E : jE) (A : Nat → Prop) {ws : va_W} {x : Int32} (hx : ¬ nI 255 < x) : jMet l yJ1_canEncode_fc78d cJ1_canEncode_fc78d 1 (some .boolean) 0 0 0 E A [.int x] ws (jR (some (.int (nI 1))) ws) jNo := by
  refine jMet.intro' [(0, .int x)] (by decide) (Nat.le_of_ble_eq_true rfl) rfl ?_
  intro p e R s m args below meth c Q C hQ
  refine j_iload_n C dJ1_canEncode_fc78d_0 rfl ?_
  refine j_sipush (v := nI 255) C dJ1_canEncode_fc78d_1 rfl ?_
  refine j_icmp_gt_f (tgt := 11) C dJ1_canEncode_fc78d_4 (by decide) hx ?_
  refine j_iconst (v := (nI 1)) C dJ1_canEncode_fc78d_7 rfl ?_
  refine j_goto (tgt := 12) C dJ1_canEncode_fc78d_8 (by decide) ?_
  exact j_zret C hQ rfl rfl dJ1_canEncode_fc78d_12 ⟨Nat.le_of_ble_eq_true rfl, Nat.le_of_ble_eq_true rfl⟩ ⟨rfl, rfl⟩
set_option maxHeartbeats 4000000 in
set_option maxRecDepth 100000 in
theorem c_getValue (l : Launch) (E : jE) (A : Nat → Prop) {ws : va_W} {sb va cnt : Nat} : jMet l yJ5_getValue_6d5f1 cJ5_getValue_6d5f1 1 (some (.array .byte)) 0 0 0 E A [.ref sb] ((sb, .inr (1, [.ref va, .int (nI 0), .int (nI 0), .int (nI cnt)])) :: ws) (jR (some (.ref va)) ((sb, .inr (1, [.ref va, .int (nI 0), .int (nI 0), .int (nI cnt)])) :: ws)) jNo := by
  refine jMet.intro' [(0, .ref sb)] (by decide) (Nat.le_of_ble_eq_true rfl) rfl ?_
  intro p e R s m args below meth c Q C hQ
  refine j_aload_n C dJ5_getValue_6d5f1_0 rfl ?_
  refine j_get C 0 rfl inj_J4 rfl 0 (by decide) w_517 rfl dJ5_getValue_6d5f1_1 ?_
  exact j_aret C hQ rfl (Or.inr ⟨_, rfl⟩) dJ5_getValue_6d5f1_4 ⟨Nat.le_of_ble_eq_true rfl, Nat.le_of_ble_eq_true rfl⟩ ⟨rfl, rfl⟩
set_option maxHeartbeats 4000000 in
set_option maxRecDepth 100000 in
theorem c_sbLength (l : Launch) (E : jE) (A : Nat → Prop) {ws : va_W} {sb va cnt : Nat} : jMet l yJ4_length_8abf5 cJ4_length_8abf5 1 (some .int) 0 0 0 E A [.ref sb] ((sb, .inr (1, [.ref va, .int (nI 0), .int (nI 0), .int (nI cnt)])) :: ws) (jR (some (.int (nI cnt))) ((sb, .inr (1, [.ref va, .int (nI 0), .int (nI 0), .int (nI cnt)])) :: ws)) jNo := by
  refine jMet.intro' [(0, .ref sb)] (by decide) (Nat.le_of_ble_eq_true rfl) rfl ?_
  intro p e R s m args below meth c Q C hQ
  refine j_aload_n C dJ4_length_8abf5_0 rfl ?_
  refine j_callSU C (q0 := 0) (Cn := "java/lang/StringBuilder") (c_sbLength l E A) okU_J5_length_8abf5 w_645 w_641 w_529 w_500 (by decide) (by decide) rfl rfl (Nat.le_of_ble_eq_true rfl) rfl rfl ⟨Nat.le_of_ble_eq_true rfl, Nat.le_of_ble_eq_true rfl⟩ dJ4_length_8abf5_1 (fun _ _ h => ?_)
  obtain ⟨rfl, rfl⟩ := h
  exact j_iret C hQ rfl dJ4_length_8abf5_4 ⟨Nat.le_of_ble_eq_true rfl, Nat.le_of_ble_eq_true rfl⟩ ⟨rfl, rfl⟩
set_option maxHeartbeats 4000000 in
set_option maxRecDepth 100000 in
theorem c_appendC5 (l : Launch) (E : jE) (A : Nat → Prop) {ws : va_W} {sb va cnt n : Nat} {f : Nat → Int32} {x : Int32} (hn : jSz n) (hc : cnt + 1 ≤ 34) (hf : sb_Fit f) (hx : ¬ nI 255 < x) : jMet l yJ5_append_3fe6f cJ5_append_3fe6f 2 (some (.object "java/lang/AbstractStringBuilder")) 3 1 34 E A [.ref sb, .int x] ((sb, .inr (1, [.ref va, .int (nI 0), .int (nI 0), .int (nI cnt)])) :: (va, .inl (E.2.2.1, n, .inl f)) :: ws) (fun vv ww => ∃ (v2 n2 : Nat) (f2 : Nat → Int32), jSz n2 ∧ cnt + 1 ≤ n2 ∧ sb_Fit f2 ∧ vv = some (.ref sb) ∧ ww = (sb, .inr (1, [.ref v2, .int (nI 0), .int (nI 0), .int (nI (cnt + 1))])) :: (v2, .inl (E.2.2.1, n2, .inl f2)) :: ws) jNo := by
  refine jMet.intro' [(0, .ref sb), (1, .int x)] (by decide) (Nat.le_of_ble_eq_true rfl) rfl ?_
  intro p e R s m args below meth c Q C hQ
  refine j_aload_n C dJ5_append_3fe6f_0 rfl ?_
  refine j_aload_n C dJ5_append_3fe6f_1 rfl ?_
  refine j_get C 0 rfl inj_J4 rfl 3 (by decide) w_520 rfl dJ5_append_3fe6f_2 ?_
  refine j_iconst (v := (nI 1)) C dJ5_append_3fe6f_5 rfl ?_
  refine j_iadd (z := (nI (cnt + 1))) C dJ5_append_3fe6f_6 (nI_add _ _) ?_
  refine j_callU C (q0 := 0) (Cn := "java/lang/StringBuilder") (owner := "java/lang/AbstractStringBuilder") (c_ens l E A hn (by omega) hf) okU_J5_ensureCapacityInternal_d00df w_537 w_1208 ⟨by decide, by decide⟩ rfl w_539 w_540 (j_selP C.2.2.2.2.1 ⟨by decide, by decide⟩ w_500 w_538 w_539 w_571 rfl) (by decide) rfl rfl (Nat.le_of_ble_eq_true rfl) rfl rfl ⟨Nat.le_of_ble_eq_true rfl, Nat.le_of_ble_eq_true rfl⟩ dJ5_append_3fe6f_7 (fun _ _ h => ?_)
  obtain ⟨va1, n2, f3, hzva1, hqva1, hfva1, rfl, rfl⟩ := h
  refine j_aload_n C dJ5_append_3fe6f_10 rfl ?_
  refine j_callU C (q0 := 0) (Cn := "java/lang/StringBuilder") (owner := "java/lang/AbstractStringBuilder") (c_isLatin1 l E A) okU_J5_isLatin1_aae02 w_568 w_570 ⟨by decide, by decide⟩ rfl w_569 w_572 (C.2.2.2.2.1 _ w_571) (by decide) rfl rfl (Nat.le_of_ble_eq_true rfl) rfl rfl ⟨Nat.le_of_ble_eq_true rfl, Nat.le_of_ble_eq_true rfl⟩ dJ5_append_3fe6f_11 (fun _ _ h => ?_)
  obtain ⟨rfl, rfl⟩ := h
  refine j_ifn_eq_f (tgt := 45) C dJ5_append_3fe6f_14 (by decide) (by omega) (by omega) ?_
  refine j_iload_n C dJ5_append_3fe6f_17 rfl ?_
  refine j_callS C (c_canEncode l E A hx) ok_J1_canEncode_fc78d w_573 (by decide) rfl rfl (Nat.le_of_ble_eq_true rfl) ⟨Nat.le_of_ble_eq_true rfl, Nat.le_of_ble_eq_true rfl⟩ dJ5_append_3fe6f_18 (fun _ _ h => h.elim) (fun _ _ h => ?_)
  obtain ⟨rfl, rfl⟩ := h
  refine j_ifn_eq_f (tgt := 45) C dJ5_append_3fe6f_21 (by decide) (by omega) (by omega) ?_
  refine j_aload_n C dJ5_append_3fe6f_24 rfl ?_
  refine j_get C 0 rfl inj_J4 rfl 0 (by decide) w_517 rfl dJ5_append_3fe6f_25 ?_
  refine j_aload_n C dJ5_append_3fe6f_28 rfl ?_
  refine j_dup C dJ5_append_3fe6f_29 rfl ?_
  refine j_get C 0 rfl inj_J4 rfl 3 (by decide) w_520 rfl dJ5_append_3fe6f_30 ?_
  refine j_dup_x1 C dJ5_append_3fe6f_33 rfl rfl ?_
  refine j_iconst (v := (nI 1)) C dJ5_append_3fe6f_34 rfl ?_
  refine j_iadd (z := (nI (cnt + 1))) C dJ5_append_3fe6f_35 (nI_add _ _) ?_
  refine j_put (ws' := ((sb, .inr (1, [.ref va1, .int (nI 0), .int (nI 0), .int (nI (cnt + 1))])) :: (va1, .inl (E.2.2.1, n2, .inl f3)) :: ws)) C 0 rfl inj_J4 tyJ4 tyJ4_ok nmJ4 rfl 3 (by decide) w_520 rfl (tyJ4_ok 3 (by decide)) rfl rfl (Nat.le_of_ble_eq_true rfl) dJ5_append_3fe6f_36 rfl ?_
  refine j_iload_n C dJ5_append_3fe6f_39 rfl ?_
  refine j_i2b (v := x.toInt8.toInt32) C dJ5_append_3fe6f_40 rfl ?_
  refine j_bastore (ws' := ((sb, .inr (1, [.ref va1, .int (nI 0), .int (nI 0), .int (nI (cnt + 1))])) :: (va1, .inl (E.2.2.1, n2, .inl (upd f3 cnt (vp_nar .byte x.toInt8.toInt32)))) :: ws)) (f' := upd f3 cnt (vp_nar .byte x.toInt8.toInt32)) C 1 cnt rfl rfl (by omega) (by omega) dJ5_append_3fe6f_41 rfl rfl ?_
  refine j_goto (tgt := 75) C dJ5_append_3fe6f_42 (by decide) ?_
  refine j_aload_n C dJ5_append_3fe6f_75 rfl ?_
  exact j_aret C hQ rfl (Or.inl ⟨_, rfl⟩) dJ5_append_3fe6f_76 ⟨Nat.le_of_ble_eq_true rfl, Nat.le_of_ble_eq_true rfl⟩ ⟨_, _, _, hzva1, hqva1, sb_fitU hfva1 (fit_b _), rfl, rfl⟩
set_option maxHeartbeats 4000000 in
set_option maxRecDepth 100000 in
theorem c_appendC (l : Launch) (E : jE) (A : Nat → Prop) {ws : va_W} {sb va cnt n : Nat} {f : Nat → Int32} {x : Int32} (hn : jSz n) (hc : cnt + 1 ≤ 34) (hf : sb_Fit f) (hx : ¬ nI 255 < x) : jMet l yJ4_append_cf468 cJ4_append_cf468 2 (some (.object "java/lang/StringBuilder")) 4 1 34 E A [.ref sb, .int x] ((sb, .inr (1, [.ref va, .int (nI 0), .int (nI 0), .int (nI cnt)])) :: (va, .inl (E.2.2.1, n, .inl f)) :: ws) (fun vv ww => ∃ (v2 n2 : Nat) (f2 : Nat → Int32), jSz n2 ∧ cnt + 1 ≤ n2 ∧ sb_Fit f2 ∧ vv = some (.ref sb) ∧ ww = (sb, .inr (1, [.ref v2, .int (nI 0), .int (nI 0), .int (nI (cnt + 1))])) :: (v2, .inl (E.2.2.1, n2, .inl f2)) :: ws) jNo := by
  refine jMet.intro' [(0, .ref sb), (1, .int x)] (by decide) (Nat.le_of_ble_eq_true rfl) rfl ?_
  intro p e R s m args below meth c Q C hQ
  refine j_aload_n C dJ4_append_cf468_0 rfl ?_
  refine j_iload_n C dJ4_append_cf468_1 rfl ?_
  refine j_callSU C (q0 := 0) (Cn := "java/lang/StringBuilder") (c_appendC5 l E A hn (by omega) hf hx) okU_J5_append_3fe6f w_534 w_1207 w_529 w_500 (by decide) (by decide) rfl rfl (Nat.le_of_ble_eq_true rfl) rfl rfl ⟨Nat.le_of_ble_eq_true rfl, Nat.le_of_ble_eq_true rfl⟩ dJ4_append_cf468_2 (fun _ _ h => ?_)
  obtain ⟨va1, n2, f3, hzva1, hqva1, hfva1, rfl, rfl⟩ := h
  refine j_pop C dJ4_append_cf468_5 rfl ?_
  refine j_aload_n C dJ4_append_cf468_6 rfl ?_
  exact j_aret C hQ rfl (Or.inl ⟨_, rfl⟩) dJ4_append_cf468_7 ⟨Nat.le_of_ble_eq_true rfl, Nat.le_of_ble_eq_true rfl⟩ ⟨_, _, _, hzva1, hqva1, hfva1, rfl, rfl⟩
set_option maxHeartbeats 4000000 in
set_option maxRecDepth 100000 in
theorem c_sbInit5 (l : Launch) (E : jE) (A : Nat → Prop) {ws : va_W} {sb : Nat} : jMet l yJ5_init_d00df cJ5_init_d00df 2 (none : Option Jvm.ClassFile.FieldType) 1 1 16 E A [.ref sb, .int (nI 16)] ((sb, .inr (1, [.null, .int (nI 0), .int (nI 0), .int (nI 0)])) :: ws) (fun vv ww => ∃ v2 : Nat, vv = none ∧ ww = (sb, .inr (1, [.ref v2, .int (nI 0), .int (nI 0), .int (nI 0)])) :: (v2, .inl (E.2.2.1, 16, .inl (fun _ => 0))) :: ws) jNo := by
  refine jMet.intro' [(0, .ref sb), (1, .int (nI 16))] (by decide) (Nat.le_of_ble_eq_true rfl) rfl ?_
  intro p e R s m args below meth c Q C hQ
  refine j_aload_n C dJ5_init_d00df_0 rfl ?_
  refine j_objInit C w_507 w_54 w_55 (Nat.le_of_ble_eq_true rfl) dJ5_init_d00df_1 ?_
  refine j_compact C w_508 dJ5_init_d00df_4 ?_
  refine j_ifn_eq_f (tgt := 25) C dJ5_init_d00df_7 (by decide) (by omega) (by omega) ?_
  refine j_aload_n C dJ5_init_d00df_10 rfl ?_
  refine j_iload_n C dJ5_init_d00df_11 rfl ?_
  refine j_newB C 16 w_342 rfl (by omega) (by omega) (by omega) dJ5_init_d00df_12 (fun v1 => ?_)
  refine j_front ?_
  refine j_put (ws' := ((v1, .inl (E.2.2.1, 16, .inl (fun _ => 0))) :: (sb, .inr (1, [.ref v1, .int (nI 0), .int (nI 0), .int (nI 0)])) :: ws)) C 1 rfl inj_J4 tyJ4 tyJ4_ok nmJ4 rfl 0 (by decide) w_517 rfl (tyJ4_ok 0 (by decide)) rfl rfl (Nat.le_of_ble_eq_true rfl) dJ5_init_d00df_14 rfl ?_
  refine j_aload_n C dJ5_init_d00df_17 rfl ?_
  refine j_iconst (v := (nI 0)) C dJ5_init_d00df_18 rfl ?_
  refine j_put (ws' := ((v1, .inl (E.2.2.1, 16, .inl (fun _ => 0))) :: (sb, .inr (1, [.ref v1, .int (nI 0), .int (nI 0), .int (nI 0)])) :: ws)) C 1 rfl inj_J4 tyJ4 tyJ4_ok nmJ4 rfl 1 (by decide) w_518 rfl (tyJ4_ok 1 (by decide)) rfl rfl (Nat.le_of_ble_eq_true rfl) dJ5_init_d00df_19 rfl ?_
  refine j_goto (tgt := 38) C dJ5_init_d00df_22 (by decide) ?_
  refine j_perm (pre := [(v1, .inl (E.2.2.1, 16, .inl (fun _ => 0))), (sb, .inr (1, [.ref v1, .int (nI 0), .int (nI 0), .int (nI 0)]))]) (pre' := [(sb, .inr (1, [.ref v1, .int (nI 0), .int (nI 0), .int (nI 0)])), (v1, .inl (E.2.2.1, 16, .inl (fun _ => 0)))]) (tl := ws) [1, 0] rfl (by decide) ?_
  exact j_vret C hQ rfl dJ5_init_d00df_38 ⟨Nat.le_of_ble_eq_true rfl, Nat.le_of_ble_eq_true rfl⟩ ⟨_, rfl, rfl⟩
set_option maxHeartbeats 4000000 in
set_option maxRecDepth 100000 in
theorem c_sbInit (l : Launch) (E : jE) (A : Nat → Prop) {ws : va_W} {sb : Nat} : jMet l yJ4_init_da8c8 cJ4_init_da8c8 1 (none : Option Jvm.ClassFile.FieldType) 2 1 16 E A [.ref sb] ((sb, .inr (1, [.null, .int (nI 0), .int (nI 0), .int (nI 0)])) :: ws) (fun vv ww => ∃ v2 : Nat, vv = none ∧ ww = (sb, .inr (1, [.ref v2, .int (nI 0), .int (nI 0), .int (nI 0)])) :: (v2, .inl (E.2.2.1, 16, .inl (fun _ => 0))) :: ws) jNo := by
  refine jMet.intro' [(0, .ref sb)] (by decide) (Nat.le_of_ble_eq_true rfl) rfl ?_
  intro p e R s m args below meth c Q C hQ
  refine j_aload_n C dJ4_init_da8c8_0 rfl ?_
  refine j_bipush (v := (nI 16)) C dJ4_init_da8c8_1 rfl ?_
  refine j_callI C (c_sbInit5 l E A) ok_J5_init_d00df w_504 (by decide) rfl rfl (Nat.le_of_ble_eq_true rfl) ⟨Nat.le_of_ble_eq_true rfl, Nat.le_of_ble_eq_true rfl⟩ dJ4_init_da8c8_3 (fun _ _ h => ?_)
  obtain ⟨va1, rfl, rfl⟩ := h
  exact j_vret C hQ rfl dJ4_init_da8c8_6 ⟨Nat.le_of_ble_eq_true rfl, Nat.le_of_ble_eq_true rfl⟩ ⟨_, rfl, rfl⟩
