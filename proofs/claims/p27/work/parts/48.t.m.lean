/-! contracts, laid by program (wip/gen) -/
theorem max18 {g : Nat} (h : g ≤ 18) : (if nI g < nI 18 then nI 18 else nI g) = nI 18 := by
  by_cases q : g = 18
  · subst q; rfl
  · rw [if_pos ((nI_ltI (by omega) (by omega)).mpr (by omega))]
theorem sub_le0 {q n : Nat} (h : q ≤ n) (hn : n < 100) : nI q - nI n ≤ 0 := by
  rw [Int32.le_iff_toInt_le, pk_sub_toInt (by omega) (by omega), Int32.toInt_zero]; omega
abbrev jSz (n : Nat) : Prop := n = 16 ∨ n = 34
theorem min16 : (if nI 34 < nI 16 then nI 34 else nI 16) = nI 16 := by decide
theorem fit_b (x : Int32) : fits .byte (.int (vp_nar .byte x.toInt8.toInt32)) = true := pk_fb _
theorem sub0 (a : Nat) : nI a - nI 0 = nI a := Int32.sub_zero _
theorem min_r {n k : Nat} (h : k ≤ n) (hn : n < 100) : (if nI k < nI n then nI k else nI n) = nI k := by
  by_cases q : k = n
  · subst q; split <;> rfl
  · rw [if_pos ((nI_ltI (by omega) (by omega)).mpr (by omega))]
theorem jCod_ok {m : Nat} (h : m < 10) : ¬ nI 255 < jCod m := by
  have : ∀ m, m < 10 → ¬ nI 255 < jCod m := by decide
  exact this m h
set_option maxHeartbeats 4000000 in
set_option maxRecDepth 100000 in
theorem c_newLength (l : Launch) (E : jE) (A : Nat → Prop) {ws : va_W} {g : Nat} (hg : g ≤ 18) : jMet l yJ8_newLength_cabcc cJ8_newLength_cabcc 4 (some .int) 0 0 0 E A [.int (nI 16), .int (nI g), .int (nI 18)] ws (jR (some (.int (nI 34))) ws) jNo := by
  refine jMet.intro' [(0, .int (nI 16)), (1, .int (nI g)), (2, .int (nI 18))] (by decide) (Nat.le_of_ble_eq_true rfl) rfl ?_
  intro p e R s m args below meth c Q C hQ
  refine j_iload_n C dJ8_newLength_cabcc_0 rfl ?_
  refine j_iload_n C dJ8_newLength_cabcc_1 rfl ?_
  refine j_iload_n C dJ8_newLength_cabcc_2 rfl ?_
  refine j_mmax (z := (nI 18)) C w_548 w_235 w_41 w_236 (Nat.le_of_ble_eq_true rfl) ⟨Nat.le_of_ble_eq_true rfl, Nat.le_of_ble_eq_true rfl⟩ dJ8_newLength_cabcc_3 (max18 hg) ?_
  refine j_iadd (z := (nI 34)) C dJ8_newLength_cabcc_6 (nI_add _ _) ?_
  refine j_istore_n (lv' := [(3, .int (nI 34)), (0, .int (nI 16)), (1, .int (nI g)), (2, .int (nI 18))]) C dJ8_newLength_cabcc_7 (by decide) rfl ?_
  refine j_iconst (v := (nI 0)) C dJ8_newLength_cabcc_8 rfl ?_
  refine j_iload_n C dJ8_newLength_cabcc_9 rfl ?_
  refine j_icmpn_ge_f (tgt := 21) C dJ8_newLength_cabcc_10 (by decide) (by omega) (by omega) (by omega) ?_
  refine j_iload_n C dJ8_newLength_cabcc_13 rfl ?_
  refine j_ldc C w_549 dJ8_newLength_cabcc_14 ?_
  refine j_icmp_gt_f (tgt := 21) C dJ8_newLength_cabcc_16 (by decide) (by decide) ?_
  refine j_iload_n C dJ8_newLength_cabcc_19 rfl ?_
  exact j_iret C hQ rfl dJ8_newLength_cabcc_20 ⟨Nat.le_of_ble_eq_true rfl, Nat.le_of_ble_eq_true rfl⟩ ⟨rfl, rfl⟩
set_option maxHeartbeats 4000000 in
set_option maxRecDepth 100000 in
theorem c_newCapacity (l : Launch) (E : jE) (A : Nat → Prop) {ws : va_W} {sb va cnt q : Nat} {f : Nat → Int32} (hq : 16 < q) (hq2 : q ≤ 34) : jMet l yJ5_newCapacity_0f7a4 cJ5_newCapacity_0f7a4 6 (some .int) 1 0 0 E A [.ref sb, .int (nI q)] ((sb, .inr (1, [.ref va, .int (nI 0), .int (nI 0), .int (nI cnt)])) :: (va, .inl (E.2.2.1, 16, .inl f)) :: ws) (jR (some (.int (nI 34))) ((sb, .inr (1, [.ref va, .int (nI 0), .int (nI 0), .int (nI cnt)])) :: (va, .inl (E.2.2.1, 16, .inl f)) :: ws)) jNo := by
  refine jMet.intro' [(0, .ref sb), (1, .int (nI q))] (by decide) (Nat.le_of_ble_eq_true rfl) rfl ?_
  intro p e R s m args below meth c Q C hQ
  refine j_aload_n C dJ5_newCapacity_0f7a4_0 rfl ?_
  refine j_get C 0 rfl inj_J4 rfl 0 (by decide) w_517 rfl dJ5_newCapacity_0f7a4_1 ?_
  refine j_alen C 1 1 rfl rfl rfl dJ5_newCapacity_0f7a4_4 ?_
  refine j_istore_n (lv' := [(2, .int (nI 16)), (0, .ref sb), (1, .int (nI q))]) C dJ5_newCapacity_0f7a4_5 (by decide) rfl ?_
  refine j_iload_n C dJ5_newCapacity_0f7a4_6 rfl ?_
  refine j_aload_n C dJ5_newCapacity_0f7a4_7 rfl ?_
  refine j_get C 0 rfl inj_J4 rfl 1 (by decide) w_518 rfl dJ5_newCapacity_0f7a4_8 ?_
  refine j_ishl (z := (nI q)) C dJ5_newCapacity_0f7a4_11 rfl ?_
  refine j_istore_n (lv' := [(3, .int (nI q)), (2, .int (nI 16)), (0, .ref sb), (1, .int (nI q))]) C dJ5_newCapacity_0f7a4_12 (by decide) rfl ?_
  refine j_iload_n C dJ5_newCapacity_0f7a4_13 rfl ?_
  refine j_iload_n C dJ5_newCapacity_0f7a4_14 rfl ?_
  refine j_isub (z := (nI (q - 16))) C dJ5_newCapacity_0f7a4_15 (pk_sub (by omega)) ?_
  refine j_istore (lv' := [(4, .int (nI (q - 16))), (3, .int (nI q)), (2, .int (nI 16)), (0, .ref sb), (1, .int (nI q))]) C dJ5_newCapacity_0f7a4_16 (by decide) rfl ?_
  refine j_iload_n C dJ5_newCapacity_0f7a4_18 rfl ?_
  refine j_iload C dJ5_newCapacity_0f7a4_19 rfl ?_
  refine j_iload_n C dJ5_newCapacity_0f7a4_21 rfl ?_
  refine j_iconst (v := (nI 2)) C dJ5_newCapacity_0f7a4_22 rfl ?_
  refine j_aload_n C dJ5_newCapacity_0f7a4_23 rfl ?_
  refine j_get C 0 rfl inj_J4 rfl 1 (by decide) w_518 rfl dJ5_newCapacity_0f7a4_24 ?_
  refine j_ishl (z := (nI 2)) C dJ5_newCapacity_0f7a4_27 rfl ?_
  refine j_iadd (z := (nI 18)) C dJ5_newCapacity_0f7a4_28 (nI_add _ _) ?_
  refine j_callS C (c_newLength l E A (by omega)) ok_J8_newLength_cabcc w_545 (by decide) rfl rfl (Nat.le_of_ble_eq_true rfl) ⟨Nat.le_of_ble_eq_true rfl, Nat.le_of_ble_eq_true rfl⟩ dJ5_newCapacity_0f7a4_29 (fun _ _ h => h.elim) (fun _ _ h => ?_)
  obtain ⟨rfl, rfl⟩ := h
  refine j_istore (lv' := [(5, .int (nI 34)), (4, .int (nI (q - 16))), (3, .int (nI q)), (2, .int (nI 16)), (0, .ref sb), (1, .int (nI q))]) C dJ5_newCapacity_0f7a4_32 (by decide) rfl ?_
  refine j_iload C dJ5_newCapacity_0f7a4_34 rfl ?_
  refine j_ldc C w_553 dJ5_newCapacity_0f7a4_36 ?_
  refine j_icmp_ne_t (tgt := 51) C dJ5_newCapacity_0f7a4_38 (by decide) (by decide) ?_
  refine j_iload C dJ5_newCapacity_0f7a4_51 rfl ?_
  refine j_aload_n C dJ5_newCapacity_0f7a4_53 rfl ?_
  refine j_get C 0 rfl inj_J4 rfl 1 (by decide) w_518 rfl dJ5_newCapacity_0f7a4_54 ?_
  refine j_ishr (z := (nI 34)) C dJ5_newCapacity_0f7a4_57 rfl ?_
  exact j_iret C hQ rfl dJ5_newCapacity_0f7a4_58 ⟨Nat.le_of_ble_eq_true rfl, Nat.le_of_ble_eq_true rfl⟩ ⟨rfl, rfl⟩
set_option maxHeartbeats 4000000 in
set_option maxRecDepth 100000 in
theorem c_copyOf (l : Launch) (E : jE) (A : Nat → Prop) {ws : va_W} {va : Nat} {f : Nat → Int32} (hf : sb_Fit f) : jMet l yJ7_copyOf_9075b cJ7_copyOf_9075b 3 (some (.array .byte)) 0 1 34 E A [.ref va, .int (nI 34)] ((va, .inl (E.2.2.1, 16, .inl f)) :: ws) (fun vv ww => ∃ (v2 : Nat) (f2 : Nat → Int32), sb_Fit f2 ∧ vv = some (.ref v2) ∧ ww = (v2, .inl (E.2.2.1, 34, .inl f2)) :: ((va, .inl (E.2.2.1, 16, .inl f)) :: ws)) jNo := by
  refine jMet.intro' [(0, .ref va), (1, .int (nI 34))] (by decide) (Nat.le_of_ble_eq_true rfl) rfl ?_
  intro p e R s m args below meth c Q C hQ
  refine j_iload_n C dJ7_copyOf_9075b_0 rfl ?_
  refine j_aload_n C dJ7_copyOf_9075b_1 rfl ?_
  refine j_alen C 0 1 rfl rfl rfl dJ7_copyOf_9075b_2 ?_
  refine j_icmpn_ne_t (tgt := 14) C dJ7_copyOf_9075b_3 (by decide) (by omega) (by omega) (by omega) ?_
  refine j_iload_n C dJ7_copyOf_9075b_14 rfl ?_
  refine j_newB C 34 w_342 rfl (by omega) (by omega) (by omega) dJ7_copyOf_9075b_15 (fun v1 => ?_)
  refine j_front ?_
  refine j_astore_n (lv' := [(2, .ref v1), (0, .ref va), (1, .int (nI 34))]) C dJ7_copyOf_9075b_17 (by decide) rfl ?_
  refine j_aload_n C dJ7_copyOf_9075b_18 rfl ?_
  refine j_iconst (v := (nI 0)) C dJ7_copyOf_9075b_19 rfl ?_
  refine j_aload_n C dJ7_copyOf_9075b_20 rfl ?_
  refine j_iconst (v := (nI 0)) C dJ7_copyOf_9075b_21 rfl ?_
  refine j_aload_n C dJ7_copyOf_9075b_22 rfl ?_
  refine j_alen C 1 1 rfl rfl rfl dJ7_copyOf_9075b_23 ?_
  refine j_iload_n C dJ7_copyOf_9075b_24 rfl ?_
  refine j_mmin (z := (nI 16)) C w_564 w_178 w_41 w_179 (Nat.le_of_ble_eq_true rfl) ⟨Nat.le_of_ble_eq_true rfl, Nat.le_of_ble_eq_true rfl⟩ dJ7_copyOf_9075b_25 min16 ?_
  refine j_copyB (ws' := ((v1, .inl (E.2.2.1, 34, .inl (va_cpy f (fun _ => 0) 0 0 16))) :: (va, .inl (E.2.2.1, 16, .inl f)) :: ws)) C 1 0 0 0 16 w_565 rfl rfl (by omega) (by omega) (by omega) (by omega) hf (Nat.le_of_ble_eq_true rfl) dJ7_copyOf_9075b_28 rfl ?_
  refine j_aload_n C dJ7_copyOf_9075b_31 rfl ?_
  exact j_aret C hQ rfl (Or.inr ⟨_, rfl⟩) dJ7_copyOf_9075b_32 ⟨Nat.le_of_ble_eq_true rfl, Nat.le_of_ble_eq_true rfl⟩ ⟨_, _, (sb_fitC hf sb_fit0), rfl, rfl⟩
set_option maxHeartbeats 4000000 in
set_option maxRecDepth 100000 in
theorem c_ens_0 (l : Launch) (E : jE) (A : Nat → Prop) {ws : va_W} {sb va cnt q n : Nat} {f : Nat → Int32} (hn : jSz n) (hq : q ≤ n) (hf : sb_Fit f) : jMet l yJ5_ensureCapacityInternal_d00df cJ5_ensureCapacityInternal_d00df 3 (none : Option Jvm.ClassFile.FieldType) 2 1 34 E A [.ref sb, .int (nI q)] ((sb, .inr (1, [.ref va, .int (nI 0), .int (nI 0), .int (nI cnt)])) :: (va, .inl (E.2.2.1, n, .inl f)) :: ws) (fun vv ww => ∃ (v2 n2 : Nat) (f2 : Nat → Int32), jSz n2 ∧ q ≤ n2 ∧ sb_Fit f2 ∧ vv = none ∧ ww = (sb, .inr (1, [.ref v2, .int (nI 0), .int (nI 0), .int (nI cnt)])) :: (v2, .inl (E.2.2.1, n2, .inl f2)) :: ws) jNo := by
  refine jMet.intro' [(0, .ref sb), (1, .int (nI q))] (by decide) (Nat.le_of_ble_eq_true rfl) rfl ?_
  intro p e R s m args below meth c Q C hQ
  refine j_aload_n C dJ5_ensureCapacityInternal_d00df_0 rfl ?_
  refine j_get C 0 rfl inj_J4 rfl 0 (by decide) w_517 rfl dJ5_ensureCapacityInternal_d00df_1 ?_
  refine j_alen C 1 1 rfl rfl rfl dJ5_ensureCapacityInternal_d00df_4 ?_
  refine j_aload_n C dJ5_ensureCapacityInternal_d00df_5 rfl ?_
  refine j_get C 0 rfl inj_J4 rfl 1 (by decide) w_518 rfl dJ5_ensureCapacityInternal_d00df_6 ?_
  refine j_ishr (z := (nI n)) C dJ5_ensureCapacityInternal_d00df_9 rfl ?_
  refine j_istore_n (lv' := [(2, .int (nI n)), (0, .ref sb), (1, .int (nI q))]) C dJ5_ensureCapacityInternal_d00df_10 (by decide) rfl ?_
  refine j_iload_n C dJ5_ensureCapacityInternal_d00df_11 rfl ?_
  refine j_iload_n C dJ5_ensureCapacityInternal_d00df_12 rfl ?_
  refine j_isub (z := (nI q - nI n)) C dJ5_ensureCapacityInternal_d00df_13 rfl ?_
  refine j_if_le_t (tgt := 38) C dJ5_ensureCapacityInternal_d00df_14 (by decide) (sub_le0 hq (by omega)) ?_
  exact j_vret C hQ rfl dJ5_ensureCapacityInternal_d00df_38 ⟨Nat.le_of_ble_eq_true rfl, Nat.le_of_ble_eq_true rfl⟩ ⟨_, _, _, hn, hq, hf, rfl, rfl⟩
set_option maxHeartbeats 4000000 in
set_option maxRecDepth 100000 in
theorem c_ens_1 (l : Launch) (E : jE) (A : Nat → Prop) {ws : va_W} {sb va cnt q : Nat} {f : Nat → Int32} (hq : 16 < q) (hq2 : q ≤ 34) (hf : sb_Fit f) : jMet l yJ5_ensureCapacityInternal_d00df cJ5_ensureCapacityInternal_d00df 3 (none : Option Jvm.ClassFile.FieldType) 2 1 34 E A [.ref sb, .int (nI q)] ((sb, .inr (1, [.ref va, .int (nI 0), .int (nI 0), .int (nI cnt)])) :: (va, .inl (E.2.2.1, 16, .inl f)) :: ws) (fun vv ww => ∃ (v2 n2 : Nat) (f2 : Nat → Int32), jSz n2 ∧ q ≤ n2 ∧ sb_Fit f2 ∧ vv = none ∧ ww = (sb, .inr (1, [.ref v2, .int (nI 0), .int (nI 0), .int (nI cnt)])) :: (v2, .inl (E.2.2.1, n2, .inl f2)) :: ws) jNo := by
  refine jMet.intro' [(0, .ref sb), (1, .int (nI q))] (by decide) (Nat.le_of_ble_eq_true rfl) rfl ?_
  intro p e R s m args below meth c Q C hQ
  refine j_aload_n C dJ5_ensureCapacityInternal_d00df_0 rfl ?_
  refine j_get C 0 rfl inj_J4 rfl 0 (by decide) w_517 rfl dJ5_ensureCapacityInternal_d00df_1 ?_
  refine j_alen C 1 1 rfl rfl rfl dJ5_ensureCapacityInternal_d00df_4 ?_
  refine j_aload_n C dJ5_ensureCapacityInternal_d00df_5 rfl ?_
  refine j_get C 0 rfl inj_J4 rfl 1 (by decide) w_518 rfl dJ5_ensureCapacityInternal_d00df_6 ?_
  refine j_ishr (z := (nI 16)) C dJ5_ensureCapacityInternal_d00df_9 rfl ?_
  refine j_istore_n (lv' := [(2, .int (nI 16)), (0, .ref sb), (1, .int (nI q))]) C dJ5_ensureCapacityInternal_d00df_10 (by decide) rfl ?_
  refine j_iload_n C dJ5_ensureCapacityInternal_d00df_11 rfl ?_
  refine j_iload_n C dJ5_ensureCapacityInternal_d00df_12 rfl ?_
  refine j_isub (z := (nI (q - 16))) C dJ5_ensureCapacityInternal_d00df_13 (pk_sub (by omega)) ?_
  refine j_ifn_le_f (tgt := 38) C dJ5_ensureCapacityInternal_d00df_14 (by decide) (by omega) (by omega) ?_
  refine j_aload_n C dJ5_ensureCapacityInternal_d00df_17 rfl ?_
  refine j_aload_n C dJ5_ensureCapacityInternal_d00df_18 rfl ?_
  refine j_get C 0 rfl inj_J4 rfl 0 (by decide) w_517 rfl dJ5_ensureCapacityInternal_d00df_19 ?_
  refine j_aload_n C dJ5_ensureCapacityInternal_d00df_22 rfl ?_
  refine j_iload_n C dJ5_ensureCapacityInternal_d00df_23 rfl ?_
  refine j_callU C (q0 := 0) (Cn := "java/lang/StringBuilder") (owner := "java/lang/AbstractStringBuilder") (c_newCapacity l E A (by omega) (by omega)) okU_J5_newCapacity_0f7a4 w_541 w_1213 ⟨by decide, by decide⟩ rfl w_543 w_544 (C.2.2.2.2.1 _ (jXS_at (k := 1) rfl)) (by decide) rfl rfl (Nat.le_of_ble_eq_true rfl) rfl rfl ⟨Nat.le_of_ble_eq_true rfl, Nat.le_of_ble_eq_true rfl⟩ dJ5_ensureCapacityInternal_d00df_24 (fun _ _ h => ?_)
  obtain ⟨rfl, rfl⟩ := h
  refine j_aload_n C dJ5_ensureCapacityInternal_d00df_27 rfl ?_
  refine j_get C 0 rfl inj_J4 rfl 1 (by decide) w_518 rfl dJ5_ensureCapacityInternal_d00df_28 ?_
  refine j_ishl (z := (nI 34)) C dJ5_ensureCapacityInternal_d00df_31 rfl ?_
  refine j_perm (pre := [(sb, .inr (1, [.ref va, .int (nI 0), .int (nI 0), .int (nI cnt)])), (va, .inl (E.2.2.1, 16, .inl f))]) (pre' := [(va, .inl (E.2.2.1, 16, .inl f)), (sb, .inr (1, [.ref va, .int (nI 0), .int (nI 0), .int (nI cnt)]))]) (tl := ws) [1, 0] rfl (by decide) ?_
  refine j_callS C (c_copyOf l E A hf) ok_J7_copyOf_9075b w_554 (by decide) rfl rfl (Nat.le_of_ble_eq_true rfl) ⟨Nat.le_of_ble_eq_true rfl, Nat.le_of_ble_eq_true rfl⟩ dJ5_ensureCapacityInternal_d00df_32 (fun _ _ h => h.elim) (fun _ _ h => ?_)
  obtain ⟨v2, f2, hf2, rfl, rfl⟩ := h
  refine j_put (ws' := ((v2, .inl (E.2.2.1, 34, .inl f2)) :: (va, .inl (E.2.2.1, 16, .inl f)) :: (sb, .inr (1, [.ref v2, .int (nI 0), .int (nI 0), .int (nI cnt)])) :: ws)) C 2 rfl inj_J4 tyJ4 tyJ4_ok nmJ4 rfl 0 (by decide) w_517 rfl (tyJ4_ok 0 (by decide)) rfl rfl (Nat.le_of_ble_eq_true rfl) dJ5_ensureCapacityInternal_d00df_35 rfl ?_
  refine j_perm (pre := [(v2, .inl (E.2.2.1, 34, .inl f2)), (va, .inl (E.2.2.1, 16, .inl f)), (sb, .inr (1, [.ref v2, .int (nI 0), .int (nI 0), .int (nI cnt)]))]) (pre' := [(sb, .inr (1, [.ref v2, .int (nI 0), .int (nI 0), .int (nI cnt)])), (v2, .inl (E.2.2.1, 34, .inl f2))]) (tl := ws) [2, 0] rfl (by decide) ?_
  exact j_vret C hQ rfl dJ5_ensureCapacityInternal_d00df_38 ⟨Nat.le_of_ble_eq_true rfl, Nat.le_of_ble_eq_true rfl⟩ ⟨_, _, _, Or.inr rfl, by omega, hf2, rfl, rfl⟩
theorem c_ens (l : Launch) (E : jE) (A : Nat → Prop) {ws : va_W} {sb va cnt q n : Nat} {f : Nat → Int32} (hn : jSz n) (hq : q ≤ 34) (hf : sb_Fit f) : jMet l yJ5_ensureCapacityInternal_d00df cJ5_ensureCapacityInternal_d00df 3 (none : Option Jvm.ClassFile.FieldType) 2 1 34 E A [.ref sb, .int (nI q)] ((sb, .inr (1, [.ref va, .int (nI 0), .int (nI 0), .int (nI cnt)])) :: (va, .inl (E.2.2.1, n, .inl f)) :: ws) (fun vv ww => ∃ (v2 n2 : Nat) (f2 : Nat → Int32), jSz n2 ∧ q ≤ n2 ∧ sb_Fit f2 ∧ vv = none ∧ ww = (sb, .inr (1, [.ref v2, .int (nI 0), .int (nI 0), .int (nI cnt)])) :: (v2, .inl (E.2.2.1, n2, .inl f2)) :: ws) jNo := by
  by_cases h : q ≤ n
  · exact c_ens_0 l E A hn h hf
  · rcases hn with rfl | rfl
    · exact c_ens_1 l E A (by omega) hq hf
    · omega
set_option maxHeartbeats 4000000 in
set_option maxRecDepth 100000 in
theorem c_isLatin1 (l : Launch) (E : jE) (A : Nat → Prop) {ws : va_W} {sb va cnt : Nat} : jMet l yJ5_isLatin1_aae02 cJ5_isLatin1_aae02 1 (some .boolean) 0 0 0 E A [.ref sb] ((sb, .inr (1, [.ref va, .int (nI 0), .int (nI 0), .int (nI cnt)])) :: ws) (jR (some (.int (nI 1))) ((sb, .inr (1, [.ref va, .int (nI 0), .int (nI 0), .int (nI cnt)])) :: ws)) jNo := by
  refine jMet.intro' [(0, .ref sb)] (by decide) (Nat.le_of_ble_eq_true rfl) rfl ?_
  intro p e R s m args below meth c Q C hQ
  refine j_compact C w_508 dJ5_isLatin1_aae02_0 ?_
  refine j_ifn_eq_f (tgt := 17) C dJ5_isLatin1_aae02_3 (by decide) (by omega) (by omega) ?_
  refine j_aload_n C dJ5_isLatin1_aae02_6 rfl ?_
  refine j_get C 0 rfl inj_J4 rfl 1 (by decide) w_518 rfl dJ5_isLatin1_aae02_7 ?_
  refine j_ifn_ne_f (tgt := 17) C dJ5_isLatin1_aae02_10 (by decide) (by omega) (by omega) ?_
  refine j_iconst (v := (nI 1)) C dJ5_isLatin1_aae02_13 rfl ?_
  refine j_goto (tgt := 18) C dJ5_isLatin1_aae02_14 (by decide) ?_
  exact j_zret C hQ rfl rfl dJ5_isLatin1_aae02_18 ⟨Nat.le_of_ble_eq_true rfl, Nat.le_of_ble_eq_true rfl⟩ ⟨rfl, rfl⟩
set_option maxHeartbeats 4000000 in
set_option maxRecDepth 100000 in
theorem c_canEncode (l : Launch) (E : jE) (A : Nat → Prop) {ws : va_W} {x : Int32} (hx : ¬ nI 255 < x) : jMet l yJ1_canEncode_fc78d cJ1_canEncode_fc78d 1 (some .boolean) 0 0 0 E A [.int x] ws (jR (some (.int (nI 1))) ws) jNo := by
  refine jMet.intro' [(0, .int x)] (by decide) (Nat.le_of_ble_eq_true rfl) rfl ?_
  intro p e R s m args below meth c Q C hQ
  refine j_iload_n C dJ1_canEncode_fc78d_0 rfl ?_
  refine j_sipush (v := nI 255) C dJ1_canEncode_fc78d_1 rfl ?_
  refine j_icmp_gt_f (tgt := 11) C dJ1_canEncode_fc78d_4 (by decide) hx ?_
  refine j_iconst (v := (nI 1)) C dJ1_canEncode_fc78d_7 rfl ?_
  refine j_goto (tgt := 12) C dJ1_canEncode_fc78d_8 (by decide) ?_
  exact j_zret C hQ rfl rfl dJ1_canEncode_fc78d_12 ⟨Nat.le_of_ble_eq_true rfl, Nat.le_of_ble_eq_true rfl⟩ ⟨rfl, rfl⟩
set_option maxHeartbeats 4000000 in
set_option maxRecDepth 100000 in
theorem c_getValue (l : Launch) (E : jE) (A : Nat → Prop) {ws : va_W} {sb va cnt : Nat} : jMet l yJ5_getValue_6d5f1 cJ5_getValue_6d5f1 1 (some (.array .byte)) 0 0 0 E A [.ref sb] ((sb, .inr (1, [.ref va, .int (nI 0), .int (nI 0), .int (nI cnt)])) :: ws) (jR (some (.ref va)) ((sb, .inr (1, [.ref va, .int (nI 0), .int (nI 0), .int (nI cnt)])) :: ws)) jNo := by
  refine jMet.intro' [(0, .ref sb)] (by decide) (Nat.le_of_ble_eq_true rfl) rfl ?_
  intro p e R s m args below meth c Q C hQ
  refine j_aload_n C dJ5_getValue_6d5f1_0 rfl ?_
  refine j_get C 0 rfl inj_J4 rfl 0 (by decide) w_517 rfl dJ5_getValue_6d5f1_1 ?_
  exact j_aret C hQ rfl (Or.inr ⟨_, rfl⟩) dJ5_getValue_6d5f1_4 ⟨Nat.le_of_ble_eq_true rfl, Nat.le_of_ble_eq_true rfl⟩ ⟨rfl, rfl⟩
set_option maxHeartbeats 4000000 in
set_option maxRecDepth 100000 in
theorem c_sbLen5 (l : Launch) (E : jE) (A : Nat → Prop) {ws : va_W} {sb va cnt : Nat} : jMet l yJ5_length_8abf5 cJ5_length_8abf5 1 (some .int) 0 0 0 E A [.ref sb] ((sb, .inr (1, [.ref va, .int (nI 0), .int (nI 0), .int (nI cnt)])) :: ws) (jR (some (.int (nI cnt))) ((sb, .inr (1, [.ref va, .int (nI 0), .int (nI 0), .int (nI cnt)])) :: ws)) jNo := by
  refine jMet.intro' [(0, .ref sb)] (by decide) (Nat.le_of_ble_eq_true rfl) rfl ?_
  intro p e R s m args below meth c Q C hQ
  refine j_aload_n C dJ5_length_8abf5_0 rfl ?_
  refine j_get C 0 rfl inj_J4 rfl 3 (by decide) w_520 rfl dJ5_length_8abf5_1 ?_
  exact j_iret C hQ rfl dJ5_length_8abf5_4 ⟨Nat.le_of_ble_eq_true rfl, Nat.le_of_ble_eq_true rfl⟩ ⟨rfl, rfl⟩
set_option maxHeartbeats 4000000 in
set_option maxRecDepth 100000 in
theorem c_sbLength (l : Launch) (E : jE) (A : Nat → Prop) {ws : va_W} {sb va cnt : Nat} : jMet l yJ4_length_8abf5 cJ4_length_8abf5 1 (some .int) 1 0 0 E A [.ref sb] ((sb, .inr (1, [.ref va, .int (nI 0), .int (nI 0), .int (nI cnt)])) :: ws) (jR (some (.int (nI cnt))) ((sb, .inr (1, [.ref va, .int (nI 0), .int (nI 0), .int (nI cnt)])) :: ws)) jNo := by
  refine jMet.intro' [(0, .ref sb)] (by decide) (Nat.le_of_ble_eq_true rfl) rfl ?_
  intro p e R s m args below meth c Q C hQ
  refine j_aload_n C dJ4_length_8abf5_0 rfl ?_
  refine j_callSU C (q0 := 0) (Cn := "java/lang/StringBuilder") (c_sbLen5 l E A) okU_J5_length_8abf5 w_645 w_641 w_529 w_500 (by decide) (by decide) rfl rfl (Nat.le_of_ble_eq_true rfl) rfl rfl ⟨Nat.le_of_ble_eq_true rfl, Nat.le_of_ble_eq_true rfl⟩ dJ4_length_8abf5_1 (fun _ _ h => ?_)
  obtain ⟨rfl, rfl⟩ := h
  exact j_iret C hQ rfl dJ4_length_8abf5_4 ⟨Nat.le_of_ble_eq_true rfl, Nat.le_of_ble_eq_true rfl⟩ ⟨rfl, rfl⟩
set_option maxHeartbeats 4000000 in
set_option maxRecDepth 100000 in
theorem c_appendC5 (l : Launch) (E : jE) (A : Nat → Prop) {ws : va_W} {sb va cnt n : Nat} {f : Nat → Int32} {x : Int32} (hn : jSz n) (hc : cnt + 1 ≤ 34) (hf : sb_Fit f) (hx : ¬ nI 255 < x) : jMet l yJ5_append_3fe6f cJ5_append_3fe6f 2 (some (.object "java/lang/AbstractStringBuilder")) 3 1 34 E A [.ref sb, .int x] ((sb, .inr (1, [.ref va, .int (nI 0), .int (nI 0), .int (nI cnt)])) :: (va, .inl (E.2.2.1, n, .inl f)) :: ws) (fun vv ww => ∃ (v2 n2 : Nat) (f2 : Nat → Int32), jSz n2 ∧ cnt + 1 ≤ n2 ∧ sb_Fit f2 ∧ vv = some (.ref sb) ∧ ww = (sb, .inr (1, [.ref v2, .int (nI 0), .int (nI 0), .int (nI (cnt + 1))])) :: (v2, .inl (E.2.2.1, n2, .inl f2)) :: ws) jNo := by
  refine jMet.intro' [(0, .ref sb), (1, .int x)] (by decide) (Nat.le_of_ble_eq_true rfl) rfl ?_
  intro p e R s m args below meth c Q C hQ
  refine j_aload_n C dJ5_append_3fe6f_0 rfl ?_
  refine j_aload_n C dJ5_append_3fe6f_1 rfl ?_
  refine j_get C 0 rfl inj_J4 rfl 3 (by decide) w_520 rfl dJ5_append_3fe6f_2 ?_
  refine j_iconst (v := (nI 1)) C dJ5_append_3fe6f_5 rfl ?_
  refine j_iadd (z := (nI (cnt + 1))) C dJ5_append_3fe6f_6 (nI_add _ _) ?_
  refine j_callU C (q0 := 0) (Cn := "java/lang/StringBuilder") (owner := "java/lang/AbstractStringBuilder") (c_ens l E A hn (by omega) hf) okU_J5_ensureCapacityInternal_d00df w_537 w_1212 ⟨by decide, by decide⟩ rfl w_539 w_540 (C.2.2.2.2.1 _ (jXS_at (k := 0) rfl)) (by decide) rfl rfl (Nat.le_of_ble_eq_true rfl) rfl rfl ⟨Nat.le_of_ble_eq_true rfl, Nat.le_of_ble_eq_true rfl⟩ dJ5_append_3fe6f_7 (fun _ _ h => ?_)
  obtain ⟨va1, n2, f3, hzva1, hqva1, hfva1, rfl, rfl⟩ := h
  refine j_aload_n C dJ5_append_3fe6f_10 rfl ?_
  refine j_callU C (q0 := 0) (Cn := "java/lang/StringBuilder") (owner := "java/lang/AbstractStringBuilder") (c_isLatin1 l E A) okU_J5_isLatin1_aae02 w_568 w_570 ⟨by decide, by decide⟩ rfl w_569 w_572 (C.2.2.2.2.1 _ w_571) (by decide) rfl rfl (Nat.le_of_ble_eq_true rfl) rfl rfl ⟨Nat.le_of_ble_eq_true rfl, Nat.le_of_ble_eq_true rfl⟩ dJ5_append_3fe6f_11 (fun _ _ h => ?_)
  obtain ⟨rfl, rfl⟩ := h
  refine j_ifn_eq_f (tgt := 45) C dJ5_append_3fe6f_14 (by decide) (by omega) (by omega) ?_
  refine j_iload_n C dJ5_append_3fe6f_17 rfl ?_
  refine j_callS C (c_canEncode l E A hx) ok_J1_canEncode_fc78d w_573 (by decide) rfl rfl (Nat.le_of_ble_eq_true rfl) ⟨Nat.le_of_ble_eq_true rfl, Nat.le_of_ble_eq_true rfl⟩ dJ5_append_3fe6f_18 (fun _ _ h => h.elim) (fun _ _ h => ?_)
  obtain ⟨rfl, rfl⟩ := h
  refine j_ifn_eq_f (tgt := 45) C dJ5_append_3fe6f_21 (by decide) (by omega) (by omega) ?_
  refine j_aload_n C dJ5_append_3fe6f_24 rfl ?_
  refine j_get C 0 rfl inj_J4 rfl 0 (by decide) w_517 rfl dJ5_append_3fe6f_25 ?_
  refine j_aload_n C dJ5_append_3fe6f_28 rfl ?_
  refine j_dup C dJ5_append_3fe6f_29 rfl ?_
  refine j_get C 0 rfl inj_J4 rfl 3 (by decide) w_520 rfl dJ5_append_3fe6f_30 ?_
  refine j_dup_x1 C dJ5_append_3fe6f_33 rfl rfl ?_
  refine j_iconst (v := (nI 1)) C dJ5_append_3fe6f_34 rfl ?_
  refine j_iadd (z := (nI (cnt + 1))) C dJ5_append_3fe6f_35 (nI_add _ _) ?_
  refine j_put (ws' := ((sb, .inr (1, [.ref va1, .int (nI 0), .int (nI 0), .int (nI (cnt + 1))])) :: (va1, .inl (E.2.2.1, n2, .inl f3)) :: ws)) C 0 rfl inj_J4 tyJ4 tyJ4_ok nmJ4 rfl 3 (by decide) w_520 rfl (tyJ4_ok 3 (by decide)) rfl rfl (Nat.le_of_ble_eq_true rfl) dJ5_append_3fe6f_36 rfl ?_
  refine j_iload_n C dJ5_append_3fe6f_39 rfl ?_
  refine j_i2b (v := x.toInt8.toInt32) C dJ5_append_3fe6f_40 rfl ?_
  refine j_bastore (ws' := ((sb, .inr (1, [.ref va1, .int (nI 0), .int (nI 0), .int (nI (cnt + 1))])) :: (va1, .inl (E.2.2.1, n2, .inl (upd f3 cnt (vp_nar .byte x.toInt8.toInt32)))) :: ws)) (f' := upd f3 cnt (vp_nar .byte x.toInt8.toInt32)) C 1 cnt rfl rfl (by omega) (by omega) dJ5_append_3fe6f_41 rfl rfl ?_
  refine j_goto (tgt := 75) C dJ5_append_3fe6f_42 (by decide) ?_
  refine j_aload_n C dJ5_append_3fe6f_75 rfl ?_
  exact j_aret C hQ rfl (Or.inl ⟨_, rfl⟩) dJ5_append_3fe6f_76 ⟨Nat.le_of_ble_eq_true rfl, Nat.le_of_ble_eq_true rfl⟩ ⟨_, _, _, hzva1, hqva1, sb_fitU hfva1 (fit_b _), rfl, rfl⟩
set_option maxHeartbeats 4000000 in
set_option maxRecDepth 100000 in
theorem c_appendC (l : Launch) (E : jE) (A : Nat → Prop) {ws : va_W} {sb va cnt n : Nat} {f : Nat → Int32} {x : Int32} (hn : jSz n) (hc : cnt + 1 ≤ 34) (hf : sb_Fit f) (hx : ¬ nI 255 < x) : jMet l yJ4_append_cf468 cJ4_append_cf468 2 (some (.object "java/lang/StringBuilder")) 4 1 34 E A [.ref sb, .int x] ((sb, .inr (1, [.ref va, .int (nI 0), .int (nI 0), .int (nI cnt)])) :: (va, .inl (E.2.2.1, n, .inl f)) :: ws) (fun vv ww => ∃ (v2 n2 : Nat) (f2 : Nat → Int32), jSz n2 ∧ cnt + 1 ≤ n2 ∧ sb_Fit f2 ∧ vv = some (.ref sb) ∧ ww = (sb, .inr (1, [.ref v2, .int (nI 0), .int (nI 0), .int (nI (cnt + 1))])) :: (v2, .inl (E.2.2.1, n2, .inl f2)) :: ws) jNo := by
  refine jMet.intro' [(0, .ref sb), (1, .int x)] (by decide) (Nat.le_of_ble_eq_true rfl) rfl ?_
  intro p e R s m args below meth c Q C hQ
  refine j_aload_n C dJ4_append_cf468_0 rfl ?_
  refine j_iload_n C dJ4_append_cf468_1 rfl ?_
  refine j_callSU C (q0 := 0) (Cn := "java/lang/StringBuilder") (c_appendC5 l E A hn (by omega) hf hx) okU_J5_append_3fe6f w_534 w_1211 w_529 w_500 (by decide) (by decide) rfl rfl (Nat.le_of_ble_eq_true rfl) rfl rfl ⟨Nat.le_of_ble_eq_true rfl, Nat.le_of_ble_eq_true rfl⟩ dJ4_append_cf468_2 (fun _ _ h => ?_)
  obtain ⟨va1, n2, f3, hzva1, hqva1, hfva1, rfl, rfl⟩ := h
  refine j_pop C dJ4_append_cf468_5 rfl ?_
  refine j_aload_n C dJ4_append_cf468_6 rfl ?_
  exact j_aret C hQ rfl (Or.inl ⟨_, rfl⟩) dJ4_append_cf468_7 ⟨Nat.le_of_ble_eq_true rfl, Nat.le_of_ble_eq_true rfl⟩ ⟨_, _, _, hzva1, hqva1, hfva1, rfl, rfl⟩
set_option maxHeartbeats 4000000 in
set_option maxRecDepth 100000 in
theorem c_sbInit5 (l : Launch) (E : jE) (A : Nat → Prop) {ws : va_W} {sb : Nat} : jMet l yJ5_init_d00df cJ5_init_d00df 2 (none : Option Jvm.ClassFile.FieldType) 1 1 16 E A [.ref sb, .int (nI 16)] ((sb, .inr (1, [.null, .int (nI 0), .int (nI 0), .int (nI 0)])) :: ws) (fun vv ww => ∃ v2 : Nat, vv = none ∧ ww = (sb, .inr (1, [.ref v2, .int (nI 0), .int (nI 0), .int (nI 0)])) :: (v2, .inl (E.2.2.1, 16, .inl (fun _ => 0))) :: ws) jNo := by
  refine jMet.intro' [(0, .ref sb), (1, .int (nI 16))] (by decide) (Nat.le_of_ble_eq_true rfl) rfl ?_
  intro p e R s m args below meth c Q C hQ
  refine j_aload_n C dJ5_init_d00df_0 rfl ?_
  refine j_objInit C w_507 w_54 w_55 (Nat.le_of_ble_eq_true rfl) dJ5_init_d00df_1 ?_
  refine j_compact C w_508 dJ5_init_d00df_4 ?_
  refine j_ifn_eq_f (tgt := 25) C dJ5_init_d00df_7 (by decide) (by omega) (by omega) ?_
  refine j_aload_n C dJ5_init_d00df_10 rfl ?_
  refine j_iload_n C dJ5_init_d00df_11 rfl ?_
  refine j_newB C 16 w_342 rfl (by omega) (by omega) (by omega) dJ5_init_d00df_12 (fun v1 => ?_)
  refine j_front ?_
  refine j_put (ws' := ((v1, .inl (E.2.2.1, 16, .inl (fun _ => 0))) :: (sb, .inr (1, [.ref v1, .int (nI 0), .int (nI 0), .int (nI 0)])) :: ws)) C 1 rfl inj_J4 tyJ4 tyJ4_ok nmJ4 rfl 0 (by decide) w_517 rfl (tyJ4_ok 0 (by decide)) rfl rfl (Nat.le_of_ble_eq_true rfl) dJ5_init_d00df_14 rfl ?_
  refine j_aload_n C dJ5_init_d00df_17 rfl ?_
  refine j_iconst (v := (nI 0)) C dJ5_init_d00df_18 rfl ?_
  refine j_put (ws' := ((v1, .inl (E.2.2.1, 16, .inl (fun _ => 0))) :: (sb, .inr (1, [.ref v1, .int (nI 0), .int (nI 0), .int (nI 0)])) :: ws)) C 1 rfl inj_J4 tyJ4 tyJ4_ok nmJ4 rfl 1 (by decide) w_518 rfl (tyJ4_ok 1 (by decide)) rfl rfl (Nat.le_of_ble_eq_true rfl) dJ5_init_d00df_19 rfl ?_
  refine j_goto (tgt := 38) C dJ5_init_d00df_22 (by decide) ?_
  refine j_perm (pre := [(v1, .inl (E.2.2.1, 16, .inl (fun _ => 0))), (sb, .inr (1, [.ref v1, .int (nI 0), .int (nI 0), .int (nI 0)]))]) (pre' := [(sb, .inr (1, [.ref v1, .int (nI 0), .int (nI 0), .int (nI 0)])), (v1, .inl (E.2.2.1, 16, .inl (fun _ => 0)))]) (tl := ws) [1, 0] rfl (by decide) ?_
  exact j_vret C hQ rfl dJ5_init_d00df_38 ⟨Nat.le_of_ble_eq_true rfl, Nat.le_of_ble_eq_true rfl⟩ ⟨_, rfl, rfl⟩
set_option maxHeartbeats 4000000 in
set_option maxRecDepth 100000 in
theorem c_sbInit (l : Launch) (E : jE) (A : Nat → Prop) {ws : va_W} {sb : Nat} : jMet l yJ4_init_da8c8 cJ4_init_da8c8 1 (none : Option Jvm.ClassFile.FieldType) 2 1 16 E A [.ref sb] ((sb, .inr (1, [.null, .int (nI 0), .int (nI 0), .int (nI 0)])) :: ws) (fun vv ww => ∃ v2 : Nat, vv = none ∧ ww = (sb, .inr (1, [.ref v2, .int (nI 0), .int (nI 0), .int (nI 0)])) :: (v2, .inl (E.2.2.1, 16, .inl (fun _ => 0))) :: ws) jNo := by
  refine jMet.intro' [(0, .ref sb)] (by decide) (Nat.le_of_ble_eq_true rfl) rfl ?_
  intro p e R s m args below meth c Q C hQ
  refine j_aload_n C dJ4_init_da8c8_0 rfl ?_
  refine j_bipush (v := (nI 16)) C dJ4_init_da8c8_1 rfl ?_
  refine j_callI C (c_sbInit5 l E A) ok_J5_init_d00df w_504 (by decide) rfl rfl (Nat.le_of_ble_eq_true rfl) ⟨Nat.le_of_ble_eq_true rfl, Nat.le_of_ble_eq_true rfl⟩ dJ4_init_da8c8_3 (fun _ _ h => ?_)
  obtain ⟨va1, rfl, rfl⟩ := h
  exact j_vret C hQ rfl dJ4_init_da8c8_6 ⟨Nat.le_of_ble_eq_true rfl, Nat.le_of_ble_eq_true rfl⟩ ⟨_, rfl, rfl⟩
set_option maxHeartbeats 4000000 in
set_option maxRecDepth 100000 in
theorem c_coder (l : Launch) (E : jE) (A : Nat → Prop) {ws : va_W} {st sv : Nat} : jMet l yJ0_coder_7d493 cJ0_coder_7d493 1 (some .byte) 0 0 0 E A [.ref st] ((st, .inr (0, [.ref sv, .int (nI 0), .int (nI 0), .int (nI 0)])) :: ws) (jR (some (.int (nI 0))) ((st, .inr (0, [.ref sv, .int (nI 0), .int (nI 0), .int (nI 0)])) :: ws)) jNo := by
  refine jMet.intro' [(0, .ref st)] (by decide) (Nat.le_of_ble_eq_true rfl) rfl ?_
  intro p e R s m args below meth c Q C hQ
  refine j_compact C w_717 dJ0_coder_7d493_0 ?_
  refine j_ifn_eq_f (tgt := 13) C dJ0_coder_7d493_3 (by decide) (by omega) (by omega) ?_
  refine j_aload_n C dJ0_coder_7d493_6 rfl ?_
  refine j_get C 0 rfl inj_J0 rfl 1 (by decide) w_749 rfl dJ0_coder_7d493_7 ?_
  refine j_goto (tgt := 14) C dJ0_coder_7d493_10 (by decide) ?_
  exact j_bret C hQ rfl rfl dJ0_coder_7d493_14 ⟨Nat.le_of_ble_eq_true rfl, Nat.le_of_ble_eq_true rfl⟩ ⟨rfl, rfl⟩
set_option maxHeartbeats 4000000 in
set_option maxRecDepth 100000 in
theorem c_coderL (l : Launch) (E : jE) (A : Nat → Prop) {ws : va_W}  : jMet l yJ0_coder_7d493 cJ0_coder_7d493 1 (some .byte) 0 0 0 E A [.ref E.2.2.2.2.1] ws (jR (some (.int (nI 0))) ws) jNo := by
  refine jMet.intro' [(0, .ref E.2.2.2.2.1)] (by decide) (Nat.le_of_ble_eq_true rfl) rfl ?_
  intro p e R s m args below meth c Q C hQ
  refine j_compact C w_717 dJ0_coder_7d493_0 ?_
  refine j_ifn_eq_f (tgt := 13) C dJ0_coder_7d493_3 (by decide) (by omega) (by omega) ?_
  refine j_aload_n C dJ0_coder_7d493_6 rfl ?_
  refine j_getO (v := .int (nI 0)) C C.2.2.2.2.2.2.2.2.1.2.2.2.2.2.2.2.2.2.2.2.1.2.2.1 w_749 dJ0_coder_7d493_7 ?_
  refine j_goto (tgt := 14) C dJ0_coder_7d493_10 (by decide) ?_
  exact j_bret C hQ rfl rfl dJ0_coder_7d493_14 ⟨Nat.le_of_ble_eq_true rfl, Nat.le_of_ble_eq_true rfl⟩ ⟨rfl, rfl⟩
set_option maxHeartbeats 4000000 in
set_option maxRecDepth 100000 in
theorem c_strLen (l : Launch) (E : jE) (A : Nat → Prop) {ws : va_W} {st sv w : Nat} {g : Nat → Int32} : jMet l yJ0_length_8abf5 cJ0_length_8abf5 1 (some .int) 1 0 0 E A [.ref st] ((st, .inr (0, [.ref sv, .int (nI 0), .int (nI 0), .int (nI 0)])) :: (sv, .inl (E.2.2.1, w, .inl g)) :: ws) (jR (some (.int (nI w))) ((st, .inr (0, [.ref sv, .int (nI 0), .int (nI 0), .int (nI 0)])) :: (sv, .inl (E.2.2.1, w, .inl g)) :: ws)) jNo := by
  refine jMet.intro' [(0, .ref st)] (by decide) (Nat.le_of_ble_eq_true rfl) rfl ?_
  intro p e R s m args below meth c Q C hQ
  refine j_aload_n C dJ0_length_8abf5_0 rfl ?_
  refine j_get C 0 rfl inj_J0 rfl 0 (by decide) w_748 rfl dJ0_length_8abf5_1 ?_
  refine j_alen C 1 1 rfl rfl rfl dJ0_length_8abf5_4 ?_
  refine j_aload_n C dJ0_length_8abf5_5 rfl ?_
  refine j_callV C (q0 := 0) (c_coder l E A) ok_J0_coder_7d493 w_713 (by decide) rfl rfl (Nat.le_of_ble_eq_true rfl) rfl rfl ⟨Nat.le_of_ble_eq_true rfl, Nat.le_of_ble_eq_true rfl⟩ dJ0_length_8abf5_6 (fun _ _ h => h.elim) (fun _ _ h => ?_)
  obtain ⟨rfl, rfl⟩ := h
  refine j_ishr (z := (nI w)) C dJ0_length_8abf5_9 rfl ?_
  exact j_iret C hQ rfl dJ0_length_8abf5_10 ⟨Nat.le_of_ble_eq_true rfl, Nat.le_of_ble_eq_true rfl⟩ ⟨rfl, rfl⟩
set_option maxHeartbeats 4000000 in
set_option maxRecDepth 100000 in
theorem c_strLenL (l : Launch) (E : jE) (A : Nat → Prop) {ws : va_W}  : jMet l yJ0_length_8abf5 cJ0_length_8abf5 1 (some .int) 1 0 0 E A [.ref E.2.2.2.2.1] ws (jR (some (.int (nI 0))) ws) jNo := by
  refine jMet.intro' [(0, .ref E.2.2.2.2.1)] (by decide) (Nat.le_of_ble_eq_true rfl) rfl ?_
  intro p e R s m args below meth c Q C hQ
  refine j_aload_n C dJ0_length_8abf5_0 rfl ?_
  refine j_getO (v := .ref E.2.2.2.2.2) C C.2.2.2.2.2.2.2.2.1.2.2.2.2.2.2.2.2.2.2.2.1.2.2.2.1 w_748 dJ0_length_8abf5_1 ?_
  refine j_tlenB C (C.2.2.2.2.2.2.2.2.1.2.2.2.2.2.2.2.2.2.2.2.1.2.2.2.2) rfl dJ0_length_8abf5_4 ?_
  refine j_aload_n C dJ0_length_8abf5_5 rfl ?_
  refine j_callVO C (C.2.2.2.2.2.2.2.2.1.2.2.2.2.2.2.2.2.2.2.2.1.2.1) (c_coderL l E A) ok_J0_coder_7d493 w_713 (by decide) rfl rfl (Nat.le_of_ble_eq_true rfl) ⟨Nat.le_of_ble_eq_true rfl, Nat.le_of_ble_eq_true rfl⟩ dJ0_length_8abf5_6 (fun _ _ h => ?_)
  obtain ⟨rfl, rfl⟩ := h
  refine j_ishr (z := (nI 0)) C dJ0_length_8abf5_9 rfl ?_
  exact j_iret C hQ rfl dJ0_length_8abf5_10 ⟨Nat.le_of_ble_eq_true rfl, Nat.le_of_ble_eq_true rfl⟩ ⟨rfl, rfl⟩
set_option maxHeartbeats 4000000 in
set_option maxRecDepth 100000 in
theorem c_checkLength (l : Launch) (E : jE) (A : Nat → Prop) {ws : va_W} {k : Nat} (hk : k ≤ 34) : jMet l yJ7_checkLength_df160 cJ7_checkLength_df160 2 (none : Option Jvm.ClassFile.FieldType) 0 0 0 E A [.int (nI 0), .int (nI k)] ws (jR none ws) jNo := by
  refine jMet.intro' [(0, .int (nI 0)), (1, .int (nI k))] (by decide) (Nat.le_of_ble_eq_true rfl) rfl ?_
  intro p e R s m args below meth c Q C hQ
  refine j_iload_n C dJ7_checkLength_df160_0 rfl ?_
  refine j_iload_n C dJ7_checkLength_df160_1 rfl ?_
  refine j_icmpn_ge_t (tgt := 37) C dJ7_checkLength_df160_2 (by decide) (by omega) (by omega) (by omega) ?_
  exact j_vret C hQ rfl dJ7_checkLength_df160_37 ⟨Nat.le_of_ble_eq_true rfl, Nat.le_of_ble_eq_true rfl⟩ ⟨rfl, rfl⟩
set_option maxHeartbeats 4000000 in
set_option maxRecDepth 100000 in
theorem c_corb (l : Launch) (E : jE) (A : Nat → Prop) {ws : va_W} {va n k : Nat} {f : Nat → Int32} (hk : k ≤ n) (hn : n ≤ 34) (hf : sb_Fit f) : jMet l yJ7_copyOfRangeByte_39247 cJ7_copyOfRangeByte_39247 5 (some (.array .byte)) 1 1 34 E A [.ref va, .int (nI 0), .int (nI k)] ((va, .inl (E.2.2.1, n, .inl f)) :: ws) (fun vv ww => ∃ (v2 : Nat) (f2 : Nat → Int32), sb_Fit f2 ∧ vv = some (.ref v2) ∧ ww = (v2, .inl (E.2.2.1, k, .inl f2)) :: ((va, .inl (E.2.2.1, n, .inl f)) :: ws)) jNo := by
  refine jMet.intro' [(0, .ref va), (1, .int (nI 0)), (2, .int (nI k))] (by decide) (Nat.le_of_ble_eq_true rfl) rfl ?_
  intro p e R s m args below meth c Q C hQ
  refine j_iload_n C dJ7_copyOfRangeByte_39247_0 rfl ?_
  refine j_iload_n C dJ7_copyOfRangeByte_39247_1 rfl ?_
  refine j_callS C (c_checkLength l E A (by omega)) ok_J7_checkLength_df160 w_654 (by decide) rfl rfl (Nat.le_of_ble_eq_true rfl) ⟨Nat.le_of_ble_eq_true rfl, Nat.le_of_ble_eq_true rfl⟩ dJ7_copyOfRangeByte_39247_2 (fun _ _ h => h.elim) (fun _ _ h => ?_)
  obtain ⟨rfl, rfl⟩ := h
  refine j_iload_n C dJ7_copyOfRangeByte_39247_5 rfl ?_
  refine j_iload_n C dJ7_copyOfRangeByte_39247_6 rfl ?_
  refine j_isub (z := (nI k)) C dJ7_copyOfRangeByte_39247_7 (sub0 _) ?_
  refine j_istore_n (lv' := [(3, .int (nI k)), (0, .ref va), (1, .int (nI 0)), (2, .int (nI k))]) C dJ7_copyOfRangeByte_39247_8 (by decide) rfl ?_
  refine j_iload_n C dJ7_copyOfRangeByte_39247_9 rfl ?_
  refine j_newB C k w_342 rfl (by omega) (by omega) (by omega) dJ7_copyOfRangeByte_39247_10 (fun v1 => ?_)
  refine j_front ?_
  refine j_astore (lv' := [(4, .ref v1), (3, .int (nI k)), (0, .ref va), (1, .int (nI 0)), (2, .int (nI k))]) C dJ7_copyOfRangeByte_39247_12 (by decide) rfl ?_
  refine j_aload_n C dJ7_copyOfRangeByte_39247_14 rfl ?_
  refine j_iload_n C dJ7_copyOfRangeByte_39247_15 rfl ?_
  refine j_aload C dJ7_copyOfRangeByte_39247_16 rfl ?_
  refine j_iconst (v := (nI 0)) C dJ7_copyOfRangeByte_39247_18 rfl ?_
  refine j_aload_n C dJ7_copyOfRangeByte_39247_19 rfl ?_
  refine j_alen C 1 1 rfl rfl rfl dJ7_copyOfRangeByte_39247_20 ?_
  refine j_iload_n C dJ7_copyOfRangeByte_39247_21 rfl ?_
  refine j_isub (z := (nI n)) C dJ7_copyOfRangeByte_39247_22 (sub0 _) ?_
  refine j_iload_n C dJ7_copyOfRangeByte_39247_23 rfl ?_
  refine j_mmin (z := (nI k)) C w_564 w_178 w_41 w_179 (Nat.le_of_ble_eq_true rfl) ⟨Nat.le_of_ble_eq_true rfl, by omega⟩ dJ7_copyOfRangeByte_39247_24 (min_r hk (by omega)) ?_
  refine j_copyB (ws' := ((v1, .inl (E.2.2.1, k, .inl (va_cpy f (fun _ => 0) 0 0 k))) :: (va, .inl (E.2.2.1, n, .inl f)) :: ws)) C 1 0 0 0 k w_565 rfl rfl (by omega) (by omega) (by omega) (by omega) hf (Nat.le_of_ble_eq_true rfl) dJ7_copyOfRangeByte_39247_27 rfl ?_
  refine j_aload C dJ7_copyOfRangeByte_39247_30 rfl ?_
  exact j_aret C hQ rfl (Or.inr ⟨_, rfl⟩) dJ7_copyOfRangeByte_39247_32 ⟨Nat.le_of_ble_eq_true rfl, by omega⟩ ⟨_, _, (sb_fitC hf sb_fit0), rfl, rfl⟩
set_option maxHeartbeats 4000000 in
set_option maxRecDepth 100000 in
theorem c_cor_l (l : Launch) (E : jE) (A : Nat → Prop) {ws : va_W} {va n k : Nat} {f : Nat → Int32} (hk : k < n) (hn : n ≤ 34) (hf : sb_Fit f) : jMet l yJ7_copyOfRange_39247 cJ7_copyOfRange_39247 3 (some (.array .byte)) 2 1 34 E A [.ref va, .int (nI 0), .int (nI k)] ((va, .inl (E.2.2.1, n, .inl f)) :: ws) (fun vv ww => ∃ (v2 : Nat) (f2 : Nat → Int32), sb_Fit f2 ∧ vv = some (.ref v2) ∧ ww = (v2, .inl (E.2.2.1, k, .inl f2)) :: ((va, .inl (E.2.2.1, n, .inl f)) :: ws)) jNo := by
  refine jMet.intro' [(0, .ref va), (1, .int (nI 0)), (2, .int (nI k))] (by decide) (Nat.le_of_ble_eq_true rfl) rfl ?_
  intro p e R s m args below meth c Q C hQ
  refine j_iload_n C dJ7_copyOfRange_39247_0 rfl ?_
  refine j_ifn_ne_f (tgt := 10) C dJ7_copyOfRange_39247_1 (by decide) (by omega) (by omega) ?_
  refine j_iload_n C dJ7_copyOfRange_39247_4 rfl ?_
  refine j_aload_n C dJ7_copyOfRange_39247_5 rfl ?_
  refine j_alen C 0 1 rfl rfl rfl dJ7_copyOfRange_39247_6 ?_
  refine j_icmpn_eq_f (tgt := 17) C dJ7_copyOfRange_39247_7 (by decide) (by omega) (by omega) (by omega) ?_
  refine j_aload_n C dJ7_copyOfRange_39247_10 rfl ?_
  refine j_iload_n C dJ7_copyOfRange_39247_11 rfl ?_
  refine j_iload_n C dJ7_copyOfRange_39247_12 rfl ?_
  refine j_callS C (c_corb l E A (by omega) (by omega) hf) ok_J7_copyOfRangeByte_39247 w_651 (by decide) rfl rfl (Nat.le_of_ble_eq_true rfl) ⟨Nat.le_of_ble_eq_true rfl, Nat.le_of_ble_eq_true rfl⟩ dJ7_copyOfRange_39247_13 (fun _ _ h => h.elim) (fun _ _ h => ?_)
  obtain ⟨v1, f2, hfv1, rfl, rfl⟩ := h
  exact j_aret C hQ rfl (Or.inr ⟨_, rfl⟩) dJ7_copyOfRange_39247_16 ⟨Nat.le_of_ble_eq_true rfl, Nat.le_of_ble_eq_true rfl⟩ ⟨_, _, hfv1, rfl, rfl⟩
set_option maxHeartbeats 4000000 in
set_option maxRecDepth 100000 in
theorem c_cor_e (l : Launch) (E : jE) (A : Nat → Prop) {ws : va_W} {va k : Nat} {f : Nat → Int32} (hn : k ≤ 34) (hf : sb_Fit f) : jMet l yJ7_copyOfRange_39247 cJ7_copyOfRange_39247 3 (some (.array .byte)) 2 1 34 E A [.ref va, .int (nI 0), .int (nI k)] ((va, .inl (E.2.2.1, k, .inl f)) :: ws) (fun vv ww => ∃ (v2 : Nat) (f2 : Nat → Int32), sb_Fit f2 ∧ vv = some (.ref v2) ∧ ww = (v2, .inl (E.2.2.1, k, .inl f2)) :: ((va, .inl (E.2.2.1, k, .inl f)) :: ws)) jNo := by
  refine jMet.intro' [(0, .ref va), (1, .int (nI 0)), (2, .int (nI k))] (by decide) (Nat.le_of_ble_eq_true rfl) rfl ?_
  intro p e R s m args below meth c Q C hQ
  refine j_iload_n C dJ7_copyOfRange_39247_0 rfl ?_
  refine j_ifn_ne_f (tgt := 10) C dJ7_copyOfRange_39247_1 (by decide) (by omega) (by omega) ?_
  refine j_iload_n C dJ7_copyOfRange_39247_4 rfl ?_
  refine j_aload_n C dJ7_copyOfRange_39247_5 rfl ?_
  refine j_alen C 0 1 rfl rfl rfl dJ7_copyOfRange_39247_6 ?_
  refine j_icmpn_eq_t (tgt := 17) C dJ7_copyOfRange_39247_7 (by decide) (by omega) (by omega) rfl ?_
  refine j_aload_n C dJ7_copyOfRange_39247_17 rfl ?_
  refine j_cloneB C 0 w_557 rfl hf (Nat.le_of_ble_eq_true rfl) (by omega) (by omega) dJ7_copyOfRange_39247_18 (fun v1 => ?_)
  refine j_front ?_
  refine j_castB C 0 w_563 rfl dJ7_copyOfRange_39247_21 ?_
  exact j_aret C hQ rfl (Or.inr ⟨_, rfl⟩) dJ7_copyOfRange_39247_24 ⟨Nat.le_of_ble_eq_true rfl, by omega⟩ ⟨_, _, hf, rfl, rfl⟩
theorem c_cor (l : Launch) (E : jE) (A : Nat → Prop) {ws : va_W} {va n k : Nat} {f : Nat → Int32} (hk : k ≤ n) (hn : n ≤ 34) (hf : sb_Fit f) : jMet l yJ7_copyOfRange_39247 cJ7_copyOfRange_39247 3 (some (.array .byte)) 2 1 34 E A [.ref va, .int (nI 0), .int (nI k)] ((va, .inl (E.2.2.1, n, .inl f)) :: ws) (fun vv ww => ∃ (v2 : Nat) (f2 : Nat → Int32), sb_Fit f2 ∧ vv = some (.ref v2) ∧ ww = (v2, .inl (E.2.2.1, k, .inl f2)) :: ((va, .inl (E.2.2.1, n, .inl f)) :: ws)) jNo := by
  rcases Nat.lt_or_eq_of_le hk with h | h
  · exact c_cor_l l E A h hn hf
  · subst h; exact c_cor_e l E A hn hf
set_option maxHeartbeats 4000000 in
set_option maxRecDepth 100000 in
theorem c_strInit5 (l : Launch) (E : jE) (A : Nat → Prop) {ws : va_W} {st sb va cnt n : Nat} {f : Nat → Int32} (hn : jSz n) (hc : cnt ≤ n) (hf : sb_Fit f) : jMet l yJ0_init_db425 cJ0_init_db425 5 (none : Option Jvm.ClassFile.FieldType) 3 1 34 E A [.ref st, .ref sb, .null] ((st, .inr (0, [.null, .int (nI 0), .int (nI 0), .int (nI 0)])) :: (sb, .inr (1, [.ref va, .int (nI 0), .int (nI 0), .int (nI cnt)])) :: (va, .inl (E.2.2.1, n, .inl f)) :: ws) (fun vv ww => ∃ (sv : Nat) (g : Nat → Int32), sb_Fit g ∧ vv = none ∧ ww = ((st, .inr (0, [.ref sv, .int (nI 0), .int (nI 0), .int (nI 0)])) :: (sv, .inl (E.2.2.1, cnt, .inl g)) :: (sb, .inr (1, [.ref va, .int (nI 0), .int (nI 0), .int (nI cnt)])) :: (va, .inl (E.2.2.1, n, .inl f)) :: ws)) jNo := by
  refine jMet.intro' [(0, .ref st), (1, .ref sb), (2, .null)] (by decide) (Nat.le_of_ble_eq_true rfl) rfl ?_
  intro p e R s m args below meth c Q C hQ
  refine j_aload_n C dJ0_init_db425_0 rfl ?_
  refine j_objInit C w_633 w_54 w_55 (Nat.le_of_ble_eq_true rfl) dJ0_init_db425_1 ?_
  refine j_aload_n C dJ0_init_db425_4 rfl ?_
  refine j_perm (pre := [(st, .inr (0, [.null, .int (nI 0), .int (nI 0), .int (nI 0)])), (sb, .inr (1, [.ref va, .int (nI 0), .int (nI 0), .int (nI cnt)])), (va, .inl (E.2.2.1, n, .inl f))]) (pre' := [(sb, .inr (1, [.ref va, .int (nI 0), .int (nI 0), .int (nI cnt)])), (st, .inr (0, [.null, .int (nI 0), .int (nI 0), .int (nI 0)])), (va, .inl (E.2.2.1, n, .inl f))]) (tl := ws) [1, 0, 2] rfl (by decide) ?_
  refine j_callU C (q0 := 0) (Cn := "java/lang/StringBuilder") (owner := "java/lang/AbstractStringBuilder") (c_getValue l E A) okU_J5_getValue_6d5f1 w_634 w_636 ⟨by decide, by decide⟩ rfl w_635 w_638 (C.2.2.2.2.1 _ w_637) (by decide) rfl rfl (Nat.le_of_ble_eq_true rfl) rfl rfl ⟨Nat.le_of_ble_eq_true rfl, Nat.le_of_ble_eq_true rfl⟩ dJ0_init_db425_5 (fun _ _ h => ?_)
  obtain ⟨rfl, rfl⟩ := h
  refine j_astore_n (lv' := [(3, .ref va), (0, .ref st), (1, .ref sb), (2, .null)]) C dJ0_init_db425_8 (by decide) rfl ?_
  refine j_aload_n C dJ0_init_db425_9 rfl ?_
  refine j_callU C (q0 := 0) (Cn := "java/lang/StringBuilder") (owner := "java/lang/AbstractStringBuilder") (c_sbLength l E A) okU_J4_length_8abf5 w_639 w_641 ⟨by decide, by decide⟩ rfl w_640 w_646 (C.2.2.2.2.1 _ w_642) (by decide) rfl rfl (Nat.le_of_ble_eq_true rfl) rfl rfl ⟨Nat.le_of_ble_eq_true rfl, Nat.le_of_ble_eq_true rfl⟩ dJ0_init_db425_10 (fun _ _ h => ?_)
  obtain ⟨rfl, rfl⟩ := h
  refine j_istore (lv' := [(4, .int (nI cnt)), (3, .ref va), (0, .ref st), (1, .ref sb), (2, .null)]) C dJ0_init_db425_13 (by decide) rfl ?_
  refine j_aload_n C dJ0_init_db425_15 rfl ?_
  refine j_callU C (q0 := 0) (Cn := "java/lang/StringBuilder") (owner := "java/lang/AbstractStringBuilder") (c_isLatin1 l E A) okU_J5_isLatin1_aae02 w_647 w_570 ⟨by decide, by decide⟩ rfl w_569 w_572 (C.2.2.2.2.1 _ w_571) (by decide) rfl rfl (Nat.le_of_ble_eq_true rfl) rfl rfl ⟨Nat.le_of_ble_eq_true rfl, Nat.le_of_ble_eq_true rfl⟩ dJ0_init_db425_16 (fun _ _ h => ?_)
  obtain ⟨rfl, rfl⟩ := h
  refine j_ifn_eq_f (tgt := 41) C dJ0_init_db425_19 (by decide) (by omega) (by omega) ?_
  refine j_aload_n C dJ0_init_db425_22 rfl ?_
  refine j_iconst (v := (nI 0)) C dJ0_init_db425_23 rfl ?_
  refine j_putF (ws' := ((sb, .inr (1, [.ref va, .int (nI 0), .int (nI 0), .int (nI cnt)])) :: (st, .inr (0, [.null, .int (nI 0), .int (nI 0), .int (nI 0)])) :: (va, .inl (E.2.2.1, n, .inl f)) :: ws)) C 1 rfl inj_J0 tyJ0 tyJ0_ok nmJ0 rfl 1 (by decide) w_749 rfl rfl rfl (tyJ0_ok 1 (by decide)) rfl rfl (Nat.le_of_ble_eq_true rfl) dJ0_init_db425_24 rfl ?_
  refine j_aload_n C dJ0_init_db425_27 rfl ?_
  refine j_aload_n C dJ0_init_db425_28 rfl ?_
  refine j_iconst (v := (nI 0)) C dJ0_init_db425_29 rfl ?_
  refine j_iload C dJ0_init_db425_30 rfl ?_
  refine j_perm (pre := [(sb, .inr (1, [.ref va, .int (nI 0), .int (nI 0), .int (nI cnt)])), (st, .inr (0, [.null, .int (nI 0), .int (nI 0), .int (nI 0)])), (va, .inl (E.2.2.1, n, .inl f))]) (pre' := [(va, .inl (E.2.2.1, n, .inl f)), (sb, .inr (1, [.ref va, .int (nI 0), .int (nI 0), .int (nI cnt)])), (st, .inr (0, [.null, .int (nI 0), .int (nI 0), .int (nI 0)]))]) (tl := ws) [2, 0, 1] rfl (by decide) ?_
  refine j_callS C (c_cor l E A (by omega) (by omega) hf) ok_J7_copyOfRange_39247 w_648 (by decide) rfl rfl (Nat.le_of_ble_eq_true rfl) ⟨Nat.le_of_ble_eq_true rfl, Nat.le_of_ble_eq_true rfl⟩ dJ0_init_db425_32 (fun _ _ h => h.elim) (fun _ _ h => ?_)
  obtain ⟨v1, f2, hfv1, rfl, rfl⟩ := h
  refine j_putF (ws' := ((v1, .inl (E.2.2.1, cnt, .inl f2)) :: (va, .inl (E.2.2.1, n, .inl f)) :: (sb, .inr (1, [.ref va, .int (nI 0), .int (nI 0), .int (nI cnt)])) :: (st, .inr (0, [.ref v1, .int (nI 0), .int (nI 0), .int (nI 0)])) :: ws)) C 3 rfl inj_J0 tyJ0 tyJ0_ok nmJ0 rfl 0 (by decide) w_748 rfl rfl rfl (tyJ0_ok 0 (by decide)) rfl rfl (Nat.le_of_ble_eq_true rfl) dJ0_init_db425_35 rfl ?_
  refine j_goto (tgt := 97) C dJ0_init_db425_38 (by decide) ?_
  refine j_perm (pre := [(v1, .inl (E.2.2.1, cnt, .inl f2)), (va, .inl (E.2.2.1, n, .inl f)), (sb, .inr (1, [.ref va, .int (nI 0), .int (nI 0), .int (nI cnt)])), (st, .inr (0, [.ref v1, .int (nI 0), .int (nI 0), .int (nI 0)]))]) (pre' := [(st, .inr (0, [.ref v1, .int (nI 0), .int (nI 0), .int (nI 0)])), (v1, .inl (E.2.2.1, cnt, .inl f2)), (sb, .inr (1, [.ref va, .int (nI 0), .int (nI 0), .int (nI cnt)])), (va, .inl (E.2.2.1, n, .inl f))]) (tl := ws) [3, 0, 2, 1] rfl (by decide) ?_
  exact j_vret C hQ rfl dJ0_init_db425_97 ⟨Nat.le_of_ble_eq_true rfl, Nat.le_of_ble_eq_true rfl⟩ ⟨_, _, hfv1, rfl, rfl⟩
set_option maxHeartbeats 4000000 in
set_option maxRecDepth 100000 in
theorem c_strInit (l : Launch) (E : jE) (A : Nat → Prop) {ws : va_W} {st sb va cnt n : Nat} {f : Nat → Int32} (hn : jSz n) (hc : cnt ≤ n) (hf : sb_Fit f) : jMet l yJ0_init_81219 cJ0_init_81219 2 (none : Option Jvm.ClassFile.FieldType) 4 1 34 E A [.ref st, .ref sb] ((st, .inr (0, [.null, .int (nI 0), .int (nI 0), .int (nI 0)])) :: (sb, .inr (1, [.ref va, .int (nI 0), .int (nI 0), .int (nI cnt)])) :: (va, .inl (E.2.2.1, n, .inl f)) :: ws) (fun vv ww => ∃ (sv : Nat) (g : Nat → Int32), sb_Fit g ∧ vv = none ∧ ww = ((st, .inr (0, [.ref sv, .int (nI 0), .int (nI 0), .int (nI 0)])) :: (sv, .inl (E.2.2.1, cnt, .inl g)) :: (sb, .inr (1, [.ref va, .int (nI 0), .int (nI 0), .int (nI cnt)])) :: (va, .inl (E.2.2.1, n, .inl f)) :: ws)) jNo := by
  refine jMet.intro' [(0, .ref st), (1, .ref sb)] (by decide) (Nat.le_of_ble_eq_true rfl) rfl ?_
  intro p e R s m args below meth c Q C hQ
  refine j_aload_n C dJ0_init_81219_0 rfl ?_
  refine j_aload_n C dJ0_init_81219_1 rfl ?_
  refine j_null C dJ0_init_81219_2 ?_
  refine j_callI C (c_strInit5 l E A hn (by omega) hf) ok_J0_init_db425 w_630 (by decide) rfl rfl (Nat.le_of_ble_eq_true rfl) ⟨Nat.le_of_ble_eq_true rfl, Nat.le_of_ble_eq_true rfl⟩ dJ0_init_81219_3 (fun _ _ h => ?_)
  obtain ⟨sv1, g2, hfsv1, rfl, rfl⟩ := h
  exact j_vret C hQ rfl dJ0_init_81219_6 ⟨Nat.le_of_ble_eq_true rfl, Nat.le_of_ble_eq_true rfl⟩ ⟨_, _, hfsv1, rfl, rfl⟩
set_option maxHeartbeats 4000000 in
set_option maxRecDepth 100000 in
theorem c_toString (l : Launch) (E : jE) (A : Nat → Prop) {ws : va_W} {sb va cnt n : Nat} {f : Nat → Int32} (hn : jSz n) (hc : cnt ≤ n) (hf : sb_Fit f) : jMet l yJ4_toString_0e30d cJ4_toString_0e30d 1 (some (.object "java/lang/String")) 5 2 38 E A [.ref sb] ((sb, .inr (1, [.ref va, .int (nI 0), .int (nI 0), .int (nI cnt)])) :: (va, .inl (E.2.2.1, n, .inl f)) :: ws) (fun vv ww => ∃ (st sv : Nat) (g : Nat → Int32), sb_Fit g ∧ vv = some (.ref st) ∧ ww = ((st, .inr (0, [.ref sv, .int (nI 0), .int (nI 0), .int (nI 0)])) :: (sv, .inl (E.2.2.1, cnt, .inl g)) :: (sb, .inr (1, [.ref va, .int (nI 0), .int (nI 0), .int (nI cnt)])) :: (va, .inl (E.2.2.1, n, .inl f)) :: ws)) jNo := by
  refine jMet.intro' [(0, .ref sb)] (by decide) (Nat.le_of_ble_eq_true rfl) rfl ?_
  intro p e R s m args below meth c Q C hQ
  refine j_new C (ci := 0) (fs := [.null, .int (nI 0), .int (nI 0), .int (nI 0)]) inj_J0 tyJ0 tyJ0_ok w_625 w_626 w_38 rfl (by decide) (by omega) (by omega) dJ4_toString_0e30d_0 (fun o1 => ?_)
  refine j_front ?_
  refine j_dup C dJ4_toString_0e30d_3 rfl ?_
  refine j_aload_n C dJ4_toString_0e30d_4 rfl ?_
  refine j_callI C (c_strInit l E A hn (by omega) hf) ok_J0_init_81219 w_627 (by decide) rfl rfl (Nat.le_of_ble_eq_true rfl) ⟨Nat.le_of_ble_eq_true rfl, Nat.le_of_ble_eq_true rfl⟩ dJ4_toString_0e30d_5 (fun _ _ h => ?_)
  obtain ⟨sv2, g3, hfsv2, rfl, rfl⟩ := h
  exact j_aret C hQ rfl (Or.inl ⟨_, rfl⟩) dJ4_toString_0e30d_8 ⟨Nat.le_of_ble_eq_true rfl, Nat.le_of_ble_eq_true rfl⟩ ⟨_, _, _, hfsv2, rfl, rfl⟩
set_option maxHeartbeats 4000000 in
set_option maxRecDepth 100000 in
theorem c_infl (l : Launch) (E : jE) (A : Nat → Prop) {ws : va_W} {sb va cnt st sv : Nat} : jMet l yJ5_inflateIfNeededFor_a7421 cJ5_inflateIfNeededFor_a7421 2 (none : Option Jvm.ClassFile.FieldType) 1 0 0 E A [.ref sb, .ref st] ((sb, .inr (1, [.ref va, .int (nI 0), .int (nI 0), .int (nI cnt)])) :: (st, .inr (0, [.ref sv, .int (nI 0), .int (nI 0), .int (nI 0)])) :: ws) (jR none ((sb, .inr (1, [.ref va, .int (nI 0), .int (nI 0), .int (nI cnt)])) :: (st, .inr (0, [.ref sv, .int (nI 0), .int (nI 0), .int (nI 0)])) :: ws)) jNo := by
  refine jMet.intro' [(0, .ref sb), (1, .ref st)] (by decide) (Nat.le_of_ble_eq_true rfl) rfl ?_
  intro p e R s m args below meth c Q C hQ
  refine j_compact C w_508 dJ5_inflateIfNeededFor_a7421_0 ?_
  refine j_ifn_eq_f (tgt := 21) C dJ5_inflateIfNeededFor_a7421_3 (by decide) (by omega) (by omega) ?_
  refine j_aload_n C dJ5_inflateIfNeededFor_a7421_6 rfl ?_
  refine j_get C 0 rfl inj_J4 rfl 1 (by decide) w_518 rfl dJ5_inflateIfNeededFor_a7421_7 ?_
  refine j_aload_n C dJ5_inflateIfNeededFor_a7421_10 rfl ?_
  refine j_perm (pre := [(sb, .inr (1, [.ref va, .int (nI 0), .int (nI 0), .int (nI cnt)])), (st, .inr (0, [.ref sv, .int (nI 0), .int (nI 0), .int (nI 0)]))]) (pre' := [(st, .inr (0, [.ref sv, .int (nI 0), .int (nI 0), .int (nI 0)])), (sb, .inr (1, [.ref va, .int (nI 0), .int (nI 0), .int (nI cnt)]))]) (tl := ws) [1, 0] rfl (by decide) ?_
  refine j_callV C (q0 := 0) (c_coder l E A) ok_J0_coder_7d493 w_726 (by decide) rfl rfl (Nat.le_of_ble_eq_true rfl) rfl rfl ⟨Nat.le_of_ble_eq_true rfl, Nat.le_of_ble_eq_true rfl⟩ dJ5_inflateIfNeededFor_a7421_11 (fun _ _ h => h.elim) (fun _ _ h => ?_)
  obtain ⟨rfl, rfl⟩ := h
  refine j_icmpn_eq_t (tgt := 21) C dJ5_inflateIfNeededFor_a7421_14 (by decide) (by omega) (by omega) (by omega) ?_
  refine j_perm (pre := [(st, .inr (0, [.ref sv, .int (nI 0), .int (nI 0), .int (nI 0)])), (sb, .inr (1, [.ref va, .int (nI 0), .int (nI 0), .int (nI cnt)]))]) (pre' := [(sb, .inr (1, [.ref va, .int (nI 0), .int (nI 0), .int (nI cnt)])), (st, .inr (0, [.ref sv, .int (nI 0), .int (nI 0), .int (nI 0)]))]) (tl := ws) [1, 0] rfl (by decide) ?_
  exact j_vret C hQ rfl dJ5_inflateIfNeededFor_a7421_21 ⟨Nat.le_of_ble_eq_true rfl, Nat.le_of_ble_eq_true rfl⟩ ⟨rfl, rfl⟩
set_option maxHeartbeats 4000000 in
set_option maxRecDepth 100000 in
theorem c_inflL (l : Launch) (E : jE) (A : Nat → Prop) {ws : va_W} {sb va cnt : Nat} : jMet l yJ5_inflateIfNeededFor_a7421 cJ5_inflateIfNeededFor_a7421 2 (none : Option Jvm.ClassFile.FieldType) 1 0 0 E A [.ref sb, .ref E.2.2.2.2.1] ((sb, .inr (1, [.ref va, .int (nI 0), .int (nI 0), .int (nI cnt)])) :: ws) (jR none ((sb, .inr (1, [.ref va, .int (nI 0), .int (nI 0), .int (nI cnt)])) :: ws)) jNo := by
  refine jMet.intro' [(0, .ref sb), (1, .ref E.2.2.2.2.1)] (by decide) (Nat.le_of_ble_eq_true rfl) rfl ?_
  intro p e R s m args below meth c Q C hQ
  refine j_compact C w_508 dJ5_inflateIfNeededFor_a7421_0 ?_
  refine j_ifn_eq_f (tgt := 21) C dJ5_inflateIfNeededFor_a7421_3 (by decide) (by omega) (by omega) ?_
  refine j_aload_n C dJ5_inflateIfNeededFor_a7421_6 rfl ?_
  refine j_get C 0 rfl inj_J4 rfl 1 (by decide) w_518 rfl dJ5_inflateIfNeededFor_a7421_7 ?_
  refine j_aload_n C dJ5_inflateIfNeededFor_a7421_10 rfl ?_
  refine j_callVO C (C.2.2.2.2.2.2.2.2.1.2.2.2.2.2.2.2.2.2.2.2.1.2.1) (c_coderL l E A) ok_J0_coder_7d493 w_726 (by decide) rfl rfl (Nat.le_of_ble_eq_true rfl) ⟨Nat.le_of_ble_eq_true rfl, Nat.le_of_ble_eq_true rfl⟩ dJ5_inflateIfNeededFor_a7421_11 (fun _ _ h => ?_)
  obtain ⟨rfl, rfl⟩ := h
  refine j_icmpn_eq_t (tgt := 21) C dJ5_inflateIfNeededFor_a7421_14 (by decide) (by omega) (by omega) (by omega) ?_
  exact j_vret C hQ rfl dJ5_inflateIfNeededFor_a7421_21 ⟨Nat.le_of_ble_eq_true rfl, Nat.le_of_ble_eq_true rfl⟩ ⟨rfl, rfl⟩
set_option maxHeartbeats 4000000 in
set_option maxRecDepth 100000 in
theorem c_getBytes (l : Launch) (E : jE) (A : Nat → Prop) {ws : va_W} {st sv w va n k : Nat} {f g : Nat → Int32} (hn : n ≤ 34) (hk : k + w ≤ n) (hf : sb_Fit f) (hg : sb_Fit g) : jMet l yJ0_getBytes_840e7 cJ0_getBytes_840e7 4 (none : Option Jvm.ClassFile.FieldType) 1 0 0 E A [.ref st, .ref va, .int (nI k), .int (nI 0)] ((st, .inr (0, [.ref sv, .int (nI 0), .int (nI 0), .int (nI 0)])) :: (sv, .inl (E.2.2.1, w, .inl g)) :: (va, .inl (E.2.2.1, n, .inl f)) :: ws) (fun vv ww => ∃ (f2 : Nat → Int32), sb_Fit f2 ∧ vv = none ∧ ww = ((st, .inr (0, [.ref sv, .int (nI 0), .int (nI 0), .int (nI 0)])) :: (sv, .inl (E.2.2.1, w, .inl g)) :: (va, .inl (E.2.2.1, n, .inl f2)) :: ws)) jNo := by
  refine jMet.intro' [(0, .ref st), (1, .ref va), (2, .int (nI k)), (3, .int (nI 0))] (by decide) (Nat.le_of_ble_eq_true rfl) rfl ?_
  intro p e R s m args below meth c Q C hQ
  refine j_aload_n C dJ0_getBytes_840e7_0 rfl ?_
  refine j_callV C (q0 := 0) (c_coder l E A) ok_J0_coder_7d493 w_713 (by decide) rfl rfl (Nat.le_of_ble_eq_true rfl) rfl rfl ⟨Nat.le_of_ble_eq_true rfl, Nat.le_of_ble_eq_true rfl⟩ dJ0_getBytes_840e7_1 (fun _ _ h => h.elim) (fun _ _ h => ?_)
  obtain ⟨rfl, rfl⟩ := h
  refine j_iload_n C dJ0_getBytes_840e7_4 rfl ?_
  refine j_icmpn_ne_f (tgt := 28) C dJ0_getBytes_840e7_5 (by decide) (by omega) (by omega) (by omega) ?_
  refine j_aload_n C dJ0_getBytes_840e7_8 rfl ?_
  refine j_get C 0 rfl inj_J0 rfl 0 (by decide) w_748 rfl dJ0_getBytes_840e7_9 ?_
  refine j_iconst (v := (nI 0)) C dJ0_getBytes_840e7_12 rfl ?_
  refine j_aload_n C dJ0_getBytes_840e7_13 rfl ?_
  refine j_iload_n C dJ0_getBytes_840e7_14 rfl ?_
  refine j_iload_n C dJ0_getBytes_840e7_15 rfl ?_
  refine j_ishl (z := (nI k)) C dJ0_getBytes_840e7_16 rfl ?_
  refine j_aload_n C dJ0_getBytes_840e7_17 rfl ?_
  refine j_get C 0 rfl inj_J0 rfl 0 (by decide) w_748 rfl dJ0_getBytes_840e7_18 ?_
  refine j_alen C 1 1 rfl rfl rfl dJ0_getBytes_840e7_21 ?_
  refine j_copyB (ws' := ((st, .inr (0, [.ref sv, .int (nI 0), .int (nI 0), .int (nI 0)])) :: (sv, .inl (E.2.2.1, w, .inl g)) :: (va, .inl (E.2.2.1, n, .inl (va_cpy g f 0 k w))) :: ws)) C 1 2 0 k w w_731 rfl rfl (by omega) (by omega) (by omega) (by omega) hg (Nat.le_of_ble_eq_true rfl) dJ0_getBytes_840e7_22 rfl ?_
  refine j_goto (tgt := 43) C dJ0_getBytes_840e7_25 (by decide) ?_
  exact j_vret C hQ rfl dJ0_getBytes_840e7_43 ⟨Nat.le_of_ble_eq_true rfl, Nat.le_of_ble_eq_true rfl⟩ ⟨_, (sb_fitC hg hf), rfl, rfl⟩
set_option maxHeartbeats 4000000 in
set_option maxRecDepth 100000 in
theorem c_getBytesL (l : Launch) (E : jE) (A : Nat → Prop) {ws : va_W} {va n k : Nat} {f : Nat → Int32} (hn : n ≤ 34) (hk : k + 0 ≤ n) (hf : sb_Fit f) : jMet l yJ0_getBytes_840e7 cJ0_getBytes_840e7 4 (none : Option Jvm.ClassFile.FieldType) 1 0 0 E A [.ref E.2.2.2.2.1, .ref va, .int (nI k), .int (nI 0)] ((va, .inl (E.2.2.1, n, .inl f)) :: ws) (fun vv ww => ∃ (f2 : Nat → Int32), sb_Fit f2 ∧ vv = none ∧ ww = ((va, .inl (E.2.2.1, n, .inl f2)) :: ws)) jNo := by
  refine jMet.intro' [(0, .ref E.2.2.2.2.1), (1, .ref va), (2, .int (nI k)), (3, .int (nI 0))] (by decide) (Nat.le_of_ble_eq_true rfl) rfl ?_
  intro p e R s m args below meth c Q C hQ
  refine j_aload_n C dJ0_getBytes_840e7_0 rfl ?_
  refine j_callVO C (C.2.2.2.2.2.2.2.2.1.2.2.2.2.2.2.2.2.2.2.2.1.2.1) (c_coderL l E A) ok_J0_coder_7d493 w_713 (by decide) rfl rfl (Nat.le_of_ble_eq_true rfl) ⟨Nat.le_of_ble_eq_true rfl, Nat.le_of_ble_eq_true rfl⟩ dJ0_getBytes_840e7_1 (fun _ _ h => ?_)
  obtain ⟨rfl, rfl⟩ := h
  refine j_iload_n C dJ0_getBytes_840e7_4 rfl ?_
  refine j_icmpn_ne_f (tgt := 28) C dJ0_getBytes_840e7_5 (by decide) (by omega) (by omega) (by omega) ?_
  refine j_aload_n C dJ0_getBytes_840e7_8 rfl ?_
  refine j_getO (v := .ref E.2.2.2.2.2) C C.2.2.2.2.2.2.2.2.1.2.2.2.2.2.2.2.2.2.2.2.1.2.2.2.1 w_748 dJ0_getBytes_840e7_9 ?_
  refine j_iconst (v := (nI 0)) C dJ0_getBytes_840e7_12 rfl ?_
  refine j_aload_n C dJ0_getBytes_840e7_13 rfl ?_
  refine j_iload_n C dJ0_getBytes_840e7_14 rfl ?_
  refine j_iload_n C dJ0_getBytes_840e7_15 rfl ?_
  refine j_ishl (z := (nI k)) C dJ0_getBytes_840e7_16 rfl ?_
  refine j_aload_n C dJ0_getBytes_840e7_17 rfl ?_
  refine j_getO (v := .ref E.2.2.2.2.2) C C.2.2.2.2.2.2.2.2.1.2.2.2.2.2.2.2.2.2.2.2.1.2.2.2.1 w_748 dJ0_getBytes_840e7_18 ?_
  refine j_tlenB C (C.2.2.2.2.2.2.2.2.1.2.2.2.2.2.2.2.2.2.2.2.1.2.2.2.2) rfl dJ0_getBytes_840e7_21 ?_
  refine j_copyT (f := fun _ => 0) (ws' := ((va, .inl (E.2.2.1, n, .inl (va_cpy (fun _ => 0) f 0 k 0))) :: ws)) C 0 0 k 0 w_731 (C.2.2.2.2.2.2.2.2.1.2.2.2.2.2.2.2.2.2.2.2.1.2.2.2.2) rfl (by omega) (by omega) (by omega) (by omega) sb_fit0 (Nat.le_of_ble_eq_true rfl) dJ0_getBytes_840e7_22 rfl ?_
  refine j_goto (tgt := 43) C dJ0_getBytes_840e7_25 (by decide) ?_
  exact j_vret C hQ rfl dJ0_getBytes_840e7_43 ⟨Nat.le_of_ble_eq_true rfl, Nat.le_of_ble_eq_true rfl⟩ ⟨_, (sb_fitC sb_fit0 hf), rfl, rfl⟩
set_option maxHeartbeats 4000000 in
set_option maxRecDepth 100000 in
theorem c_putStr (l : Launch) (E : jE) (A : Nat → Prop) {ws : va_W} {sb va cnt st sv w n k : Nat} {f g : Nat → Int32} (hn : n ≤ 34) (hk : k + w ≤ n) (hf : sb_Fit f) (hg : sb_Fit g) : jMet l yJ5_putStringAt_47b60 cJ5_putStringAt_47b60 3 (none : Option Jvm.ClassFile.FieldType) 2 0 0 E A [.ref sb, .int (nI k), .ref st] ((sb, .inr (1, [.ref va, .int (nI 0), .int (nI 0), .int (nI cnt)])) :: (va, .inl (E.2.2.1, n, .inl f)) :: (st, .inr (0, [.ref sv, .int (nI 0), .int (nI 0), .int (nI 0)])) :: (sv, .inl (E.2.2.1, w, .inl g)) :: ws) (fun vv ww => ∃ (f2 : Nat → Int32), sb_Fit f2 ∧ vv = none ∧ ww = ((sb, .inr (1, [.ref va, .int (nI 0), .int (nI 0), .int (nI cnt)])) :: (va, .inl (E.2.2.1, n, .inl f2)) :: (st, .inr (0, [.ref sv, .int (nI 0), .int (nI 0), .int (nI 0)])) :: (sv, .inl (E.2.2.1, w, .inl g)) :: ws)) jNo := by
  refine jMet.intro' [(0, .ref sb), (1, .int (nI k)), (2, .ref st)] (by decide) (Nat.le_of_ble_eq_true rfl) rfl ?_
  intro p e R s m args below meth c Q C hQ
  refine j_aload_n C dJ5_putStringAt_47b60_0 rfl ?_
  refine j_aload_n C dJ5_putStringAt_47b60_1 rfl ?_
  refine j_perm (pre := [(sb, .inr (1, [.ref va, .int (nI 0), .int (nI 0), .int (nI cnt)])), (va, .inl (E.2.2.1, n, .inl f)), (st, .inr (0, [.ref sv, .int (nI 0), .int (nI 0), .int (nI 0)])), (sv, .inl (E.2.2.1, w, .inl g))]) (pre' := [(sb, .inr (1, [.ref va, .int (nI 0), .int (nI 0), .int (nI cnt)])), (st, .inr (0, [.ref sv, .int (nI 0), .int (nI 0), .int (nI 0)])), (va, .inl (E.2.2.1, n, .inl f)), (sv, .inl (E.2.2.1, w, .inl g))]) (tl := ws) [0, 2, 1, 3] rfl (by decide) ?_
  refine j_callU C (q0 := 0) (Cn := "java/lang/StringBuilder") (owner := "java/lang/AbstractStringBuilder") (c_infl l E A) okU_J5_inflateIfNeededFor_a7421 w_722 w_1219 ⟨by decide, by decide⟩ rfl w_724 w_725 (C.2.2.2.2.1 _ (jXS_at (k := 2) rfl)) (by decide) rfl rfl (Nat.le_of_ble_eq_true rfl) rfl rfl ⟨Nat.le_of_ble_eq_true rfl, Nat.le_of_ble_eq_true rfl⟩ dJ5_putStringAt_47b60_2 (fun _ _ h => ?_)
  obtain ⟨rfl, rfl⟩ := h
  refine j_aload_n C dJ5_putStringAt_47b60_5 rfl ?_
  refine j_aload_n C dJ5_putStringAt_47b60_6 rfl ?_
  refine j_get C 0 rfl inj_J4 rfl 0 (by decide) w_517 rfl dJ5_putStringAt_47b60_7 ?_
  refine j_iload_n C dJ5_putStringAt_47b60_10 rfl ?_
  refine j_aload_n C dJ5_putStringAt_47b60_11 rfl ?_
  refine j_get C 0 rfl inj_J4 rfl 1 (by decide) w_518 rfl dJ5_putStringAt_47b60_12 ?_
  refine j_perm (pre := [(sb, .inr (1, [.ref va, .int (nI 0), .int (nI 0), .int (nI cnt)])), (st, .inr (0, [.ref sv, .int (nI 0), .int (nI 0), .int (nI 0)])), (va, .inl (E.2.2.1, n, .inl f)), (sv, .inl (E.2.2.1, w, .inl g))]) (pre' := [(st, .inr (0, [.ref sv, .int (nI 0), .int (nI 0), .int (nI 0)])), (sv, .inl (E.2.2.1, w, .inl g)), (va, .inl (E.2.2.1, n, .inl f)), (sb, .inr (1, [.ref va, .int (nI 0), .int (nI 0), .int (nI cnt)]))]) (tl := ws) [1, 3, 2, 0] rfl (by decide) ?_
  refine j_callV C (q0 := 0) (c_getBytes l E A (by omega) (by omega) hf hg) ok_J0_getBytes_840e7 w_727 (by decide) rfl rfl (Nat.le_of_ble_eq_true rfl) rfl rfl ⟨Nat.le_of_ble_eq_true rfl, Nat.le_of_ble_eq_true rfl⟩ dJ5_putStringAt_47b60_15 (fun _ _ h => h.elim) (fun _ _ h => ?_)
  obtain ⟨f1, hff1, rfl, rfl⟩ := h
  refine j_perm (pre := [(st, .inr (0, [.ref sv, .int (nI 0), .int (nI 0), .int (nI 0)])), (sv, .inl (E.2.2.1, w, .inl g)), (va, .inl (E.2.2.1, n, .inl f1)), (sb, .inr (1, [.ref va, .int (nI 0), .int (nI 0), .int (nI cnt)]))]) (pre' := [(sb, .inr (1, [.ref va, .int (nI 0), .int (nI 0), .int (nI cnt)])), (va, .inl (E.2.2.1, n, .inl f1)), (st, .inr (0, [.ref sv, .int (nI 0), .int (nI 0), .int (nI 0)])), (sv, .inl (E.2.2.1, w, .inl g))]) (tl := ws) [3, 2, 0, 1] rfl (by decide) ?_
  exact j_vret C hQ rfl dJ5_putStringAt_47b60_18 ⟨Nat.le_of_ble_eq_true rfl, Nat.le_of_ble_eq_true rfl⟩ ⟨_, hff1, rfl, rfl⟩
set_option maxHeartbeats 4000000 in
set_option maxRecDepth 100000 in
theorem c_putStrL (l : Launch) (E : jE) (A : Nat → Prop) {ws : va_W} {sb va cnt n k : Nat} {f : Nat → Int32} (hn : n ≤ 34) (hk : k + 0 ≤ n) (hf : sb_Fit f) : jMet l yJ5_putStringAt_47b60 cJ5_putStringAt_47b60 3 (none : Option Jvm.ClassFile.FieldType) 2 0 0 E A [.ref sb, .int (nI k), .ref E.2.2.2.2.1] ((sb, .inr (1, [.ref va, .int (nI 0), .int (nI 0), .int (nI cnt)])) :: (va, .inl (E.2.2.1, n, .inl f)) :: ws) (fun vv ww => ∃ (f2 : Nat → Int32), sb_Fit f2 ∧ vv = none ∧ ww = ((sb, .inr (1, [.ref va, .int (nI 0), .int (nI 0), .int (nI cnt)])) :: (va, .inl (E.2.2.1, n, .inl f2)) :: ws)) jNo := by
  refine jMet.intro' [(0, .ref sb), (1, .int (nI k)), (2, .ref E.2.2.2.2.1)] (by decide) (Nat.le_of_ble_eq_true rfl) rfl ?_
  intro p e R s m args below meth c Q C hQ
  refine j_aload_n C dJ5_putStringAt_47b60_0 rfl ?_
  refine j_aload_n C dJ5_putStringAt_47b60_1 rfl ?_
  refine j_callU C (q0 := 0) (Cn := "java/lang/StringBuilder") (owner := "java/lang/AbstractStringBuilder") (c_inflL l E A) okU_J5_inflateIfNeededFor_a7421 w_722 w_1219 ⟨by decide, by decide⟩ rfl w_724 w_725 (C.2.2.2.2.1 _ (jXS_at (k := 2) rfl)) (by decide) rfl rfl (Nat.le_of_ble_eq_true rfl) rfl rfl ⟨Nat.le_of_ble_eq_true rfl, Nat.le_of_ble_eq_true rfl⟩ dJ5_putStringAt_47b60_2 (fun _ _ h => ?_)
  obtain ⟨rfl, rfl⟩ := h
  refine j_aload_n C dJ5_putStringAt_47b60_5 rfl ?_
  refine j_aload_n C dJ5_putStringAt_47b60_6 rfl ?_
  refine j_get C 0 rfl inj_J4 rfl 0 (by decide) w_517 rfl dJ5_putStringAt_47b60_7 ?_
  refine j_iload_n C dJ5_putStringAt_47b60_10 rfl ?_
  refine j_aload_n C dJ5_putStringAt_47b60_11 rfl ?_
  refine j_get C 0 rfl inj_J4 rfl 1 (by decide) w_518 rfl dJ5_putStringAt_47b60_12 ?_
  refine j_perm (pre := [(sb, .inr (1, [.ref va, .int (nI 0), .int (nI 0), .int (nI cnt)])), (va, .inl (E.2.2.1, n, .inl f))]) (pre' := [(va, .inl (E.2.2.1, n, .inl f)), (sb, .inr (1, [.ref va, .int (nI 0), .int (nI 0), .int (nI cnt)]))]) (tl := ws) [1, 0] rfl (by decide) ?_
  refine j_callVO C (C.2.2.2.2.2.2.2.2.1.2.2.2.2.2.2.2.2.2.2.2.1.2.1) (c_getBytesL l E A (by omega) (by omega) hf) ok_J0_getBytes_840e7 w_727 (by decide) rfl rfl (Nat.le_of_ble_eq_true rfl) ⟨Nat.le_of_ble_eq_true rfl, Nat.le_of_ble_eq_true rfl⟩ dJ5_putStringAt_47b60_15 (fun _ _ h => ?_)
  obtain ⟨f1, hff1, rfl, rfl⟩ := h
  refine j_perm (pre := [(va, .inl (E.2.2.1, n, .inl f1)), (sb, .inr (1, [.ref va, .int (nI 0), .int (nI 0), .int (nI cnt)]))]) (pre' := [(sb, .inr (1, [.ref va, .int (nI 0), .int (nI 0), .int (nI cnt)])), (va, .inl (E.2.2.1, n, .inl f1))]) (tl := ws) [1, 0] rfl (by decide) ?_
  exact j_vret C hQ rfl dJ5_putStringAt_47b60_18 ⟨Nat.le_of_ble_eq_true rfl, Nat.le_of_ble_eq_true rfl⟩ ⟨_, hff1, rfl, rfl⟩
set_option maxHeartbeats 4000000 in
set_option maxRecDepth 100000 in
theorem c_appendS5 (l : Launch) (E : jE) (A : Nat → Prop) {ws : va_W} {sb va cnt st sv w n : Nat} {f g : Nat → Int32} (hn : jSz n) (hc : cnt + w ≤ 34) (hf : sb_Fit f) (hg : sb_Fit g) : jMet l yJ5_append_cf1ce cJ5_append_cf1ce 3 (some (.object "java/lang/AbstractStringBuilder")) 3 1 34 E A [.ref sb, .ref st] ((sb, .inr (1, [.ref va, .int (nI 0), .int (nI 0), .int (nI cnt)])) :: (va, .inl (E.2.2.1, n, .inl f)) :: (st, .inr (0, [.ref sv, .int (nI 0), .int (nI 0), .int (nI 0)])) :: (sv, .inl (E.2.2.1, w, .inl g)) :: ws) (fun vv ww => ∃ (v2 n2 : Nat) (f2 : Nat → Int32), jSz n2 ∧ cnt + w ≤ n2 ∧ sb_Fit f2 ∧ vv = some (.ref sb) ∧ ww = ((sb, .inr (1, [.ref v2, .int (nI 0), .int (nI 0), .int (nI (cnt + w))])) :: (v2, .inl (E.2.2.1, n2, .inl f2)) :: (st, .inr (0, [.ref sv, .int (nI 0), .int (nI 0), .int (nI 0)])) :: (sv, .inl (E.2.2.1, w, .inl g)) :: ws)) jNo := by
  refine jMet.intro' [(0, .ref sb), (1, .ref st)] (by decide) (Nat.le_of_ble_eq_true rfl) rfl ?_
  intro p e R s m args below meth c Q C hQ
  refine j_aload_n C dJ5_append_cf1ce_0 rfl ?_
  refine j_ifnonnull_t (tgt := 9) C dJ5_append_cf1ce_1 (by decide) ?_
  refine j_aload_n C dJ5_append_cf1ce_9 rfl ?_
  refine j_perm (pre := [(sb, .inr (1, [.ref va, .int (nI 0), .int (nI 0), .int (nI cnt)])), (va, .inl (E.2.2.1, n, .inl f)), (st, .inr (0, [.ref sv, .int (nI 0), .int (nI 0), .int (nI 0)])), (sv, .inl (E.2.2.1, w, .inl g))]) (pre' := [(st, .inr (0, [.ref sv, .int (nI 0), .int (nI 0), .int (nI 0)])), (sv, .inl (E.2.2.1, w, .inl g)), (sb, .inr (1, [.ref va, .int (nI 0), .int (nI 0), .int (nI cnt)])), (va, .inl (E.2.2.1, n, .inl f))]) (tl := ws) [2, 3, 0, 1] rfl (by decide) ?_
  refine j_callV C (q0 := 0) (c_strLen l E A) ok_J0_length_8abf5 w_709 (by decide) rfl rfl (Nat.le_of_ble_eq_true rfl) rfl rfl ⟨Nat.le_of_ble_eq_true rfl, Nat.le_of_ble_eq_true rfl⟩ dJ5_append_cf1ce_10 (fun _ _ h => h.elim) (fun _ _ h => ?_)
  obtain ⟨rfl, rfl⟩ := h
  refine j_istore_n (lv' := [(2, .int (nI w)), (0, .ref sb), (1, .ref st)]) C dJ5_append_cf1ce_13 (by decide) rfl ?_
  refine j_aload_n C dJ5_append_cf1ce_14 rfl ?_
  refine j_aload_n C dJ5_append_cf1ce_15 rfl ?_
  refine j_get C 2 rfl inj_J4 rfl 3 (by decide) w_520 rfl dJ5_append_cf1ce_16 ?_
  refine j_iload_n C dJ5_append_cf1ce_19 rfl ?_
  refine j_iadd (z := (nI (cnt + w))) C dJ5_append_cf1ce_20 (nI_add _ _) ?_
  refine j_perm (pre := [(st, .inr (0, [.ref sv, .int (nI 0), .int (nI 0), .int (nI 0)])), (sv, .inl (E.2.2.1, w, .inl g)), (sb, .inr (1, [.ref va, .int (nI 0), .int (nI 0), .int (nI cnt)])), (va, .inl (E.2.2.1, n, .inl f))]) (pre' := [(sb, .inr (1, [.ref va, .int (nI 0), .int (nI 0), .int (nI cnt)])), (va, .inl (E.2.2.1, n, .inl f)), (st, .inr (0, [.ref sv, .int (nI 0), .int (nI 0), .int (nI 0)])), (sv, .inl (E.2.2.1, w, .inl g))]) (tl := ws) [2, 3, 0, 1] rfl (by decide) ?_
  refine j_callU C (q0 := 0) (Cn := "java/lang/StringBuilder") (owner := "java/lang/AbstractStringBuilder") (c_ens l E A hn (by omega) hf) okU_J5_ensureCapacityInternal_d00df w_537 w_1212 ⟨by decide, by decide⟩ rfl w_539 w_540 (C.2.2.2.2.1 _ (jXS_at (k := 0) rfl)) (by decide) rfl rfl (Nat.le_of_ble_eq_true rfl) rfl rfl ⟨Nat.le_of_ble_eq_true rfl, Nat.le_of_ble_eq_true rfl⟩ dJ5_append_cf1ce_21 (fun _ _ h => ?_)
  obtain ⟨va1, n2, f3, hzva1, hqva1, hfva1, rfl, rfl⟩ := h
  refine j_aload_n C dJ5_append_cf1ce_24 rfl ?_
  refine j_aload_n C dJ5_append_cf1ce_25 rfl ?_
  refine j_get C 0 rfl inj_J4 rfl 3 (by decide) w_520 rfl dJ5_append_cf1ce_26 ?_
  refine j_aload_n C dJ5_append_cf1ce_29 rfl ?_
  refine j_callU C (q0 := 0) (Cn := "java/lang/StringBuilder") (owner := "java/lang/AbstractStringBuilder") (c_putStr l E A (by omega) (by omega) hfva1 hg) okU_J5_putStringAt_47b60 w_718 w_1218 ⟨by decide, by decide⟩ rfl w_720 w_721 (C.2.2.2.2.1 _ (jXS_at (k := 3) rfl)) (by decide) rfl rfl (Nat.le_of_ble_eq_true rfl) rfl rfl ⟨Nat.le_of_ble_eq_true rfl, Nat.le_of_ble_eq_true rfl⟩ dJ5_append_cf1ce_30 (fun _ _ h => ?_)
  obtain ⟨f4, hff4, rfl, rfl⟩ := h
  refine j_aload_n C dJ5_append_cf1ce_33 rfl ?_
  refine j_dup C dJ5_append_cf1ce_34 rfl ?_
  refine j_get C 0 rfl inj_J4 rfl 3 (by decide) w_520 rfl dJ5_append_cf1ce_35 ?_
  refine j_iload_n C dJ5_append_cf1ce_38 rfl ?_
  refine j_iadd (z := (nI (cnt + w))) C dJ5_append_cf1ce_39 (nI_add _ _) ?_
  refine j_put (ws' := ((sb, .inr (1, [.ref va1, .int (nI 0), .int (nI 0), .int (nI (cnt + w))])) :: (va1, .inl (E.2.2.1, n2, .inl f4)) :: (st, .inr (0, [.ref sv, .int (nI 0), .int (nI 0), .int (nI 0)])) :: (sv, .inl (E.2.2.1, w, .inl g)) :: ws)) C 0 rfl inj_J4 tyJ4 tyJ4_ok nmJ4 rfl 3 (by decide) w_520 rfl (tyJ4_ok 3 (by decide)) rfl rfl (Nat.le_of_ble_eq_true rfl) dJ5_append_cf1ce_40 rfl ?_
  refine j_aload_n C dJ5_append_cf1ce_43 rfl ?_
  exact j_aret C hQ rfl (Or.inl ⟨_, rfl⟩) dJ5_append_cf1ce_44 ⟨Nat.le_of_ble_eq_true rfl, Nat.le_of_ble_eq_true rfl⟩ ⟨_, _, _, hzva1, hqva1, hff4, rfl, rfl⟩
set_option maxHeartbeats 4000000 in
set_option maxRecDepth 100000 in
theorem c_appendS5L (l : Launch) (E : jE) (A : Nat → Prop) {ws : va_W} {sb va cnt n : Nat} {f : Nat → Int32} (hn : jSz n) (hc : cnt + 0 ≤ 34) (hf : sb_Fit f) : jMet l yJ5_append_cf1ce cJ5_append_cf1ce 3 (some (.object "java/lang/AbstractStringBuilder")) 3 1 34 E A [.ref sb, .ref E.2.2.2.2.1] ((sb, .inr (1, [.ref va, .int (nI 0), .int (nI 0), .int (nI cnt)])) :: (va, .inl (E.2.2.1, n, .inl f)) :: ws) (fun vv ww => ∃ (v2 n2 : Nat) (f2 : Nat → Int32), jSz n2 ∧ cnt + 0 ≤ n2 ∧ sb_Fit f2 ∧ vv = some (.ref sb) ∧ ww = ((sb, .inr (1, [.ref v2, .int (nI 0), .int (nI 0), .int (nI (cnt + 0))])) :: (v2, .inl (E.2.2.1, n2, .inl f2)) :: ws)) jNo := by
  refine jMet.intro' [(0, .ref sb), (1, .ref E.2.2.2.2.1)] (by decide) (Nat.le_of_ble_eq_true rfl) rfl ?_
  intro p e R s m args below meth c Q C hQ
  refine j_aload_n C dJ5_append_cf1ce_0 rfl ?_
  refine j_ifnonnull_t (tgt := 9) C dJ5_append_cf1ce_1 (by decide) ?_
  refine j_aload_n C dJ5_append_cf1ce_9 rfl ?_
  refine j_callVO C (C.2.2.2.2.2.2.2.2.1.2.2.2.2.2.2.2.2.2.2.2.1.2.1) (c_strLenL l E A) ok_J0_length_8abf5 w_709 (by decide) rfl rfl (Nat.le_of_ble_eq_true rfl) ⟨Nat.le_of_ble_eq_true rfl, Nat.le_of_ble_eq_true rfl⟩ dJ5_append_cf1ce_10 (fun _ _ h => ?_)
  obtain ⟨rfl, rfl⟩ := h
  refine j_istore_n (lv' := [(2, .int (nI 0)), (0, .ref sb), (1, .ref E.2.2.2.2.1)]) C dJ5_append_cf1ce_13 (by decide) rfl ?_
  refine j_aload_n C dJ5_append_cf1ce_14 rfl ?_
  refine j_aload_n C dJ5_append_cf1ce_15 rfl ?_
  refine j_get C 0 rfl inj_J4 rfl 3 (by decide) w_520 rfl dJ5_append_cf1ce_16 ?_
  refine j_iload_n C dJ5_append_cf1ce_19 rfl ?_
  refine j_iadd (z := (nI (cnt + 0))) C dJ5_append_cf1ce_20 (nI_add _ _) ?_
  refine j_callU C (q0 := 0) (Cn := "java/lang/StringBuilder") (owner := "java/lang/AbstractStringBuilder") (c_ens l E A hn (by omega) hf) okU_J5_ensureCapacityInternal_d00df w_537 w_1212 ⟨by decide, by decide⟩ rfl w_539 w_540 (C.2.2.2.2.1 _ (jXS_at (k := 0) rfl)) (by decide) rfl rfl (Nat.le_of_ble_eq_true rfl) rfl rfl ⟨Nat.le_of_ble_eq_true rfl, Nat.le_of_ble_eq_true rfl⟩ dJ5_append_cf1ce_21 (fun _ _ h => ?_)
  obtain ⟨va1, n2, f3, hzva1, hqva1, hfva1, rfl, rfl⟩ := h
  refine j_aload_n C dJ5_append_cf1ce_24 rfl ?_
  refine j_aload_n C dJ5_append_cf1ce_25 rfl ?_
  refine j_get C 0 rfl inj_J4 rfl 3 (by decide) w_520 rfl dJ5_append_cf1ce_26 ?_
  refine j_aload_n C dJ5_append_cf1ce_29 rfl ?_
  refine j_callU C (q0 := 0) (Cn := "java/lang/StringBuilder") (owner := "java/lang/AbstractStringBuilder") (c_putStrL l E A (by omega) (by omega) hfva1) okU_J5_putStringAt_47b60 w_718 w_1218 ⟨by decide, by decide⟩ rfl w_720 w_721 (C.2.2.2.2.1 _ (jXS_at (k := 3) rfl)) (by decide) rfl rfl (Nat.le_of_ble_eq_true rfl) rfl rfl ⟨Nat.le_of_ble_eq_true rfl, Nat.le_of_ble_eq_true rfl⟩ dJ5_append_cf1ce_30 (fun _ _ h => ?_)
  obtain ⟨f4, hff4, rfl, rfl⟩ := h
  refine j_aload_n C dJ5_append_cf1ce_33 rfl ?_
  refine j_dup C dJ5_append_cf1ce_34 rfl ?_
  refine j_get C 0 rfl inj_J4 rfl 3 (by decide) w_520 rfl dJ5_append_cf1ce_35 ?_
  refine j_iload_n C dJ5_append_cf1ce_38 rfl ?_
  refine j_iadd (z := (nI (cnt + 0))) C dJ5_append_cf1ce_39 (nI_add _ _) ?_
  refine j_put (ws' := ((sb, .inr (1, [.ref va1, .int (nI 0), .int (nI 0), .int (nI (cnt + 0))])) :: (va1, .inl (E.2.2.1, n2, .inl f4)) :: ws)) C 0 rfl inj_J4 tyJ4 tyJ4_ok nmJ4 rfl 3 (by decide) w_520 rfl (tyJ4_ok 3 (by decide)) rfl rfl (Nat.le_of_ble_eq_true rfl) dJ5_append_cf1ce_40 rfl ?_
  refine j_aload_n C dJ5_append_cf1ce_43 rfl ?_
  exact j_aret C hQ rfl (Or.inl ⟨_, rfl⟩) dJ5_append_cf1ce_44 ⟨Nat.le_of_ble_eq_true rfl, Nat.le_of_ble_eq_true rfl⟩ ⟨_, _, _, hzva1, hqva1, hff4, rfl, rfl⟩
set_option maxHeartbeats 4000000 in
set_option maxRecDepth 100000 in
theorem c_appendS (l : Launch) (E : jE) (A : Nat → Prop) {ws : va_W} {sb va cnt st sv w n : Nat} {f g : Nat → Int32} (hn : jSz n) (hc : cnt + w ≤ 34) (hf : sb_Fit f) (hg : sb_Fit g) : jMet l yJ4_append_15ec4 cJ4_append_15ec4 2 (some (.object "java/lang/StringBuilder")) 4 1 34 E A [.ref sb, .ref st] ((sb, .inr (1, [.ref va, .int (nI 0), .int (nI 0), .int (nI cnt)])) :: (va, .inl (E.2.2.1, n, .inl f)) :: (st, .inr (0, [.ref sv, .int (nI 0), .int (nI 0), .int (nI 0)])) :: (sv, .inl (E.2.2.1, w, .inl g)) :: ws) (fun vv ww => ∃ (v2 n2 : Nat) (f2 : Nat → Int32), jSz n2 ∧ cnt + w ≤ n2 ∧ sb_Fit f2 ∧ vv = some (.ref sb) ∧ ww = ((sb, .inr (1, [.ref v2, .int (nI 0), .int (nI 0), .int (nI (cnt + w))])) :: (v2, .inl (E.2.2.1, n2, .inl f2)) :: (st, .inr (0, [.ref sv, .int (nI 0), .int (nI 0), .int (nI 0)])) :: (sv, .inl (E.2.2.1, w, .inl g)) :: ws)) jNo := by
  refine jMet.intro' [(0, .ref sb), (1, .ref st)] (by decide) (Nat.le_of_ble_eq_true rfl) rfl ?_
  intro p e R s m args below meth c Q C hQ
  refine j_aload_n C dJ4_append_15ec4_0 rfl ?_
  refine j_aload_n C dJ4_append_15ec4_1 rfl ?_
  refine j_callSU C (q0 := 0) (Cn := "java/lang/StringBuilder") (c_appendS5 l E A hn (by omega) hf hg) okU_J5_append_cf1ce w_699 w_1216 w_529 w_500 (by decide) (by decide) rfl rfl (Nat.le_of_ble_eq_true rfl) rfl rfl ⟨Nat.le_of_ble_eq_true rfl, Nat.le_of_ble_eq_true rfl⟩ dJ4_append_15ec4_2 (fun _ _ h => ?_)
  obtain ⟨va1, n2, f3, hzva1, hqva1, hfva1, rfl, rfl⟩ := h
  refine j_pop C dJ4_append_15ec4_5 rfl ?_
  refine j_aload_n C dJ4_append_15ec4_6 rfl ?_
  exact j_aret C hQ rfl (Or.inl ⟨_, rfl⟩) dJ4_append_15ec4_7 ⟨Nat.le_of_ble_eq_true rfl, Nat.le_of_ble_eq_true rfl⟩ ⟨_, _, _, hzva1, hqva1, hfva1, rfl, rfl⟩
set_option maxHeartbeats 4000000 in
set_option maxRecDepth 100000 in
theorem c_appendSL (l : Launch) (E : jE) (A : Nat → Prop) {ws : va_W} {sb va cnt n : Nat} {f : Nat → Int32} (hn : jSz n) (hc : cnt + 0 ≤ 34) (hf : sb_Fit f) : jMet l yJ4_append_15ec4 cJ4_append_15ec4 2 (some (.object "java/lang/StringBuilder")) 4 1 34 E A [.ref sb, .ref E.2.2.2.2.1] ((sb, .inr (1, [.ref va, .int (nI 0), .int (nI 0), .int (nI cnt)])) :: (va, .inl (E.2.2.1, n, .inl f)) :: ws) (fun vv ww => ∃ (v2 n2 : Nat) (f2 : Nat → Int32), jSz n2 ∧ cnt + 0 ≤ n2 ∧ sb_Fit f2 ∧ vv = some (.ref sb) ∧ ww = ((sb, .inr (1, [.ref v2, .int (nI 0), .int (nI 0), .int (nI (cnt + 0))])) :: (v2, .inl (E.2.2.1, n2, .inl f2)) :: ws)) jNo := by
  refine jMet.intro' [(0, .ref sb), (1, .ref E.2.2.2.2.1)] (by decide) (Nat.le_of_ble_eq_true rfl) rfl ?_
  intro p e R s m args below meth c Q C hQ
  refine j_aload_n C dJ4_append_15ec4_0 rfl ?_
  refine j_aload_n C dJ4_append_15ec4_1 rfl ?_
  refine j_callSU C (q0 := 0) (Cn := "java/lang/StringBuilder") (c_appendS5L l E A hn (by omega) hf) okU_J5_append_cf1ce w_699 w_1216 w_529 w_500 (by decide) (by decide) rfl rfl (Nat.le_of_ble_eq_true rfl) rfl rfl ⟨Nat.le_of_ble_eq_true rfl, Nat.le_of_ble_eq_true rfl⟩ dJ4_append_15ec4_2 (fun _ _ h => ?_)
  obtain ⟨va1, n2, f3, hzva1, hqva1, hfva1, rfl, rfl⟩ := h
  refine j_pop C dJ4_append_15ec4_5 rfl ?_
  refine j_aload_n C dJ4_append_15ec4_6 rfl ?_
  exact j_aret C hQ rfl (Or.inl ⟨_, rfl⟩) dJ4_append_15ec4_7 ⟨Nat.le_of_ble_eq_true rfl, Nat.le_of_ble_eq_true rfl⟩ ⟨_, _, _, hzva1, hqva1, hfva1, rfl, rfl⟩
