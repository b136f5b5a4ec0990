/-! contracts, laid by program (wip/gen) -/
theorem jCod_c {k : Nat} (h : k < 10) : ((jCod k).toUInt32 % 65536).toInt32 = jCod k := by
  have : ∀ k, k < 10 → ((jCod k).toUInt32 % 65536).toInt32 = jCod k := by decide
  exact this k h
set_option maxHeartbeats 4000000 in
set_option maxRecDepth 100000 in
theorem c_spell (l : Launch) (E : jE) (A : Nat → Prop) {t sz sg la : Nat} {z g b : Nat → Int32} {rest : va_W} {i a v : Nat} (hi : i < 9) (ha : a ≤ v) (hc : v ≤ 24) (hs : ∀ k, a ≤ k → k < v → isSg (g (i * 24 + k))) : jMet l yX2_spell cX2_spell 7 (some (.object "java/lang/String")) 6 28 900 E A [.ref t, .int (nI i), .int (nI a), .int (nI v)] (tW E t sz sg la z g b rest) (fun vv ww => ∃ (aa : Nat) (bb : Nat → Int32), vv = some (.ref aa) ∧ ww = tW E t sz sg la z g bb rest) jNo := by
  refine jMet.intro' [(0, .ref t), (1, .int (nI i)), (2, .int (nI a)), (3, .int (nI v))] (by decide) (Nat.le_of_ble_eq_true rfl) rfl ?_
  intro p e R s m args below meth c Q C hQ
  refine j_aload_n C dX2_spell_0 rfl ?_
  refine j_iload_n C dX2_spell_1 rfl ?_
  refine j_iload_n C dX2_spell_2 rfl ?_
  refine j_iload_n C dX2_spell_3 rfl ?_
  refine j_callVr C 0 (v := .int (nI (v - a))) (w := (tW E t sz sg la z g (jput b (fun q => g (i * 24 + (a + q))) 0 (v - a)) rest)) (c_lay l E A (by omega) (by omega) (by omega)) ok_X2_lay w_425 (by decide) rfl rfl (Nat.le_of_ble_eq_true rfl) rfl rfl ⟨Nat.le_of_ble_eq_true rfl, Nat.le_of_ble_eq_true rfl⟩ dX2_spell_4 ?_
  refine j_istore (lv' := [(4, .int (nI (v - a))), (0, .ref t), (1, .int (nI i)), (2, .int (nI a)), (3, .int (nI v))]) C dX2_spell_7 (by decide) rfl ?_
  refine j_new C (ci := 1) (fs := [.null, .int (nI 0), .int (nI 0), .int (nI 0)]) inj_J4 tyJ4 tyJ4_ok w_499 w_500 w_37 rfl (by decide) (by omega) (by omega) dX2_spell_9 (fun o1 => ?_)
  refine j_front ?_
  refine j_dup C dX2_spell_12 rfl ?_
  refine j_callI C (c_sbInit l E A) ok_J4_init_da8c8 w_501 (by decide) rfl rfl (Nat.le_of_ble_eq_true rfl) ⟨Nat.le_of_ble_eq_true rfl, Nat.le_of_ble_eq_true rfl⟩ dX2_spell_13 (fun _ _ h => ?_)
  obtain ⟨va2, rfl, rfl⟩ := h
  refine j_astore (lv' := [(5, .ref o1), (4, .int (nI (v - a))), (0, .ref t), (1, .int (nI i)), (2, .int (nI a)), (3, .int (nI v))]) C dX2_spell_16 (by decide) rfl ?_
  refine j_iconst (v := (nI 0)) C dX2_spell_18 rfl ?_
  refine j_istore (lv' := [(6, .int (nI 0)), (5, .ref o1), (4, .int (nI (v - a))), (0, .ref t), (1, .int (nI i)), (2, .int (nI a)), (3, .int (nI v))]) C dX2_spell_19 (by decide) rfl ?_
  have L21 : ∀ (r k : Nat) (va n : Nat) (f : Nat → Int32), k + r = v - a → jSz n → k ≤ n → sb_Fit f → jJ p l e R s m args below meth c E A 7 Q (k + 2) (k * 34 + 20) 21 [(6, .int (nI k)), (5, .ref o1), (4, .int (nI (v - a))), (0, .ref t)] [] ((o1, .inr (1, [.ref va, .int (nI 0), .int (nI 0), .int (nI k)])) :: (va, .inl (E.2.2.1, n, .inl f)) :: (t, .inr (2, [.ref sz, .ref sg, .ref la])) :: (sz, .inl (E.2.1, 9, .inl z)) :: (sg, .inl (E.2.1, 216, .inl g)) :: (la, .inl (E.2.1, 24, .inl (jput b (fun q => g (i * 24 + (a + q))) 0 (v - a)))) :: rest) := by
    intro r
    induction r with
    | zero =>
      intro k va n f hk21 hn hkn hf
      refine j_iload C dX2_spell_21 rfl ?_
      refine j_iload C dX2_spell_23 rfl ?_
      refine j_icmpn_ge_t (tgt := 52) C dX2_spell_25 (by decide) (by omega) (by omega) (by omega) ?_
      have ek : v - a = k := by omega
      subst ek
      refine j_widen (k := 26) (n := 836) (by omega) (by omega) ?_
      refine j_aload C dX2_spell_52 rfl ?_
      refine j_callV C (q0 := 0) (c_toString l E A hn (by omega) hf) ok_J4_toString_0e30d w_621 (by decide) rfl rfl (Nat.le_of_ble_eq_true rfl) rfl rfl ⟨Nat.le_of_ble_eq_true rfl, Nat.le_of_ble_eq_true rfl⟩ dX2_spell_54 (fun _ _ h => h.elim) (fun _ _ h => ?_)
      obtain ⟨st3, sv4, g5, hfsv4, rfl, rfl⟩ := h
      refine j_perm (pre := [(st3, .inr (0, [.ref sv4, .int (nI 0), .int (nI 0), .int (nI 0)])), (sv4, .inl (E.2.2.1, (v - a), .inl g5)), (o1, .inr (1, [.ref va, .int (nI 0), .int (nI 0), .int (nI (v - a))])), (va, .inl (E.2.2.1, n, .inl f)), (t, .inr (2, [.ref sz, .ref sg, .ref la])), (sz, .inl (E.2.1, 9, .inl z)), (sg, .inl (E.2.1, 216, .inl g)), (la, .inl (E.2.1, 24, .inl (jput b (fun q => g (i * 24 + (a + q))) 0 (v - a))))]) (pre' := [(t, .inr (2, [.ref sz, .ref sg, .ref la])), (sz, .inl (E.2.1, 9, .inl z)), (sg, .inl (E.2.1, 216, .inl g)), (la, .inl (E.2.1, 24, .inl (jput b (fun q => g (i * 24 + (a + q))) 0 (v - a))))]) (tl := rest) [4, 5, 6, 7] rfl (by decide) ?_
      exact j_aret C hQ rfl (Or.inl ⟨_, rfl⟩) dX2_spell_57 ⟨Nat.le_of_ble_eq_true rfl, Nat.le_of_ble_eq_true rfl⟩ ⟨_, _, rfl, rfl⟩
    | succ r ih21 =>
      intro k va n f hk21 hn hkn hf
      refine j_iload C dX2_spell_21 rfl ?_
      refine j_iload C dX2_spell_23 rfl ?_
      refine j_icmpn_ge_f (tgt := 52) C dX2_spell_25 (by decide) (by omega) (by omega) (by omega) ?_
      obtain ⟨sgm, hm, em⟩ := hs (a + k) (by omega) (by omega)
      refine j_aload C dX2_spell_28 rfl ?_
      refine j_codesN C rfl dX2_spell_30 (fun t6 ht6 => ?_)
      refine j_aload_n C dX2_spell_33 rfl ?_
      refine j_get C 2 rfl inj_X2 rfl 2 (by decide) w_64 rfl dX2_spell_34 ?_
      refine j_iload C dX2_spell_37 rfl ?_
      refine j_iaload (z := (nI sgm)) C 5 k rfl rfl (by omega) (by first | decide | omega) (by rw [jput_in (by omega) (by omega)]; exact em) dX2_spell_39 ?_
      refine j_tld (z := (jCod sgm)) C (f := jCod) ht6 sgm rfl (by omega) (by decide) rfl dX2_spell_40 ?_
      refine j_i2c (v := (jCod sgm)) C dX2_spell_41 (jCod_c hm) ?_
      refine j_callV C (q0 := 0) (c_appendC l E A hn (by omega) hf (jCod_ok hm)) ok_J4_append_cf468 w_530 (by decide) rfl rfl (Nat.le_of_ble_eq_true rfl) rfl rfl ⟨by omega, by omega⟩ dX2_spell_42 (fun _ _ h => h.elim) (fun _ _ h => ?_)
      obtain ⟨va7, n8, f9, hzva7, hqva7, hfva7, rfl, rfl⟩ := h
      refine j_pop C dX2_spell_45 rfl ?_
      refine j_iinc (lv' := [(6, .int (nI (k + 1))), (5, .ref o1), (4, .int (nI (v - a))), (0, .ref t)]) C dX2_spell_46 rfl (nI_1 _) (by decide) rfl ?_
      refine j_goto (tgt := 21) C dX2_spell_49 (by decide) ?_
      refine j_lv (lv' := [(6, .int (nI (k + 1))), (5, .ref o1), (4, .int (nI (v - a))), (0, .ref t)]) (by simp only [List.mem_cons, List.not_mem_nil, or_false, forall_eq_or_imp, forall_eq, true_or, or_true, and_self, Nat.add_zero]) ?_
      refine j_widen (k := k + 1 + 2) (n := (k + 1) * 34 + 20) (by omega) (by omega) ?_
      exact ih21 (k + 1) _ _ _ (by omega) hzva7 hqva7 hfva7
  refine j_lv (lv' := [(6, .int (nI 0)), (5, .ref o1), (4, .int (nI (v - a))), (0, .ref t)]) (by simp only [List.mem_cons, List.not_mem_nil, or_false, forall_eq_or_imp, forall_eq, true_or, or_true, and_self, Nat.add_zero]) ?_
  refine j_widen (k := 0 + 2) (n := 0 * 34 + 20) (by omega) (by omega) ?_
  exact L21 (v - a) 0 _ _ _ (by omega) (Or.inl rfl) (by omega) sb_fit0
set_option maxHeartbeats 4000000 in
set_option maxRecDepth 100000 in
theorem c_spellAll (l : Launch) (E : jE) (A : Nat → Prop) {t sz sg la : Nat} {z g b : Nat → Int32} {rest : va_W} {i n : Nat} (hi : i < 9) (hn : n ≤ 24) (hz : z i = nI n) (hs : ∀ k, k < n → isSg (g (i * 24 + k))) : jMet l yX2_spellAll cX2_spellAll 2 (some (.object "java/lang/String")) 7 28 900 E A [.ref t, .int (nI i)] (tW E t sz sg la z g b rest) (fun vv ww => ∃ (aa : Nat) (bb : Nat → Int32), vv = some (.ref aa) ∧ ww = tW E t sz sg la z g bb rest) jNo := by
  refine jMet.intro' [(0, .ref t), (1, .int (nI i))] (by decide) (Nat.le_of_ble_eq_true rfl) rfl ?_
  intro p e R s m args below meth c Q C hQ
  refine j_aload_n C dX2_spellAll_0 rfl ?_
  refine j_iload_n C dX2_spellAll_1 rfl ?_
  refine j_iconst (v := (nI 0)) C dX2_spellAll_2 rfl ?_
  refine j_aload_n C dX2_spellAll_3 rfl ?_
  refine j_get C 0 rfl inj_X2 rfl 0 (by decide) w_62 rfl dX2_spellAll_4 ?_
  refine j_iload_n C dX2_spellAll_7 rfl ?_
  refine j_iaload (z := (nI n)) C 1 i rfl rfl (by omega) (by first | decide | omega) hz dX2_spellAll_8 ?_
  refine j_callV C (q0 := 0) (c_spell l E A (by omega) (by omega) (by omega) (fun k _ h => hs k h)) ok_X2_spell w_495 (by decide) rfl rfl (Nat.le_of_ble_eq_true rfl) rfl rfl ⟨Nat.le_of_ble_eq_true rfl, Nat.le_of_ble_eq_true rfl⟩ dX2_spellAll_9 (fun _ _ h => h.elim) (fun _ _ h => ?_)
  obtain ⟨aa1, bb2, rfl, rfl⟩ := h
  exact j_aret C hQ rfl (Or.inl ⟨_, rfl⟩) dX2_spellAll_12 ⟨Nat.le_of_ble_eq_true rfl, Nat.le_of_ble_eq_true rfl⟩ ⟨_, _, rfl, rfl⟩
set_option maxHeartbeats 4000000 in
set_option maxRecDepth 100000 in
theorem c_refuseTx (l : Launch) (E : jE) (A : Nat → Prop) {t sz sg la dk : Nat} {z g b : Nat → Int32} {cr ca cg ck : Int32} {rest : va_W}  : jMet l yX3_refuseText cX3_refuseText 1 (some (.object "java/lang/String")) 1 0 0 E A [.ref dk] (dW E t sz sg la dk z g b cr ca cg ck rest) (fun vv ww => ∃ aa : Nat, vv = some (.ref aa) ∧ ww = (dW E t sz sg la dk z g b (cr + nI 1) ca cg ck rest)) jNo := by
  refine jMet.intro' [(0, .ref dk)] (by decide) (Nat.le_of_ble_eq_true rfl) rfl ?_
  intro p e R s m args below meth c Q C hQ
  refine j_aload_n C dX3_refuseText_0 rfl ?_
  refine j_dup C dX3_refuseText_1 rfl ?_
  refine j_get C 4 rfl inj_X3 rfl 1 (by decide) w_74 rfl dX3_refuseText_2 ?_
  refine j_iconst (v := (nI 1)) C dX3_refuseText_5 rfl ?_
  refine j_iadd (z := (cr + (nI 1))) C dX3_refuseText_6 rfl ?_
  refine j_put (ws' := (dW E t sz sg la dk z g b (cr + (nI 1)) ca cg ck rest)) C 4 rfl inj_X3 tyX3 tyX3_ok nmX3 rfl 1 (by decide) w_74 rfl (tyX3_ok 1 (by decide)) rfl rfl (Nat.le_of_ble_eq_true rfl) dX3_refuseText_7 rfl ?_
  refine j_ldcS C jS_X3_165 dX3_refuseText_10 (fun sa1 => ?_)
  exact j_aret C hQ rfl (Or.inl ⟨_, rfl⟩) dX3_refuseText_12 ⟨Nat.le_of_ble_eq_true rfl, Nat.le_of_ble_eq_true rfl⟩ ⟨_, rfl, rfl⟩
set_option maxHeartbeats 4000000 in
set_option maxRecDepth 100000 in
theorem f_text_b (l : Launch) (hl : l.stackTraces = false) (E : jE) (A : Nat → Prop) {t sz sg la dk : Nat} {z g b : Nat → Int32} {cr ca cg ck : Int32} {rest : va_W} {x : Int32} (hbx : x < 0 ∨ nI 9 ≤ x)  : jMet l yX3_text cX3_text 2 (some (.object "java/lang/String")) 10 28 900 E A [.ref dk, .int x] (dW E t sz sg la dk z g b cr ca cg ck rest) jNv (jT jIO (dW E t sz sg la dk z g b cr ca cg ck rest)) := by
  refine jMet.intro' [(0, .ref dk), (1, .int x)] (by decide) (Nat.le_of_ble_eq_true rfl) rfl ?_
  intro p e R s m args below meth c Q C hQ
  refine j_iload_n C dX3_text_0 rfl ?_
  refine j_callSx C (c_wantSeat_x l hl E A hbx) ok_X3_wantSeat w_272 (by decide) rfl rfl (Nat.le_of_ble_eq_true rfl) ⟨Nat.le_of_ble_eq_true rfl, Nat.le_of_ble_eq_true rfl⟩ dX3_text_1 ?_
  exact j_xout C hQ ⟨Nat.le_of_ble_eq_true rfl, Nat.le_of_ble_eq_true rfl⟩ ⟨rfl, rfl⟩
set_option maxHeartbeats 4000000 in
set_option maxRecDepth 100000 in
theorem f_text_m (l : Launch) (E : jE) (A : Nat → Prop) {t sz sg la dk : Nat} {z g b : Nat → Int32} {cr ca cg ck : Int32} {rest : va_W} {i : Nat} (hi : i < 9) (hz : z i = -1)  : jMet l yX3_text cX3_text 2 (some (.object "java/lang/String")) 10 28 900 E A [.ref dk, .int (nI i)] (dW E t sz sg la dk z g b cr ca cg ck rest) (fun vv ww => ∃ (aa : Nat) (bb : Nat → Int32), vv = some (.ref aa) ∧ ww = (dW E t sz sg la dk z g bb cr ca cg ck rest)) jNo := by
  refine jMet.intro' [(0, .ref dk), (1, .int (nI i))] (by decide) (Nat.le_of_ble_eq_true rfl) rfl ?_
  intro p e R s m args below meth c Q C hQ
  refine j_iload_n C dX3_text_0 rfl ?_
  refine j_callSv C (w := (dW E t sz sg la dk z g b cr ca cg ck rest)) (c_wantSeat_r l E A (by omega)) ok_X3_wantSeat w_272 (by decide) rfl rfl (Nat.le_of_ble_eq_true rfl) ⟨Nat.le_of_ble_eq_true rfl, Nat.le_of_ble_eq_true rfl⟩ dX3_text_1 ?_
  refine j_aload_n C dX3_text_4 rfl ?_
  refine j_get C 4 rfl inj_X3 rfl 0 (by decide) w_73 rfl dX3_text_5 ?_
  refine j_iload_n C dX3_text_8 rfl ?_
  refine j_callVr C 0 (v := .int (bI (z i = -1))) (w := (dW E t sz sg la dk z g b cr ca cg ck rest)) (c_isAway l E A (by omega)) ok_X2_isAway w_369 (by decide) rfl rfl (Nat.le_of_ble_eq_true rfl) rfl rfl ⟨Nat.le_of_ble_eq_true rfl, Nat.le_of_ble_eq_true rfl⟩ dX3_text_9 ?_
  refine j_ifb_eq_f (tgt := 20) C dX3_text_12 (by decide) hz ?_
  refine j_ldcS C jS_X3_98 dX3_text_15 (fun sa1 => ?_)
  refine j_goto (tgt := 28) C dX3_text_17 (by decide) ?_
  exact j_aret C hQ rfl (Or.inl ⟨_, rfl⟩) dX3_text_28 ⟨Nat.le_of_ble_eq_true rfl, Nat.le_of_ble_eq_true rfl⟩ ⟨_, _, rfl, rfl⟩
set_option maxHeartbeats 4000000 in
set_option maxRecDepth 100000 in
theorem f_text_k (l : Launch) (E : jE) (A : Nat → Prop) {t sz sg la dk : Nat} {z g b : Nat → Int32} {cr ca cg ck : Int32} {rest : va_W} {i n : Nat} (hi : i < 9) (hn : n ≤ 24) (hz : z i = nI n) (hs : ∀ k, k < n → isSg (g (i * 24 + k))) : jMet l yX3_text cX3_text 2 (some (.object "java/lang/String")) 10 28 900 E A [.ref dk, .int (nI i)] (dW E t sz sg la dk z g b cr ca cg ck rest) (fun vv ww => ∃ (aa : Nat) (bb : Nat → Int32), vv = some (.ref aa) ∧ ww = (dW E t sz sg la dk z g bb cr ca cg ck rest)) jNo := by
  refine jMet.intro' [(0, .ref dk), (1, .int (nI i))] (by decide) (Nat.le_of_ble_eq_true rfl) rfl ?_
  intro p e R s m args below meth c Q C hQ
  refine j_iload_n C dX3_text_0 rfl ?_
  refine j_callSv C (w := (dW E t sz sg la dk z g b cr ca cg ck rest)) (c_wantSeat_r l E A (by omega)) ok_X3_wantSeat w_272 (by decide) rfl rfl (Nat.le_of_ble_eq_true rfl) ⟨Nat.le_of_ble_eq_true rfl, Nat.le_of_ble_eq_true rfl⟩ dX3_text_1 ?_
  refine j_aload_n C dX3_text_4 rfl ?_
  refine j_get C 4 rfl inj_X3 rfl 0 (by decide) w_73 rfl dX3_text_5 ?_
  refine j_iload_n C dX3_text_8 rfl ?_
  refine j_callVr C 0 (v := .int (bI (z i = -1))) (w := (dW E t sz sg la dk z g b cr ca cg ck rest)) (c_isAway l E A (by omega)) ok_X2_isAway w_369 (by decide) rfl rfl (Nat.le_of_ble_eq_true rfl) rfl rfl ⟨Nat.le_of_ble_eq_true rfl, Nat.le_of_ble_eq_true rfl⟩ dX3_text_9 ?_
  refine j_ifb_eq_t (tgt := 20) C dX3_text_12 (by decide) (by rw [hz]; exact nI_ne_m (by omega)) ?_
  refine j_aload_n C dX3_text_20 rfl ?_
  refine j_get C 4 rfl inj_X3 rfl 0 (by decide) w_73 rfl dX3_text_21 ?_
  refine j_iload_n C dX3_text_24 rfl ?_
  refine j_callV C (q0 := 0) (c_spellAll l E A (by omega) hn hz hs) ok_X2_spellAll w_491 (by decide) rfl rfl (Nat.le_of_ble_eq_true rfl) rfl rfl ⟨Nat.le_of_ble_eq_true rfl, Nat.le_of_ble_eq_true rfl⟩ dX3_text_25 (fun _ _ h => h.elim) (fun _ _ h => ?_)
  obtain ⟨aa1, bb2, rfl, rfl⟩ := h
  exact j_aret C hQ rfl (Or.inl ⟨_, rfl⟩) dX3_text_28 ⟨Nat.le_of_ble_eq_true rfl, Nat.le_of_ble_eq_true rfl⟩ ⟨_, _, rfl, rfl⟩
set_option maxHeartbeats 4000000 in
set_option maxRecDepth 100000 in
theorem f_part_b (l : Launch) (hl : l.stackTraces = false) (E : jE) (A : Nat → Prop) {t sz sg la dk : Nat} {z g b : Nat → Int32} {cr ca cg ck : Int32} {rest : va_W} {x y w : Int32} (hbx : x < 0 ∨ nI 9 ≤ x)  : jMet l yX3_part cX3_part 4 (some (.object "java/lang/String")) 10 28 900 E A [.ref dk, .int x, .int y, .int w] (dW E t sz sg la dk z g b cr ca cg ck rest) jNv (jT jIO (dW E t sz sg la dk z g b cr ca cg ck rest)) := by
  refine jMet.intro' [(0, .ref dk), (1, .int x), (2, .int y), (3, .int w)] (by decide) (Nat.le_of_ble_eq_true rfl) rfl ?_
  intro p e R s m args below meth c Q C hQ
  refine j_iload_n C dX3_part_0 rfl ?_
  refine j_callSx C (c_wantSeat_x l hl E A hbx) ok_X3_wantSeat w_272 (by decide) rfl rfl (Nat.le_of_ble_eq_true rfl) ⟨Nat.le_of_ble_eq_true rfl, Nat.le_of_ble_eq_true rfl⟩ dX3_part_1 ?_
  exact j_xout C hQ ⟨Nat.le_of_ble_eq_true rfl, Nat.le_of_ble_eq_true rfl⟩ ⟨rfl, rfl⟩
set_option maxHeartbeats 4000000 in
set_option maxRecDepth 100000 in
theorem f_part_m (l : Launch) (E : jE) (A : Nat → Prop) {t sz sg la dk : Nat} {z g b : Nat → Int32} {cr ca cg ck : Int32} {rest : va_W} {i : Nat} (hi : i < 9) (hz : z i = -1) {y w : Int32}  : jMet l yX3_part cX3_part 4 (some (.object "java/lang/String")) 10 28 900 E A [.ref dk, .int (nI i), .int y, .int w] (dW E t sz sg la dk z g b cr ca cg ck rest) (fun vv ww => ∃ (aa : Nat) (bb : Nat → Int32), vv = some (.ref aa) ∧ ww = (dW E t sz sg la dk z g bb (cr + nI 1) ca cg ck rest)) jNo := by
  refine jMet.intro' [(0, .ref dk), (1, .int (nI i)), (2, .int y), (3, .int w)] (by decide) (Nat.le_of_ble_eq_true rfl) rfl ?_
  intro p e R s m args below meth c Q C hQ
  refine j_iload_n C dX3_part_0 rfl ?_
  refine j_callSv C (w := (dW E t sz sg la dk z g b cr ca cg ck rest)) (c_wantSeat_r l E A (by omega)) ok_X3_wantSeat w_272 (by decide) rfl rfl (Nat.le_of_ble_eq_true rfl) ⟨Nat.le_of_ble_eq_true rfl, Nat.le_of_ble_eq_true rfl⟩ dX3_part_1 ?_
  refine j_aload_n C dX3_part_4 rfl ?_
  refine j_get C 4 rfl inj_X3 rfl 0 (by decide) w_73 rfl dX3_part_5 ?_
  refine j_iload_n C dX3_part_8 rfl ?_
  refine j_callVr C 0 (v := .int (bI (z i = -1))) (w := (dW E t sz sg la dk z g b cr ca cg ck rest)) (c_isAway l E A (by omega)) ok_X2_isAway w_369 (by decide) rfl rfl (Nat.le_of_ble_eq_true rfl) rfl rfl ⟨Nat.le_of_ble_eq_true rfl, Nat.le_of_ble_eq_true rfl⟩ dX3_part_9 ?_
  refine j_ifb_ne_t (tgt := 34) C dX3_part_12 (by decide) hz ?_
  refine j_aload_n C dX3_part_34 rfl ?_
  refine j_callV C (q0 := 4) (c_refuseTx l E A) ok_X3_refuseText w_780 (by decide) rfl rfl (Nat.le_of_ble_eq_true rfl) rfl rfl ⟨Nat.le_of_ble_eq_true rfl, Nat.le_of_ble_eq_true rfl⟩ dX3_part_35 (fun _ _ h => h.elim) (fun _ _ h => ?_)
  obtain ⟨aa1, rfl, rfl⟩ := h
  exact j_aret C hQ rfl (Or.inl ⟨_, rfl⟩) dX3_part_38 ⟨Nat.le_of_ble_eq_true rfl, Nat.le_of_ble_eq_true rfl⟩ ⟨_, _, rfl, rfl⟩
set_option maxHeartbeats 4000000 in
set_option maxRecDepth 100000 in
theorem f_part_o (l : Launch) (E : jE) (A : Nat → Prop) {t sz sg la dk : Nat} {z g b : Nat → Int32} {cr ca cg ck : Int32} {rest : va_W} {i n : Nat} (hi : i < 9) (hn : n ≤ 24) (hz : z i = nI n) {y w : Int32} (hout : ¬ (¬ y.toInt64 < 0 ∧ ¬ w.toInt64 < y.toInt64 ∧ ¬ ((nI n).toInt64) < w.toInt64)) : jMet l yX3_part cX3_part 4 (some (.object "java/lang/String")) 10 28 900 E A [.ref dk, .int (nI i), .int y, .int w] (dW E t sz sg la dk z g b cr ca cg ck rest) (fun vv ww => ∃ (aa : Nat) (bb : Nat → Int32), vv = some (.ref aa) ∧ ww = (dW E t sz sg la dk z g bb (cr + nI 1) ca cg ck rest)) jNo := by
  refine jMet.intro' [(0, .ref dk), (1, .int (nI i)), (2, .int y), (3, .int w)] (by decide) (Nat.le_of_ble_eq_true rfl) rfl ?_
  intro p e R s m args below meth c Q C hQ
  refine j_iload_n C dX3_part_0 rfl ?_
  refine j_callSv C (w := (dW E t sz sg la dk z g b cr ca cg ck rest)) (c_wantSeat_r l E A (by omega)) ok_X3_wantSeat w_272 (by decide) rfl rfl (Nat.le_of_ble_eq_true rfl) ⟨Nat.le_of_ble_eq_true rfl, Nat.le_of_ble_eq_true rfl⟩ dX3_part_1 ?_
  refine j_aload_n C dX3_part_4 rfl ?_
  refine j_get C 4 rfl inj_X3 rfl 0 (by decide) w_73 rfl dX3_part_5 ?_
  refine j_iload_n C dX3_part_8 rfl ?_
  refine j_callVr C 0 (v := .int (bI (z i = -1))) (w := (dW E t sz sg la dk z g b cr ca cg ck rest)) (c_isAway l E A (by omega)) ok_X2_isAway w_369 (by decide) rfl rfl (Nat.le_of_ble_eq_true rfl) rfl rfl ⟨Nat.le_of_ble_eq_true rfl, Nat.le_of_ble_eq_true rfl⟩ dX3_part_9 ?_
  refine j_ifb_ne_f (tgt := 34) C dX3_part_12 (by decide) (by rw [hz]; exact nI_ne_m (by omega)) ?_
  refine j_iload_n C dX3_part_15 rfl ?_
  refine j_i2l (v := y.toInt64) C dX3_part_16 rfl ?_
  refine j_iload_n C dX3_part_17 rfl ?_
  refine j_i2l (v := w.toInt64) C dX3_part_18 rfl ?_
  refine j_aload_n C dX3_part_19 rfl ?_
  refine j_get C 4 rfl inj_X3 rfl 0 (by decide) w_73 rfl dX3_part_20 ?_
  refine j_iload_n C dX3_part_23 rfl ?_
  refine j_callVr C 0 (v := .int (nI n)) (w := (dW E t sz sg la dk z g b cr ca cg ck rest)) (c_size_n l E A (by omega) hz) ok_X2_size w_241 (by decide) rfl rfl (Nat.le_of_ble_eq_true rfl) rfl rfl ⟨Nat.le_of_ble_eq_true rfl, Nat.le_of_ble_eq_true rfl⟩ dX3_part_24 ?_
  refine j_i2l (v := (nI n).toInt64) C dX3_part_27 rfl ?_
  refine j_callSr C (v := .int (bI (¬ y.toInt64 < 0 ∧ ¬ w.toInt64 < y.toInt64 ∧ ¬ ((nI n).toInt64) < w.toInt64))) (w := (dW E t sz sg la dk z g b cr ca cg ck rest)) (c_holdsSpan l E A) ok_X0_holdsSpan w_104 (by decide) rfl rfl (Nat.le_of_ble_eq_true rfl) ⟨Nat.le_of_ble_eq_true rfl, Nat.le_of_ble_eq_true rfl⟩ dX3_part_28 ?_
  refine j_ifb_ne_f (tgt := 39) C dX3_part_31 (by decide) hout ?_
  refine j_aload_n C dX3_part_34 rfl ?_
  refine j_callV C (q0 := 4) (c_refuseTx l E A) ok_X3_refuseText w_780 (by decide) rfl rfl (Nat.le_of_ble_eq_true rfl) rfl rfl ⟨Nat.le_of_ble_eq_true rfl, Nat.le_of_ble_eq_true rfl⟩ dX3_part_35 (fun _ _ h => h.elim) (fun _ _ h => ?_)
  obtain ⟨aa1, rfl, rfl⟩ := h
  exact j_aret C hQ rfl (Or.inl ⟨_, rfl⟩) dX3_part_38 ⟨Nat.le_of_ble_eq_true rfl, Nat.le_of_ble_eq_true rfl⟩ ⟨_, _, rfl, rfl⟩
set_option maxHeartbeats 4000000 in
set_option maxRecDepth 100000 in
theorem f_part_k (l : Launch) (E : jE) (A : Nat → Prop) {t sz sg la dk : Nat} {z g b : Nat → Int32} {cr ca cg ck : Int32} {rest : va_W} {i n : Nat} (hi : i < 9) (hn : n ≤ 24) (hz : z i = nI n) {a v : Nat} (hav : a ≤ v) (hvn : v ≤ n) (hs : ∀ k, k < n → isSg (g (i * 24 + k))) : jMet l yX3_part cX3_part 4 (some (.object "java/lang/String")) 10 28 900 E A [.ref dk, .int (nI i), .int (nI a), .int (nI v)] (dW E t sz sg la dk z g b cr ca cg ck rest) (fun vv ww => ∃ (aa : Nat) (bb : Nat → Int32), vv = some (.ref aa) ∧ ww = (dW E t sz sg la dk z g bb cr ca cg ck rest)) jNo := by
  refine jMet.intro' [(0, .ref dk), (1, .int (nI i)), (2, .int (nI a)), (3, .int (nI v))] (by decide) (Nat.le_of_ble_eq_true rfl) rfl ?_
  intro p e R s m args below meth c Q C hQ
  refine j_iload_n C dX3_part_0 rfl ?_
  refine j_callSv C (w := (dW E t sz sg la dk z g b cr ca cg ck rest)) (c_wantSeat_r l E A (by omega)) ok_X3_wantSeat w_272 (by decide) rfl rfl (Nat.le_of_ble_eq_true rfl) ⟨Nat.le_of_ble_eq_true rfl, Nat.le_of_ble_eq_true rfl⟩ dX3_part_1 ?_
  refine j_aload_n C dX3_part_4 rfl ?_
  refine j_get C 4 rfl inj_X3 rfl 0 (by decide) w_73 rfl dX3_part_5 ?_
  refine j_iload_n C dX3_part_8 rfl ?_
  refine j_callVr C 0 (v := .int (bI (z i = -1))) (w := (dW E t sz sg la dk z g b cr ca cg ck rest)) (c_isAway l E A (by omega)) ok_X2_isAway w_369 (by decide) rfl rfl (Nat.le_of_ble_eq_true rfl) rfl rfl ⟨Nat.le_of_ble_eq_true rfl, Nat.le_of_ble_eq_true rfl⟩ dX3_part_9 ?_
  refine j_ifb_ne_f (tgt := 34) C dX3_part_12 (by decide) (by rw [hz]; exact nI_ne_m (by omega)) ?_
  refine j_iload_n C dX3_part_15 rfl ?_
  refine j_i2l (v := (nI a).toInt64) C dX3_part_16 rfl ?_
  refine j_iload_n C dX3_part_17 rfl ?_
  refine j_i2l (v := (nI v).toInt64) C dX3_part_18 rfl ?_
  refine j_aload_n C dX3_part_19 rfl ?_
  refine j_get C 4 rfl inj_X3 rfl 0 (by decide) w_73 rfl dX3_part_20 ?_
  refine j_iload_n C dX3_part_23 rfl ?_
  refine j_callVr C 0 (v := .int (nI n)) (w := (dW E t sz sg la dk z g b cr ca cg ck rest)) (c_size_n l E A (by omega) hz) ok_X2_size w_241 (by decide) rfl rfl (Nat.le_of_ble_eq_true rfl) rfl rfl ⟨Nat.le_of_ble_eq_true rfl, Nat.le_of_ble_eq_true rfl⟩ dX3_part_24 ?_
  refine j_i2l (v := (nI n).toInt64) C dX3_part_27 rfl ?_
  refine j_callSr C (v := .int (bI (¬ ((nI a).toInt64) < 0 ∧ ¬ ((nI v).toInt64) < ((nI a).toInt64) ∧ ¬ ((nI n).toInt64) < ((nI v).toInt64)))) (w := (dW E t sz sg la dk z g b cr ca cg ck rest)) (c_holdsSpan l E A) ok_X0_holdsSpan w_104 (by decide) rfl rfl (Nat.le_of_ble_eq_true rfl) ⟨Nat.le_of_ble_eq_true rfl, Nat.le_of_ble_eq_true rfl⟩ dX3_part_28 ?_
  refine j_ifb_ne_t (tgt := 39) C dX3_part_31 (by decide) (span_in hav hvn hn) ?_
  refine j_aload_n C dX3_part_39 rfl ?_
  refine j_get C 4 rfl inj_X3 rfl 0 (by decide) w_73 rfl dX3_part_40 ?_
  refine j_iload_n C dX3_part_43 rfl ?_
  refine j_iload_n C dX3_part_44 rfl ?_
  refine j_iload_n C dX3_part_45 rfl ?_
  refine j_callV C (q0 := 0) (c_spell l E A (by omega) (by omega) (by omega) (fun k _ h => hs k (by omega))) ok_X2_spell w_785 (by decide) rfl rfl (Nat.le_of_ble_eq_true rfl) rfl rfl ⟨Nat.le_of_ble_eq_true rfl, Nat.le_of_ble_eq_true rfl⟩ dX3_part_46 (fun _ _ h => h.elim) (fun _ _ h => ?_)
  obtain ⟨aa1, bb2, rfl, rfl⟩ := h
  exact j_aret C hQ rfl (Or.inl ⟨_, rfl⟩) dX3_part_49 ⟨Nat.le_of_ble_eq_true rfl, Nat.le_of_ble_eq_true rfl⟩ ⟨_, _, rfl, rfl⟩
set_option maxHeartbeats 4000000 in
set_option maxRecDepth 100000 in
theorem c_spellEither_k1 (l : Launch) (E : jE) (A : Nat → Prop) {t sz sg la dk : Nat} {z g b : Nat → Int32} {cr ca cg ck : Int32} {rest : va_W} {i n : Nat} (hi : i < 9) (hn : n ≤ 24) (hz : z i = nI n) (hs : ∀ k, k < n → isSg (g (i * 24 + k))) {j : Nat} (hj : j < 9)  : jMet l yX3_spellEither cX3_spellEither 3 (some (.object "java/lang/String")) 8 28 900 E A [.ref dk, .int (nI i), .int (nI j)] (dW E t sz sg la dk z g b cr ca cg ck rest) (fun vv ww => ∃ (aa : Nat) (bb : Nat → Int32), vv = some (.ref aa) ∧ ww = (dW E t sz sg la dk z g bb cr ca cg ck rest)) jNo := by
  refine jMet.intro' [(0, .ref dk), (1, .int (nI i)), (2, .int (nI j))] (by decide) (Nat.le_of_ble_eq_true rfl) rfl ?_
  intro p e R s m args below meth c Q C hQ
  refine j_aload_n C dX3_spellEither_0 rfl ?_
  refine j_get C 4 rfl inj_X3 rfl 0 (by decide) w_73 rfl dX3_spellEither_1 ?_
  refine j_iload_n C dX3_spellEither_4 rfl ?_
  refine j_callVr C 0 (v := .int (bI (z i = -1))) (w := (dW E t sz sg la dk z g b cr ca cg ck rest)) (c_isAway l E A (by omega)) ok_X2_isAway w_369 (by decide) rfl rfl (Nat.le_of_ble_eq_true rfl) rfl rfl ⟨Nat.le_of_ble_eq_true rfl, Nat.le_of_ble_eq_true rfl⟩ dX3_spellEither_5 ?_
  refine j_ifb_ne_f (tgt := 20) C dX3_spellEither_8 (by decide) (by rw [hz]; exact nI_ne_m (by omega)) ?_
  refine j_aload_n C dX3_spellEither_11 rfl ?_
  refine j_get C 4 rfl inj_X3 rfl 0 (by decide) w_73 rfl dX3_spellEither_12 ?_
  refine j_iload_n C dX3_spellEither_15 rfl ?_
  refine j_callV C (q0 := 0) (c_spellAll l E A (by omega) hn hz hs) ok_X2_spellAll w_491 (by decide) rfl rfl (Nat.le_of_ble_eq_true rfl) rfl rfl ⟨Nat.le_of_ble_eq_true rfl, Nat.le_of_ble_eq_true rfl⟩ dX3_spellEither_16 (fun _ _ h => h.elim) (fun _ _ h => ?_)
  obtain ⟨aa1, bb2, rfl, rfl⟩ := h
  exact j_aret C hQ rfl (Or.inl ⟨_, rfl⟩) dX3_spellEither_19 ⟨Nat.le_of_ble_eq_true rfl, Nat.le_of_ble_eq_true rfl⟩ ⟨_, _, rfl, rfl⟩
set_option maxHeartbeats 4000000 in
set_option maxRecDepth 100000 in
theorem c_spellEither_k2 (l : Launch) (E : jE) (A : Nat → Prop) {t sz sg la dk : Nat} {z g b : Nat → Int32} {cr ca cg ck : Int32} {rest : va_W} {i : Nat} (hi : i < 9) (hz : z i = -1) {j o : Nat} (hj : j < 9) (ho : o ≤ 24) (hzj : z j = nI o) (hsj : ∀ k, k < o → isSg (g (j * 24 + k)))  : jMet l yX3_spellEither cX3_spellEither 3 (some (.object "java/lang/String")) 8 28 900 E A [.ref dk, .int (nI i), .int (nI j)] (dW E t sz sg la dk z g b cr ca cg ck rest) (fun vv ww => ∃ (aa : Nat) (bb : Nat → Int32), vv = some (.ref aa) ∧ ww = (dW E t sz sg la dk z g bb cr ca cg ck rest)) jNo := by
  refine jMet.intro' [(0, .ref dk), (1, .int (nI i)), (2, .int (nI j))] (by decide) (Nat.le_of_ble_eq_true rfl) rfl ?_
  intro p e R s m args below meth c Q C hQ
  refine j_aload_n C dX3_spellEither_0 rfl ?_
  refine j_get C 4 rfl inj_X3 rfl 0 (by decide) w_73 rfl dX3_spellEither_1 ?_
  refine j_iload_n C dX3_spellEither_4 rfl ?_
  refine j_callVr C 0 (v := .int (bI (z i = -1))) (w := (dW E t sz sg la dk z g b cr ca cg ck rest)) (c_isAway l E A (by omega)) ok_X2_isAway w_369 (by decide) rfl rfl (Nat.le_of_ble_eq_true rfl) rfl rfl ⟨Nat.le_of_ble_eq_true rfl, Nat.le_of_ble_eq_true rfl⟩ dX3_spellEither_5 ?_
  refine j_ifb_ne_t (tgt := 20) C dX3_spellEither_8 (by decide) hz ?_
  refine j_aload_n C dX3_spellEither_20 rfl ?_
  refine j_get C 4 rfl inj_X3 rfl 0 (by decide) w_73 rfl dX3_spellEither_21 ?_
  refine j_iload_n C dX3_spellEither_24 rfl ?_
  refine j_callVr C 0 (v := .int (bI (z j = -1))) (w := (dW E t sz sg la dk z g b cr ca cg ck rest)) (c_isAway l E A (by omega)) ok_X2_isAway w_369 (by decide) rfl rfl (Nat.le_of_ble_eq_true rfl) rfl rfl ⟨Nat.le_of_ble_eq_true rfl, Nat.le_of_ble_eq_true rfl⟩ dX3_spellEither_25 ?_
  refine j_ifb_eq_t (tgt := 38) C dX3_spellEither_28 (by decide) (by rw [hzj]; exact nI_ne_m (by omega)) ?_
  refine j_aload_n C dX3_spellEither_38 rfl ?_
  refine j_get C 4 rfl inj_X3 rfl 0 (by decide) w_73 rfl dX3_spellEither_39 ?_
  refine j_iload_n C dX3_spellEither_42 rfl ?_
  refine j_callV C (q0 := 0) (c_spellAll l E A (by omega) ho hzj hsj) ok_X2_spellAll w_491 (by decide) rfl rfl (Nat.le_of_ble_eq_true rfl) rfl rfl ⟨Nat.le_of_ble_eq_true rfl, Nat.le_of_ble_eq_true rfl⟩ dX3_spellEither_43 (fun _ _ h => h.elim) (fun _ _ h => ?_)
  obtain ⟨aa1, bb2, rfl, rfl⟩ := h
  exact j_aret C hQ rfl (Or.inl ⟨_, rfl⟩) dX3_spellEither_46 ⟨Nat.le_of_ble_eq_true rfl, Nat.le_of_ble_eq_true rfl⟩ ⟨_, _, rfl, rfl⟩
set_option maxHeartbeats 4000000 in
set_option maxRecDepth 100000 in
theorem c_spellEither_m (l : Launch) (E : jE) (A : Nat → Prop) {t sz sg la dk : Nat} {z g b : Nat → Int32} {cr ca cg ck : Int32} {rest : va_W} {i : Nat} (hi : i < 9) (hz : z i = -1) {j : Nat} (hj : j < 9) (hzj : z j = -1)  : jMet l yX3_spellEither cX3_spellEither 3 (some (.object "java/lang/String")) 8 28 900 E A [.ref dk, .int (nI i), .int (nI j)] (dW E t sz sg la dk z g b cr ca cg ck rest) (fun vv ww => ∃ (aa : Nat) (bb : Nat → Int32), vv = some (.ref aa) ∧ ww = (dW E t sz sg la dk z g bb (cr + nI 1) ca cg ck rest)) jNo := by
  refine jMet.intro' [(0, .ref dk), (1, .int (nI i)), (2, .int (nI j))] (by decide) (Nat.le_of_ble_eq_true rfl) rfl ?_
  intro p e R s m args below meth c Q C hQ
  refine j_aload_n C dX3_spellEither_0 rfl ?_
  refine j_get C 4 rfl inj_X3 rfl 0 (by decide) w_73 rfl dX3_spellEither_1 ?_
  refine j_iload_n C dX3_spellEither_4 rfl ?_
  refine j_callVr C 0 (v := .int (bI (z i = -1))) (w := (dW E t sz sg la dk z g b cr ca cg ck rest)) (c_isAway l E A (by omega)) ok_X2_isAway w_369 (by decide) rfl rfl (Nat.le_of_ble_eq_true rfl) rfl rfl ⟨Nat.le_of_ble_eq_true rfl, Nat.le_of_ble_eq_true rfl⟩ dX3_spellEither_5 ?_
  refine j_ifb_ne_t (tgt := 20) C dX3_spellEither_8 (by decide) hz ?_
  refine j_aload_n C dX3_spellEither_20 rfl ?_
  refine j_get C 4 rfl inj_X3 rfl 0 (by decide) w_73 rfl dX3_spellEither_21 ?_
  refine j_iload_n C dX3_spellEither_24 rfl ?_
  refine j_callVr C 0 (v := .int (bI (z j = -1))) (w := (dW E t sz sg la dk z g b cr ca cg ck rest)) (c_isAway l E A (by omega)) ok_X2_isAway w_369 (by decide) rfl rfl (Nat.le_of_ble_eq_true rfl) rfl rfl ⟨Nat.le_of_ble_eq_true rfl, Nat.le_of_ble_eq_true rfl⟩ dX3_spellEither_25 ?_
  refine j_ifb_eq_f (tgt := 38) C dX3_spellEither_28 (by decide) hzj ?_
  refine j_aload_n C dX3_spellEither_31 rfl ?_
  refine j_callV C (q0 := 4) (c_refuseTx l E A) ok_X3_refuseText w_780 (by decide) rfl rfl (Nat.le_of_ble_eq_true rfl) rfl rfl ⟨Nat.le_of_ble_eq_true rfl, Nat.le_of_ble_eq_true rfl⟩ dX3_spellEither_32 (fun _ _ h => h.elim) (fun _ _ h => ?_)
  obtain ⟨aa1, rfl, rfl⟩ := h
  refine j_goto (tgt := 46) C dX3_spellEither_35 (by decide) ?_
  exact j_aret C hQ rfl (Or.inl ⟨_, rfl⟩) dX3_spellEither_46 ⟨Nat.le_of_ble_eq_true rfl, Nat.le_of_ble_eq_true rfl⟩ ⟨_, _, rfl, rfl⟩
set_option maxHeartbeats 4000000 in
set_option maxRecDepth 100000 in
theorem f_orElse_k1 (l : Launch) (E : jE) (A : Nat → Prop) {t sz sg la dk : Nat} {z g b : Nat → Int32} {cr ca cg ck : Int32} {rest : va_W} {i n : Nat} (hi : i < 9) (hn : n ≤ 24) (hz : z i = nI n) (hs : ∀ k, k < n → isSg (g (i * 24 + k))) {j : Nat} (hj : j < 9)  : jMet l yX3_orElse cX3_orElse 3 (some (.object "java/lang/String")) 10 28 900 E A [.ref dk, .int (nI i), .int (nI j)] (dW E t sz sg la dk z g b cr ca cg ck rest) (fun vv ww => ∃ (aa : Nat) (bb : Nat → Int32), vv = some (.ref aa) ∧ ww = (dW E t sz sg la dk z g bb cr ca cg ck rest)) jNo := by
  refine jMet.intro' [(0, .ref dk), (1, .int (nI i)), (2, .int (nI j))] (by decide) (Nat.le_of_ble_eq_true rfl) rfl ?_
  intro p e R s m args below meth c Q C hQ
  refine j_iload_n C dX3_orElse_0 rfl ?_
  refine j_callSv C (w := (dW E t sz sg la dk z g b cr ca cg ck rest)) (c_wantSeat_r l E A (by omega)) ok_X3_wantSeat w_272 (by decide) rfl rfl (Nat.le_of_ble_eq_true rfl) ⟨Nat.le_of_ble_eq_true rfl, Nat.le_of_ble_eq_true rfl⟩ dX3_orElse_1 ?_
  refine j_iload_n C dX3_orElse_4 rfl ?_
  refine j_callSv C (w := (dW E t sz sg la dk z g b cr ca cg ck rest)) (c_wantSeat_r l E A (by omega)) ok_X3_wantSeat w_272 (by decide) rfl rfl (Nat.le_of_ble_eq_true rfl) ⟨Nat.le_of_ble_eq_true rfl, Nat.le_of_ble_eq_true rfl⟩ dX3_orElse_5 ?_
  refine j_aload_n C dX3_orElse_8 rfl ?_
  refine j_iload_n C dX3_orElse_9 rfl ?_
  refine j_iload_n C dX3_orElse_10 rfl ?_
  refine j_callV C (q0 := 4) (c_spellEither_k1 l E A hi hn hz hs hj) ok_X3_spellEither w_860 (by decide) rfl rfl (Nat.le_of_ble_eq_true rfl) rfl rfl ⟨Nat.le_of_ble_eq_true rfl, Nat.le_of_ble_eq_true rfl⟩ dX3_orElse_11 (fun _ _ h => h.elim) (fun _ _ h => ?_)
  obtain ⟨aa1, bb2, rfl, rfl⟩ := h
  exact j_aret C hQ rfl (Or.inl ⟨_, rfl⟩) dX3_orElse_14 ⟨Nat.le_of_ble_eq_true rfl, Nat.le_of_ble_eq_true rfl⟩ ⟨_, _, rfl, rfl⟩
set_option maxHeartbeats 4000000 in
set_option maxRecDepth 100000 in
theorem f_orElse_k2 (l : Launch) (E : jE) (A : Nat → Prop) {t sz sg la dk : Nat} {z g b : Nat → Int32} {cr ca cg ck : Int32} {rest : va_W} {i : Nat} (hi : i < 9) (hz : z i = -1) {j o : Nat} (hj : j < 9) (ho : o ≤ 24) (hzj : z j = nI o) (hsj : ∀ k, k < o → isSg (g (j * 24 + k)))  : jMet l yX3_orElse cX3_orElse 3 (some (.object "java/lang/String")) 10 28 900 E A [.ref dk, .int (nI i), .int (nI j)] (dW E t sz sg la dk z g b cr ca cg ck rest) (fun vv ww => ∃ (aa : Nat) (bb : Nat → Int32), vv = some (.ref aa) ∧ ww = (dW E t sz sg la dk z g bb cr ca cg ck rest)) jNo := by
  refine jMet.intro' [(0, .ref dk), (1, .int (nI i)), (2, .int (nI j))] (by decide) (Nat.le_of_ble_eq_true rfl) rfl ?_
  intro p e R s m args below meth c Q C hQ
  refine j_iload_n C dX3_orElse_0 rfl ?_
  refine j_callSv C (w := (dW E t sz sg la dk z g b cr ca cg ck rest)) (c_wantSeat_r l E A (by omega)) ok_X3_wantSeat w_272 (by decide) rfl rfl (Nat.le_of_ble_eq_true rfl) ⟨Nat.le_of_ble_eq_true rfl, Nat.le_of_ble_eq_true rfl⟩ dX3_orElse_1 ?_
  refine j_iload_n C dX3_orElse_4 rfl ?_
  refine j_callSv C (w := (dW E t sz sg la dk z g b cr ca cg ck rest)) (c_wantSeat_r l E A (by omega)) ok_X3_wantSeat w_272 (by decide) rfl rfl (Nat.le_of_ble_eq_true rfl) ⟨Nat.le_of_ble_eq_true rfl, Nat.le_of_ble_eq_true rfl⟩ dX3_orElse_5 ?_
  refine j_aload_n C dX3_orElse_8 rfl ?_
  refine j_iload_n C dX3_orElse_9 rfl ?_
  refine j_iload_n C dX3_orElse_10 rfl ?_
  refine j_callV C (q0 := 4) (c_spellEither_k2 l E A hi hz hj ho hzj hsj) ok_X3_spellEither w_860 (by decide) rfl rfl (Nat.le_of_ble_eq_true rfl) rfl rfl ⟨Nat.le_of_ble_eq_true rfl, Nat.le_of_ble_eq_true rfl⟩ dX3_orElse_11 (fun _ _ h => h.elim) (fun _ _ h => ?_)
  obtain ⟨aa1, bb2, rfl, rfl⟩ := h
  exact j_aret C hQ rfl (Or.inl ⟨_, rfl⟩) dX3_orElse_14 ⟨Nat.le_of_ble_eq_true rfl, Nat.le_of_ble_eq_true rfl⟩ ⟨_, _, rfl, rfl⟩
set_option maxHeartbeats 4000000 in
set_option maxRecDepth 100000 in
theorem f_orElse_m (l : Launch) (E : jE) (A : Nat → Prop) {t sz sg la dk : Nat} {z g b : Nat → Int32} {cr ca cg ck : Int32} {rest : va_W} {i : Nat} (hi : i < 9) (hz : z i = -1) {j : Nat} (hj : j < 9) (hzj : z j = -1)  : jMet l yX3_orElse cX3_orElse 3 (some (.object "java/lang/String")) 10 28 900 E A [.ref dk, .int (nI i), .int (nI j)] (dW E t sz sg la dk z g b cr ca cg ck rest) (fun vv ww => ∃ (aa : Nat) (bb : Nat → Int32), vv = some (.ref aa) ∧ ww = (dW E t sz sg la dk z g bb (cr + nI 1) ca cg ck rest)) jNo := by
  refine jMet.intro' [(0, .ref dk), (1, .int (nI i)), (2, .int (nI j))] (by decide) (Nat.le_of_ble_eq_true rfl) rfl ?_
  intro p e R s m args below meth c Q C hQ
  refine j_iload_n C dX3_orElse_0 rfl ?_
  refine j_callSv C (w := (dW E t sz sg la dk z g b cr ca cg ck rest)) (c_wantSeat_r l E A (by omega)) ok_X3_wantSeat w_272 (by decide) rfl rfl (Nat.le_of_ble_eq_true rfl) ⟨Nat.le_of_ble_eq_true rfl, Nat.le_of_ble_eq_true rfl⟩ dX3_orElse_1 ?_
  refine j_iload_n C dX3_orElse_4 rfl ?_
  refine j_callSv C (w := (dW E t sz sg la dk z g b cr ca cg ck rest)) (c_wantSeat_r l E A (by omega)) ok_X3_wantSeat w_272 (by decide) rfl rfl (Nat.le_of_ble_eq_true rfl) ⟨Nat.le_of_ble_eq_true rfl, Nat.le_of_ble_eq_true rfl⟩ dX3_orElse_5 ?_
  refine j_aload_n C dX3_orElse_8 rfl ?_
  refine j_iload_n C dX3_orElse_9 rfl ?_
  refine j_iload_n C dX3_orElse_10 rfl ?_
  refine j_callV C (q0 := 4) (c_spellEither_m l E A hi hz hj hzj) ok_X3_spellEither w_860 (by decide) rfl rfl (Nat.le_of_ble_eq_true rfl) rfl rfl ⟨Nat.le_of_ble_eq_true rfl, Nat.le_of_ble_eq_true rfl⟩ dX3_orElse_11 (fun _ _ h => h.elim) (fun _ _ h => ?_)
  obtain ⟨aa1, bb2, rfl, rfl⟩ := h
  exact j_aret C hQ rfl (Or.inl ⟨_, rfl⟩) dX3_orElse_14 ⟨Nat.le_of_ble_eq_true rfl, Nat.le_of_ble_eq_true rfl⟩ ⟨_, _, rfl, rfl⟩
set_option maxHeartbeats 4000000 in
set_option maxRecDepth 100000 in
theorem f_orElse_b1 (l : Launch) (hl : l.stackTraces = false) (E : jE) (A : Nat → Prop) {t sz sg la dk : Nat} {z g b : Nat → Int32} {cr ca cg ck : Int32} {rest : va_W} {x y : Int32} (hbx : x < 0 ∨ nI 9 ≤ x)  : jMet l yX3_orElse cX3_orElse 3 (some (.object "java/lang/String")) 10 28 900 E A [.ref dk, .int x, .int y] (dW E t sz sg la dk z g b cr ca cg ck rest) jNv (jT jIO (dW E t sz sg la dk z g b cr ca cg ck rest)) := by
  refine jMet.intro' [(0, .ref dk), (1, .int x), (2, .int y)] (by decide) (Nat.le_of_ble_eq_true rfl) rfl ?_
  intro p e R s m args below meth c Q C hQ
  refine j_iload_n C dX3_orElse_0 rfl ?_
  refine j_callSx C (c_wantSeat_x l hl E A hbx) ok_X3_wantSeat w_272 (by decide) rfl rfl (Nat.le_of_ble_eq_true rfl) ⟨Nat.le_of_ble_eq_true rfl, Nat.le_of_ble_eq_true rfl⟩ dX3_orElse_1 ?_
  exact j_xout C hQ ⟨Nat.le_of_ble_eq_true rfl, Nat.le_of_ble_eq_true rfl⟩ ⟨rfl, rfl⟩
set_option maxHeartbeats 4000000 in
set_option maxRecDepth 100000 in
theorem f_orElse_b2 (l : Launch) (hl : l.stackTraces = false) (E : jE) (A : Nat → Prop) {t sz sg la dk : Nat} {z g b : Nat → Int32} {cr ca cg ck : Int32} {rest : va_W} {i : Nat} {y : Int32} (hi : i < 9) (hby : y < 0 ∨ nI 9 ≤ y)  : jMet l yX3_orElse cX3_orElse 3 (some (.object "java/lang/String")) 10 28 900 E A [.ref dk, .int (nI i), .int y] (dW E t sz sg la dk z g b cr ca cg ck rest) jNv (jT jIO (dW E t sz sg la dk z g b cr ca cg ck rest)) := by
  refine jMet.intro' [(0, .ref dk), (1, .int (nI i)), (2, .int y)] (by decide) (Nat.le_of_ble_eq_true rfl) rfl ?_
  intro p e R s m args below meth c Q C hQ
  refine j_iload_n C dX3_orElse_0 rfl ?_
  refine j_callSv C (w := (dW E t sz sg la dk z g b cr ca cg ck rest)) (c_wantSeat_r l E A (by omega)) ok_X3_wantSeat w_272 (by decide) rfl rfl (Nat.le_of_ble_eq_true rfl) ⟨Nat.le_of_ble_eq_true rfl, Nat.le_of_ble_eq_true rfl⟩ dX3_orElse_1 ?_
  refine j_iload_n C dX3_orElse_4 rfl ?_
  refine j_callSx C (c_wantSeat_x l hl E A hby) ok_X3_wantSeat w_272 (by decide) rfl rfl (Nat.le_of_ble_eq_true rfl) ⟨Nat.le_of_ble_eq_true rfl, Nat.le_of_ble_eq_true rfl⟩ dX3_orElse_5 ?_
  exact j_xout C hQ ⟨Nat.le_of_ble_eq_true rfl, Nat.le_of_ble_eq_true rfl⟩ ⟨rfl, rfl⟩
set_option maxHeartbeats 4000000 in
set_option maxRecDepth 100000 in
theorem f_orGiven_k1 (l : Launch) (E : jE) (A : Nat → Prop) {t sz sg la dk : Nat} {z g b : Nat → Int32} {cr ca cg ck : Int32} {rest : va_W} {i n : Nat} (hi : i < 9) (hn : n ≤ 24) (hz : z i = nI n) (hs : ∀ k, k < n → isSg (g (i * 24 + k))) {j : Nat} (hj : j < 9)  : jMet l yX3_orGiven cX3_orGiven 3 (some (.object "java/lang/String")) 10 28 900 E A [.ref dk, .int (nI i), .int (nI j)] (dW E t sz sg la dk z g b cr ca cg ck rest) (fun vv ww => ∃ (aa : Nat) (bb : Nat → Int32), vv = some (.ref aa) ∧ ww = (dW E t sz sg la dk z g bb cr ca cg ck rest)) jNo := by
  refine jMet.intro' [(0, .ref dk), (1, .int (nI i)), (2, .int (nI j))] (by decide) (Nat.le_of_ble_eq_true rfl) rfl ?_
  intro p e R s m args below meth c Q C hQ
  refine j_iload_n C dX3_orGiven_0 rfl ?_
  refine j_callSv C (w := (dW E t sz sg la dk z g b cr ca cg ck rest)) (c_wantSeat_r l E A (by omega)) ok_X3_wantSeat w_272 (by decide) rfl rfl (Nat.le_of_ble_eq_true rfl) ⟨Nat.le_of_ble_eq_true rfl, Nat.le_of_ble_eq_true rfl⟩ dX3_orGiven_1 ?_
  refine j_iload_n C dX3_orGiven_4 rfl ?_
  refine j_callSv C (w := (dW E t sz sg la dk z g b cr ca cg ck rest)) (c_wantSeat_r l E A (by omega)) ok_X3_wantSeat w_272 (by decide) rfl rfl (Nat.le_of_ble_eq_true rfl) ⟨Nat.le_of_ble_eq_true rfl, Nat.le_of_ble_eq_true rfl⟩ dX3_orGiven_5 ?_
  refine j_aload_n C dX3_orGiven_8 rfl ?_
  refine j_get C 4 rfl inj_X3 rfl 0 (by decide) w_73 rfl dX3_orGiven_9 ?_
  refine j_iload_n C dX3_orGiven_12 rfl ?_
  refine j_callVr C 0 (v := .int (bI (z i = -1))) (w := (dW E t sz sg la dk z g b cr ca cg ck rest)) (c_isAway l E A (by omega)) ok_X2_isAway w_369 (by decide) rfl rfl (Nat.le_of_ble_eq_true rfl) rfl rfl ⟨Nat.le_of_ble_eq_true rfl, Nat.le_of_ble_eq_true rfl⟩ dX3_orGiven_13 ?_
  refine j_ifb_eq_t (tgt := 29) C dX3_orGiven_16 (by decide) (by rw [hz]; exact nI_ne_m (by omega)) ?_
  refine j_aload_n C dX3_orGiven_29 rfl ?_
  refine j_iload_n C dX3_orGiven_30 rfl ?_
  refine j_iload_n C dX3_orGiven_31 rfl ?_
  refine j_callV C (q0 := 4) (c_spellEither_k1 l E A hi hn hz hs hj) ok_X3_spellEither w_860 (by decide) rfl rfl (Nat.le_of_ble_eq_true rfl) rfl rfl ⟨Nat.le_of_ble_eq_true rfl, Nat.le_of_ble_eq_true rfl⟩ dX3_orGiven_32 (fun _ _ h => h.elim) (fun _ _ h => ?_)
  obtain ⟨aa1, bb2, rfl, rfl⟩ := h
  exact j_aret C hQ rfl (Or.inl ⟨_, rfl⟩) dX3_orGiven_35 ⟨Nat.le_of_ble_eq_true rfl, Nat.le_of_ble_eq_true rfl⟩ ⟨_, _, rfl, rfl⟩
set_option maxHeartbeats 4000000 in
set_option maxRecDepth 100000 in
theorem f_orGiven_k2 (l : Launch) (E : jE) (A : Nat → Prop) {t sz sg la dk : Nat} {z g b : Nat → Int32} {cr ca cg ck : Int32} {rest : va_W} {i : Nat} (hi : i < 9) (hz : z i = -1) {j o : Nat} (hj : j < 9) (ho : o ≤ 24) (hzj : z j = nI o) (hsj : ∀ k, k < o → isSg (g (j * 24 + k)))  : jMet l yX3_orGiven cX3_orGiven 3 (some (.object "java/lang/String")) 10 28 900 E A [.ref dk, .int (nI i), .int (nI j)] (dW E t sz sg la dk z g b cr ca cg ck rest) (fun vv ww => ∃ (aa : Nat) (bb : Nat → Int32), vv = some (.ref aa) ∧ ww = (dW E t sz sg la dk z g bb cr ca (cg + nI 1) ck rest)) jNo := by
  refine jMet.intro' [(0, .ref dk), (1, .int (nI i)), (2, .int (nI j))] (by decide) (Nat.le_of_ble_eq_true rfl) rfl ?_
  intro p e R s m args below meth c Q C hQ
  refine j_iload_n C dX3_orGiven_0 rfl ?_
  refine j_callSv C (w := (dW E t sz sg la dk z g b cr ca cg ck rest)) (c_wantSeat_r l E A (by omega)) ok_X3_wantSeat w_272 (by decide) rfl rfl (Nat.le_of_ble_eq_true rfl) ⟨Nat.le_of_ble_eq_true rfl, Nat.le_of_ble_eq_true rfl⟩ dX3_orGiven_1 ?_
  refine j_iload_n C dX3_orGiven_4 rfl ?_
  refine j_callSv C (w := (dW E t sz sg la dk z g b cr ca cg ck rest)) (c_wantSeat_r l E A (by omega)) ok_X3_wantSeat w_272 (by decide) rfl rfl (Nat.le_of_ble_eq_true rfl) ⟨Nat.le_of_ble_eq_true rfl, Nat.le_of_ble_eq_true rfl⟩ dX3_orGiven_5 ?_
  refine j_aload_n C dX3_orGiven_8 rfl ?_
  refine j_get C 4 rfl inj_X3 rfl 0 (by decide) w_73 rfl dX3_orGiven_9 ?_
  refine j_iload_n C dX3_orGiven_12 rfl ?_
  refine j_callVr C 0 (v := .int (bI (z i = -1))) (w := (dW E t sz sg la dk z g b cr ca cg ck rest)) (c_isAway l E A (by omega)) ok_X2_isAway w_369 (by decide) rfl rfl (Nat.le_of_ble_eq_true rfl) rfl rfl ⟨Nat.le_of_ble_eq_true rfl, Nat.le_of_ble_eq_true rfl⟩ dX3_orGiven_13 ?_
  refine j_ifb_eq_f (tgt := 29) C dX3_orGiven_16 (by decide) hz ?_
  refine j_aload_n C dX3_orGiven_19 rfl ?_
  refine j_dup C dX3_orGiven_20 rfl ?_
  refine j_get C 4 rfl inj_X3 rfl 3 (by decide) w_76 rfl dX3_orGiven_21 ?_
  refine j_iconst (v := (nI 1)) C dX3_orGiven_24 rfl ?_
  refine j_iadd (z := (cg + (nI 1))) C dX3_orGiven_25 rfl ?_
  refine j_put (ws' := (dW E t sz sg la dk z g b cr ca (cg + (nI 1)) ck rest)) C 4 rfl inj_X3 tyX3 tyX3_ok nmX3 rfl 3 (by decide) w_76 rfl (tyX3_ok 3 (by decide)) rfl rfl (Nat.le_of_ble_eq_true rfl) dX3_orGiven_26 rfl ?_
  refine j_aload_n C dX3_orGiven_29 rfl ?_
  refine j_iload_n C dX3_orGiven_30 rfl ?_
  refine j_iload_n C dX3_orGiven_31 rfl ?_
  refine j_callV C (q0 := 4) (c_spellEither_k2 l E A hi hz hj ho hzj hsj) ok_X3_spellEither w_860 (by decide) rfl rfl (Nat.le_of_ble_eq_true rfl) rfl rfl ⟨Nat.le_of_ble_eq_true rfl, Nat.le_of_ble_eq_true rfl⟩ dX3_orGiven_32 (fun _ _ h => h.elim) (fun _ _ h => ?_)
  obtain ⟨aa1, bb2, rfl, rfl⟩ := h
  exact j_aret C hQ rfl (Or.inl ⟨_, rfl⟩) dX3_orGiven_35 ⟨Nat.le_of_ble_eq_true rfl, Nat.le_of_ble_eq_true rfl⟩ ⟨_, _, rfl, rfl⟩
set_option maxHeartbeats 4000000 in
set_option maxRecDepth 100000 in
theorem f_orGiven_m (l : Launch) (E : jE) (A : Nat → Prop) {t sz sg la dk : Nat} {z g b : Nat → Int32} {cr ca cg ck : Int32} {rest : va_W} {i : Nat} (hi : i < 9) (hz : z i = -1) {j : Nat} (hj : j < 9) (hzj : z j = -1)  : jMet l yX3_orGiven cX3_orGiven 3 (some (.object "java/lang/String")) 10 28 900 E A [.ref dk, .int (nI i), .int (nI j)] (dW E t sz sg la dk z g b cr ca cg ck rest) (fun vv ww => ∃ (aa : Nat) (bb : Nat → Int32), vv = some (.ref aa) ∧ ww = (dW E t sz sg la dk z g bb (cr + nI 1) ca (cg + nI 1) ck rest)) jNo := by
  refine jMet.intro' [(0, .ref dk), (1, .int (nI i)), (2, .int (nI j))] (by decide) (Nat.le_of_ble_eq_true rfl) rfl ?_
  intro p e R s m args below meth c Q C hQ
  refine j_iload_n C dX3_orGiven_0 rfl ?_
  refine j_callSv C (w := (dW E t sz sg la dk z g b cr ca cg ck rest)) (c_wantSeat_r l E A (by omega)) ok_X3_wantSeat w_272 (by decide) rfl rfl (Nat.le_of_ble_eq_true rfl) ⟨Nat.le_of_ble_eq_true rfl, Nat.le_of_ble_eq_true rfl⟩ dX3_orGiven_1 ?_
  refine j_iload_n C dX3_orGiven_4 rfl ?_
  refine j_callSv C (w := (dW E t sz sg la dk z g b cr ca cg ck rest)) (c_wantSeat_r l E A (by omega)) ok_X3_wantSeat w_272 (by decide) rfl rfl (Nat.le_of_ble_eq_true rfl) ⟨Nat.le_of_ble_eq_true rfl, Nat.le_of_ble_eq_true rfl⟩ dX3_orGiven_5 ?_
  refine j_aload_n C dX3_orGiven_8 rfl ?_
  refine j_get C 4 rfl inj_X3 rfl 0 (by decide) w_73 rfl dX3_orGiven_9 ?_
  refine j_iload_n C dX3_orGiven_12 rfl ?_
  refine j_callVr C 0 (v := .int (bI (z i = -1))) (w := (dW E t sz sg la dk z g b cr ca cg ck rest)) (c_isAway l E A (by omega)) ok_X2_isAway w_369 (by decide) rfl rfl (Nat.le_of_ble_eq_true rfl) rfl rfl ⟨Nat.le_of_ble_eq_true rfl, Nat.le_of_ble_eq_true rfl⟩ dX3_orGiven_13 ?_
  refine j_ifb_eq_f (tgt := 29) C dX3_orGiven_16 (by decide) hz ?_
  refine j_aload_n C dX3_orGiven_19 rfl ?_
  refine j_dup C dX3_orGiven_20 rfl ?_
  refine j_get C 4 rfl inj_X3 rfl 3 (by decide) w_76 rfl dX3_orGiven_21 ?_
  refine j_iconst (v := (nI 1)) C dX3_orGiven_24 rfl ?_
  refine j_iadd (z := (cg + (nI 1))) C dX3_orGiven_25 rfl ?_
  refine j_put (ws' := (dW E t sz sg la dk z g b cr ca (cg + (nI 1)) ck rest)) C 4 rfl inj_X3 tyX3 tyX3_ok nmX3 rfl 3 (by decide) w_76 rfl (tyX3_ok 3 (by decide)) rfl rfl (Nat.le_of_ble_eq_true rfl) dX3_orGiven_26 rfl ?_
  refine j_aload_n C dX3_orGiven_29 rfl ?_
  refine j_iload_n C dX3_orGiven_30 rfl ?_
  refine j_iload_n C dX3_orGiven_31 rfl ?_
  refine j_callV C (q0 := 4) (c_spellEither_m l E A hi hz hj hzj) ok_X3_spellEither w_860 (by decide) rfl rfl (Nat.le_of_ble_eq_true rfl) rfl rfl ⟨Nat.le_of_ble_eq_true rfl, Nat.le_of_ble_eq_true rfl⟩ dX3_orGiven_32 (fun _ _ h => h.elim) (fun _ _ h => ?_)
  obtain ⟨aa1, bb2, rfl, rfl⟩ := h
  exact j_aret C hQ rfl (Or.inl ⟨_, rfl⟩) dX3_orGiven_35 ⟨Nat.le_of_ble_eq_true rfl, Nat.le_of_ble_eq_true rfl⟩ ⟨_, _, rfl, rfl⟩
set_option maxHeartbeats 4000000 in
set_option maxRecDepth 100000 in
theorem f_orGiven_b1 (l : Launch) (hl : l.stackTraces = false) (E : jE) (A : Nat → Prop) {t sz sg la dk : Nat} {z g b : Nat → Int32} {cr ca cg ck : Int32} {rest : va_W} {x y : Int32} (hbx : x < 0 ∨ nI 9 ≤ x)  : jMet l yX3_orGiven cX3_orGiven 3 (some (.object "java/lang/String")) 10 28 900 E A [.ref dk, .int x, .int y] (dW E t sz sg la dk z g b cr ca cg ck rest) jNv (jT jIO (dW E t sz sg la dk z g b cr ca cg ck rest)) := by
  refine jMet.intro' [(0, .ref dk), (1, .int x), (2, .int y)] (by decide) (Nat.le_of_ble_eq_true rfl) rfl ?_
  intro p e R s m args below meth c Q C hQ
  refine j_iload_n C dX3_orGiven_0 rfl ?_
  refine j_callSx C (c_wantSeat_x l hl E A hbx) ok_X3_wantSeat w_272 (by decide) rfl rfl (Nat.le_of_ble_eq_true rfl) ⟨Nat.le_of_ble_eq_true rfl, Nat.le_of_ble_eq_true rfl⟩ dX3_orGiven_1 ?_
  exact j_xout C hQ ⟨Nat.le_of_ble_eq_true rfl, Nat.le_of_ble_eq_true rfl⟩ ⟨rfl, rfl⟩
set_option maxHeartbeats 4000000 in
set_option maxRecDepth 100000 in
theorem f_orGiven_b2 (l : Launch) (hl : l.stackTraces = false) (E : jE) (A : Nat → Prop) {t sz sg la dk : Nat} {z g b : Nat → Int32} {cr ca cg ck : Int32} {rest : va_W} {i : Nat} {y : Int32} (hi : i < 9) (hby : y < 0 ∨ nI 9 ≤ y)  : jMet l yX3_orGiven cX3_orGiven 3 (some (.object "java/lang/String")) 10 28 900 E A [.ref dk, .int (nI i), .int y] (dW E t sz sg la dk z g b cr ca cg ck rest) jNv (jT jIO (dW E t sz sg la dk z g b cr ca cg ck rest)) := by
  refine jMet.intro' [(0, .ref dk), (1, .int (nI i)), (2, .int y)] (by decide) (Nat.le_of_ble_eq_true rfl) rfl ?_
  intro p e R s m args below meth c Q C hQ
  refine j_iload_n C dX3_orGiven_0 rfl ?_
  refine j_callSv C (w := (dW E t sz sg la dk z g b cr ca cg ck rest)) (c_wantSeat_r l E A (by omega)) ok_X3_wantSeat w_272 (by decide) rfl rfl (Nat.le_of_ble_eq_true rfl) ⟨Nat.le_of_ble_eq_true rfl, Nat.le_of_ble_eq_true rfl⟩ dX3_orGiven_1 ?_
  refine j_iload_n C dX3_orGiven_4 rfl ?_
  refine j_callSx C (c_wantSeat_x l hl E A hby) ok_X3_wantSeat w_272 (by decide) rfl rfl (Nat.le_of_ble_eq_true rfl) ⟨Nat.le_of_ble_eq_true rfl, Nat.le_of_ble_eq_true rfl⟩ dX3_orGiven_5 ?_
  exact j_xout C hQ ⟨Nat.le_of_ble_eq_true rfl, Nat.le_of_ble_eq_true rfl⟩ ⟨rfl, rfl⟩
