/-! contracts, laid by program (wip/gen) -/
set_option maxHeartbeats 4000000 in
set_option maxRecDepth 100000 in
theorem c_smaller (l : Launch) (E : jE) (A : Nat → Prop) {ws : va_W} {x y : Int32} : jMet l yX2_smaller cX2_smaller 2 (some .int) 0 0 0 E A [.int x, .int y] ws (jR (some (.int (smI x y))) ws) jNo := by
  refine jMet.intro' [(0, .int x), (1, .int y)] (by decide) (Nat.le_of_ble_eq_true rfl) rfl ?_
  intro p e R s m args below meth c Q C hQ
  refine j_iload_n C dX2_smaller_0 rfl ?_
  refine j_iload_n C dX2_smaller_1 rfl ?_
  refine j_icmp_ge (tgt := 9) C dX2_smaller_2 (by decide) (fun h2 => ?_) (fun h2 => ?_)
  · skip
    refine j_iload_n C dX2_smaller_9 rfl ?_
    refine j_iload_n C dX2_smaller_10 rfl ?_
    refine j_icmp_le (tgt := 18) C dX2_smaller_11 (by decide) (fun h11 => ?_) (fun h11 => ?_)
    · skip
      refine j_iconst (v := (nI 0)) C dX2_smaller_18 rfl ?_
      exact j_iret C hQ rfl dX2_smaller_19 ⟨Nat.le_of_ble_eq_true rfl, Nat.le_of_ble_eq_true rfl⟩ ⟨by rw [smI, if_neg (Int32.not_lt.mpr h2), if_neg (Int32.not_lt.mpr h11)]; rfl, rfl⟩
    · skip
      refine j_iconst (v := (nI 1)) C dX2_smaller_14 rfl ?_
      refine j_goto (tgt := 19) C dX2_smaller_15 (by decide) ?_
      exact j_iret C hQ rfl dX2_smaller_19 ⟨Nat.le_of_ble_eq_true rfl, Nat.le_of_ble_eq_true rfl⟩ ⟨by rw [smI, if_neg (Int32.not_lt.mpr h2), if_pos (Int32.not_le.mp h11)]; rfl, rfl⟩
  · skip
    refine j_iconst (v := (-1)) C dX2_smaller_5 rfl ?_
    refine j_goto (tgt := 19) C dX2_smaller_6 (by decide) ?_
    exact j_iret C hQ rfl dX2_smaller_19 ⟨Nat.le_of_ble_eq_true rfl, Nat.le_of_ble_eq_true rfl⟩ ⟨by rw [smI, if_pos (Int32.not_le.mp h2)], rfl⟩
set_option maxHeartbeats 4000000 in
set_option maxRecDepth 100000 in
theorem c_lay (l : Launch) (E : jE) (A : Nat → Prop) {t sz sg la : Nat} {z g b : Nat → Int32} {rest : va_W} {i a v : Nat} (hi : i < 9) (ha : a ≤ v) (hc : v ≤ 24) : jMet l yX2_lay cX2_lay 6 (some .int) 1 0 0 E A [.ref t, .int (nI i), .int (nI a), .int (nI v)] (tW E t sz sg la z g b rest) (jR (some (.int (nI (v - a)))) (tW E t sz sg la z g (jput b (fun q => g (i * 24 + (a + q))) 0 (v - a)) rest)) jNo := by
  refine jMet.intro' [(0, .ref t), (1, .int (nI i)), (2, .int (nI a)), (3, .int (nI v))] (by decide) (Nat.le_of_ble_eq_true rfl) rfl ?_
  intro p e R s m args below meth c Q C hQ
  refine j_iconst (v := (nI 0)) C dX2_lay_0 rfl ?_
  refine j_istore (lv' := [(4, .int (nI 0)), (0, .ref t), (1, .int (nI i)), (2, .int (nI a)), (3, .int (nI v))]) C dX2_lay_1 (by decide) rfl ?_
  refine j_iload_n C dX2_lay_3 rfl ?_
  refine j_istore (lv' := [(5, .int (nI a)), (4, .int (nI 0)), (0, .ref t), (1, .int (nI i)), (2, .int (nI a)), (3, .int (nI v))]) C dX2_lay_4 (by decide) rfl ?_
  have L6 : ∀ (r k : Nat), k + r = v - a → jJ p l e R s m args below meth c E A 6 Q 0 0 6 [(5, .int (nI (a + k))), (4, .int (nI k)), (0, .ref t), (1, .int (nI i)), (2, .int (nI a)), (3, .int (nI v))] [] (tW E t sz sg la z g (jput b (fun q => g (i * 24 + (a + q))) 0 k) rest) := by
    intro r
    induction r with
    | zero =>
      intro k  hk6 
      refine j_iload C dX2_lay_6 rfl ?_
      refine j_iload_n C dX2_lay_8 rfl ?_
      refine j_icmpn_ge_t (tgt := 35) C dX2_lay_9 (by decide) (by omega) (by omega) (by omega) ?_
      have ek : v - a = k := by omega
      subst ek
      refine j_iload C dX2_lay_35 rfl ?_
      exact j_iret C hQ rfl dX2_lay_37 ⟨Nat.le_of_ble_eq_true rfl, Nat.le_of_ble_eq_true rfl⟩ ⟨rfl, rfl⟩
    | succ r ih6 =>
      intro k  hk6 
      refine j_iload C dX2_lay_6 rfl ?_
      refine j_iload_n C dX2_lay_8 rfl ?_
      refine j_icmpn_ge_f (tgt := 35) C dX2_lay_9 (by decide) (by omega) (by omega) (by omega) ?_
      refine j_aload_n C dX2_lay_12 rfl ?_
      refine j_get C 0 rfl inj_X2 rfl 2 (by decide) w_64 rfl dX2_lay_13 ?_
      refine j_iload C dX2_lay_16 rfl ?_
      refine j_aload_n C dX2_lay_18 rfl ?_
      refine j_iload_n C dX2_lay_19 rfl ?_
      refine j_iload C dX2_lay_20 rfl ?_
      refine j_callVr C 0 (v := .int (g (i * 24 + (a + k)))) (w := (tW E t sz sg la z g (jput b (fun q => g (i * 24 + (a + q))) 0 k) rest)) (c_sign l E A (by omega) (by omega)) ok_X2_sign w_166 (by decide) rfl rfl (Nat.le_of_ble_eq_true rfl) rfl rfl ⟨Nat.le_of_ble_eq_true rfl, Nat.le_of_ble_eq_true rfl⟩ dX2_lay_22 ?_
      refine j_iastore (ws' := (tW E t sz sg la z g (jput b (fun q => g (i * 24 + (a + q))) 0 (k + 1)) rest)) C 3 k rfl rfl (by omega) (by first | decide | omega) dX2_lay_25 (by rw [← jput_s0]; rfl) ?_
      refine j_iinc (lv' := [(4, .int (nI (k + 1))), (5, .int (nI (a + k))), (0, .ref t), (1, .int (nI i)), (2, .int (nI a)), (3, .int (nI v))]) C dX2_lay_26 rfl (nI_1 _) (by decide) rfl ?_
      refine j_iinc (lv' := [(5, .int (nI (a + (k + 1)))), (4, .int (nI (k + 1))), (0, .ref t), (1, .int (nI i)), (2, .int (nI a)), (3, .int (nI v))]) C dX2_lay_29 rfl (nI_1 _) (by decide) rfl ?_
      refine j_goto (tgt := 6) C dX2_lay_32 (by decide) ?_
      refine j_lv (lv' := [(5, .int (nI (a + (k + 1)))), (4, .int (nI (k + 1))), (0, .ref t), (1, .int (nI i)), (2, .int (nI a)), (3, .int (nI v))]) (by simp only [List.mem_cons, List.not_mem_nil, or_false, forall_eq_or_imp, forall_eq, true_or, or_true, and_self, Nat.add_zero]) ?_
      exact ih6 (k + 1) (by omega)
  refine j_lv (lv' := [(5, .int (nI (a + 0))), (4, .int (nI 0)), (0, .ref t), (1, .int (nI i)), (2, .int (nI a)), (3, .int (nI v))]) (by simp only [List.mem_cons, List.not_mem_nil, or_false, forall_eq_or_imp, forall_eq, true_or, or_true, and_self, Nat.add_zero]) ?_
  refine j_eq (ws' := (tW E t sz sg la z g (jput b (fun q => g (i * 24 + (a + q))) 0 0) rest)) rfl rfl (by rw [jput_0]) ?_
  exact L6 (v - a) 0 (by omega)
set_option maxHeartbeats 4000000 in
set_option maxRecDepth 100000 in
theorem c_keep (l : Launch) (E : jE) (A : Nat → Prop) {t sz sg la : Nat} {z g b : Nat → Int32} {rest : va_W} {i a v : Nat} (hi : i < 9) (ha : a ≤ v) (hc : v ≤ 24) : jMet l yX2_keep cX2_keep 6 (some .int) 2 0 0 E A [.ref t, .int (nI i), .int (nI a), .int (nI v)] (tW E t sz sg la z g b rest) (jR (some (.int (nI (v - a)))) (tW E t sz sg la (upd z i (nI (v - a))) (jput g (jput b (fun q => g (i * 24 + (a + q))) 0 (v - a)) (i * 24) (v - a)) (jput b (fun q => g (i * 24 + (a + q))) 0 (v - a)) rest)) jNo := by
  refine jMet.intro' [(0, .ref t), (1, .int (nI i)), (2, .int (nI a)), (3, .int (nI v))] (by decide) (Nat.le_of_ble_eq_true rfl) rfl ?_
  intro p e R s m args below meth c Q C hQ
  refine j_aload_n C dX2_keep_0 rfl ?_
  refine j_iload_n C dX2_keep_1 rfl ?_
  refine j_iload_n C dX2_keep_2 rfl ?_
  refine j_iload_n C dX2_keep_3 rfl ?_
  refine j_callVr C 0 (v := .int (nI (v - a))) (w := (tW E t sz sg la z g (jput b (fun q => g (i * 24 + (a + q))) 0 (v - a)) rest)) (c_lay l E A (by omega) (by omega) (by omega)) ok_X2_lay w_425 (by decide) rfl rfl (Nat.le_of_ble_eq_true rfl) rfl rfl ⟨Nat.le_of_ble_eq_true rfl, Nat.le_of_ble_eq_true rfl⟩ dX2_keep_4 ?_
  refine j_istore (lv' := [(4, .int (nI (v - a))), (0, .ref t), (1, .int (nI i)), (2, .int (nI a)), (3, .int (nI v))]) C dX2_keep_7 (by decide) rfl ?_
  refine j_iconst (v := (nI 0)) C dX2_keep_9 rfl ?_
  refine j_istore (lv' := [(5, .int (nI 0)), (4, .int (nI (v - a))), (0, .ref t), (1, .int (nI i)), (2, .int (nI a)), (3, .int (nI v))]) C dX2_keep_10 (by decide) rfl ?_
  have L12 : ∀ (r k : Nat), k + r = v - a → jJ p l e R s m args below meth c E A 6 Q 0 0 12 [(5, .int (nI k)), (4, .int (nI (v - a))), (0, .ref t), (1, .int (nI i)), (2, .int (nI a)), (3, .int (nI v))] [] (tW E t sz sg la z (jput g (jput b (fun q => g (i * 24 + (a + q))) 0 (v - a)) (i * 24) k) (jput b (fun q => g (i * 24 + (a + q))) 0 (v - a)) rest) := by
    intro r
    induction r with
    | zero =>
      intro k  hk12 
      refine j_iload C dX2_keep_12 rfl ?_
      refine j_iload C dX2_keep_14 rfl ?_
      refine j_icmpn_ge_t (tgt := 39) C dX2_keep_16 (by decide) (by omega) (by omega) (by omega) ?_
      have ek : v - a = k := by omega
      subst ek
      refine j_aload_n C dX2_keep_39 rfl ?_
      refine j_get C 0 rfl inj_X2 rfl 0 (by decide) w_62 rfl dX2_keep_40 ?_
      refine j_iload_n C dX2_keep_43 rfl ?_
      refine j_iload C dX2_keep_44 rfl ?_
      refine j_iastore (ws' := (tW E t sz sg la (upd z i (nI (v - a))) (jput g (jput b (fun q => g (i * 24 + (a + q))) 0 (v - a)) (i * 24) (v - a)) (jput b (fun q => g (i * 24 + (a + q))) 0 (v - a)) rest)) C 1 i rfl rfl (by omega) (by first | decide | omega) dX2_keep_46 rfl ?_
      refine j_iload C dX2_keep_47 rfl ?_
      exact j_iret C hQ rfl dX2_keep_49 ⟨Nat.le_of_ble_eq_true rfl, Nat.le_of_ble_eq_true rfl⟩ ⟨rfl, rfl⟩
    | succ r ih12 =>
      intro k  hk12 
      refine j_iload C dX2_keep_12 rfl ?_
      refine j_iload C dX2_keep_14 rfl ?_
      refine j_icmpn_ge_f (tgt := 39) C dX2_keep_16 (by decide) (by omega) (by omega) (by omega) ?_
      refine j_aload_n C dX2_keep_19 rfl ?_
      refine j_iload_n C dX2_keep_20 rfl ?_
      refine j_iload C dX2_keep_21 rfl ?_
      refine j_aload_n C dX2_keep_23 rfl ?_
      refine j_get C 0 rfl inj_X2 rfl 2 (by decide) w_64 rfl dX2_keep_24 ?_
      refine j_iload C dX2_keep_27 rfl ?_
      refine j_iaload (z := ((jput b (fun q => g (i * 24 + (a + q))) 0 (v - a)) k)) C 3 k rfl rfl (by omega) (by first | decide | omega) rfl dX2_keep_29 ?_
      refine j_callVv C 0 (w := (tW E t sz sg la z (upd (jput g (jput b (fun q => g (i * 24 + (a + q))) 0 (v - a)) (i * 24) k) (i * 24 + k) ((jput b (fun q => g (i * 24 + (a + q))) 0 (v - a)) k)) (jput b (fun q => g (i * 24 + (a + q))) 0 (v - a)) rest)) (c_change l E A (by omega) (by omega)) ok_X2_change w_395 (by decide) rfl rfl (Nat.le_of_ble_eq_true rfl) rfl rfl ⟨Nat.le_of_ble_eq_true rfl, Nat.le_of_ble_eq_true rfl⟩ dX2_keep_30 ?_
      refine j_eq (ws' := (tW E t sz sg la z (jput g (jput b (fun q => g (i * 24 + (a + q))) 0 (v - a)) (i * 24) (k + 1)) (jput b (fun q => g (i * 24 + (a + q))) 0 (v - a)) rest)) rfl rfl (by rw [jput_s]) ?_
      refine j_iinc (lv' := [(5, .int (nI (k + 1))), (4, .int (nI (v - a))), (0, .ref t), (1, .int (nI i)), (2, .int (nI a)), (3, .int (nI v))]) C dX2_keep_33 rfl (nI_1 _) (by decide) rfl ?_
      refine j_goto (tgt := 12) C dX2_keep_36 (by decide) ?_
      refine j_lv (lv' := [(5, .int (nI (k + 1))), (4, .int (nI (v - a))), (0, .ref t), (1, .int (nI i)), (2, .int (nI a)), (3, .int (nI v))]) (by simp only [List.mem_cons, List.not_mem_nil, or_false, forall_eq_or_imp, forall_eq, true_or, or_true, and_self, Nat.add_zero]) ?_
      exact ih12 (k + 1) (by omega)
  refine j_lv (lv' := [(5, .int (nI 0)), (4, .int (nI (v - a))), (0, .ref t), (1, .int (nI i)), (2, .int (nI a)), (3, .int (nI v))]) (by simp only [List.mem_cons, List.not_mem_nil, or_false, forall_eq_or_imp, forall_eq, true_or, or_true, and_self, Nat.add_zero]) ?_
  refine j_eq (ws' := (tW E t sz sg la z (jput g (jput b (fun q => g (i * 24 + (a + q))) 0 (v - a)) (i * 24) 0) (jput b (fun q => g (i * 24 + (a + q))) 0 (v - a)) rest)) rfl rfl (by rw [jput_0]) ?_
  exact L12 (v - a) 0 (by omega)
set_option maxHeartbeats 4000000 in
set_option maxRecDepth 100000 in
theorem c_become_n (l : Launch) (E : jE) (A : Nat → Prop) {t sz sg la : Nat} {z g b : Nat → Int32} {rest : va_W} {i j n : Nat} (hi : i < 9) (hj : j < 9) (hz : z j = nI n) (hn : n ≤ 24) : jMet l yX2_become cX2_become 4 (none : Option Jvm.ClassFile.FieldType) 1 0 0 E A [.ref t, .int (nI i), .int (nI j)] (tW E t sz sg la z g b rest) (jR none (tW E t sz sg la (upd z i (z j)) (jput g (fun q => g (j * 24 + q)) (i * 24) n) b rest)) jNo := by
  refine jMet.intro' [(0, .ref t), (1, .int (nI i)), (2, .int (nI j))] (by decide) (Nat.le_of_ble_eq_true rfl) rfl ?_
  intro p e R s m args below meth c Q C hQ
  refine j_iconst (v := (nI 0)) C dX2_become_0 rfl ?_
  refine j_istore_n (lv' := [(3, .int (nI 0)), (0, .ref t), (1, .int (nI i)), (2, .int (nI j))]) C dX2_become_1 (by decide) rfl ?_
  have L2 : ∀ (r k : Nat), k + r = n → jJ p l e R s m args below meth c E A 4 Q 0 0 2 [(3, .int (nI k)), (0, .ref t), (1, .int (nI i)), (2, .int (nI j))] [] (tW E t sz sg la z (jput g (fun q => g (j * 24 + q)) (i * 24) k) b rest) := by
    intro r
    induction r with
    | zero =>
      intro k  hk2 
      refine j_iload_n C dX2_become_2 rfl ?_
      refine j_aload_n C dX2_become_3 rfl ?_
      refine j_get C 0 rfl inj_X2 rfl 0 (by decide) w_62 rfl dX2_become_4 ?_
      refine j_iload_n C dX2_become_7 rfl ?_
      refine j_iaload (z := (nI n)) C 1 j rfl rfl (by omega) (by first | decide | omega) hz dX2_become_8 ?_
      refine j_icmpn_ge_t (tgt := 30) C dX2_become_9 (by decide) (by omega) (by omega) (by omega) ?_
      have ek : n = k := by omega
      subst ek
      refine j_aload_n C dX2_become_30 rfl ?_
      refine j_get C 0 rfl inj_X2 rfl 0 (by decide) w_62 rfl dX2_become_31 ?_
      refine j_iload_n C dX2_become_34 rfl ?_
      refine j_aload_n C dX2_become_35 rfl ?_
      refine j_get C 0 rfl inj_X2 rfl 0 (by decide) w_62 rfl dX2_become_36 ?_
      refine j_iload_n C dX2_become_39 rfl ?_
      refine j_iaload (z := (z j)) C 1 j rfl rfl (by omega) (by first | decide | omega) rfl dX2_become_40 ?_
      refine j_iastore (ws' := (tW E t sz sg la (upd z i (z j)) (jput g (fun q => g (j * 24 + q)) (i * 24) (n)) b rest)) C 1 i rfl rfl (by omega) (by first | decide | omega) dX2_become_41 rfl ?_
      exact j_vret C hQ rfl dX2_become_42 ⟨Nat.le_of_ble_eq_true rfl, Nat.le_of_ble_eq_true rfl⟩ ⟨rfl, rfl⟩
    | succ r ih2 =>
      intro k  hk2 
      refine j_iload_n C dX2_become_2 rfl ?_
      refine j_aload_n C dX2_become_3 rfl ?_
      refine j_get C 0 rfl inj_X2 rfl 0 (by decide) w_62 rfl dX2_become_4 ?_
      refine j_iload_n C dX2_become_7 rfl ?_
      refine j_iaload (z := (nI n)) C 1 j rfl rfl (by omega) (by first | decide | omega) hz dX2_become_8 ?_
      refine j_icmpn_ge_f (tgt := 30) C dX2_become_9 (by decide) (by omega) (by omega) (by omega) ?_
      refine j_aload_n C dX2_become_12 rfl ?_
      refine j_iload_n C dX2_become_13 rfl ?_
      refine j_iload_n C dX2_become_14 rfl ?_
      refine j_aload_n C dX2_become_15 rfl ?_
      refine j_iload_n C dX2_become_16 rfl ?_
      refine j_iload_n C dX2_become_17 rfl ?_
      refine j_callVr C 0 (v := .int ((jput g (fun q => g (j * 24 + q)) (i * 24) k) (j * 24 + k))) (w := (tW E t sz sg la z (jput g (fun q => g (j * 24 + q)) (i * 24) k) b rest)) (c_sign l E A (by omega) (by omega)) ok_X2_sign w_166 (by decide) rfl rfl (Nat.le_of_ble_eq_true rfl) rfl rfl ⟨Nat.le_of_ble_eq_true rfl, Nat.le_of_ble_eq_true rfl⟩ dX2_become_18 ?_
      refine j_callVv C 0 (w := (tW E t sz sg la z (upd (jput g (fun q => g (j * 24 + q)) (i * 24) k) (i * 24 + k) ((jput g (fun q => g (j * 24 + q)) (i * 24) k) (j * 24 + k))) b rest)) (c_change l E A (by omega) (by omega)) ok_X2_change w_395 (by decide) rfl rfl (Nat.le_of_ble_eq_true rfl) rfl rfl ⟨Nat.le_of_ble_eq_true rfl, Nat.le_of_ble_eq_true rfl⟩ dX2_become_21 ?_
      refine j_eq (ws' := (tW E t sz sg la z (jput g (fun q => g (j * 24 + q)) (i * 24) (k + 1)) b rest)) rfl rfl (by rw [jput_out (g := g) (h := (fun q => g (j * 24 + q))) (a := i * 24) (n := k) (j := j * 24 + k) (by omega)]; exact congrArg (fun w => tW E t sz sg la z w b rest) (jput_s g (fun q => g (j * 24 + q)) (i * 24) k)) ?_
      refine j_iinc (lv' := [(3, .int (nI (k + 1))), (0, .ref t), (1, .int (nI i)), (2, .int (nI j))]) C dX2_become_24 rfl (nI_1 _) (by decide) rfl ?_
      refine j_goto (tgt := 2) C dX2_become_27 (by decide) ?_
      refine j_lv (lv' := [(3, .int (nI (k + 1))), (0, .ref t), (1, .int (nI i)), (2, .int (nI j))]) (by simp only [List.mem_cons, List.not_mem_nil, or_false, forall_eq_or_imp, forall_eq, true_or, or_true, and_self, Nat.add_zero]) ?_
      exact ih2 (k + 1) (by omega)
  refine j_lv (lv' := [(3, .int (nI 0)), (0, .ref t), (1, .int (nI i)), (2, .int (nI j))]) (by simp only [List.mem_cons, List.not_mem_nil, or_false, forall_eq_or_imp, forall_eq, true_or, or_true, and_self, Nat.add_zero]) ?_
  refine j_eq (ws' := (tW E t sz sg la z (jput g (fun q => g (j * 24 + q)) (i * 24) 0) b rest)) rfl rfl (by rw [jput_0]) ?_
  exact L2 n 0 (by omega)
set_option maxHeartbeats 4000000 in
set_option maxRecDepth 100000 in
theorem c_become_m (l : Launch) (E : jE) (A : Nat → Prop) {t sz sg la : Nat} {z g b : Nat → Int32} {rest : va_W} {i j : Nat} (hi : i < 9) (hj : j < 9) (hz : z j = -1) : jMet l yX2_become cX2_become 4 (none : Option Jvm.ClassFile.FieldType) 1 0 0 E A [.ref t, .int (nI i), .int (nI j)] (tW E t sz sg la z g b rest) (jR none (tW E t sz sg la (upd z i (z j)) g b rest)) jNo := by
  refine jMet.intro' [(0, .ref t), (1, .int (nI i)), (2, .int (nI j))] (by decide) (Nat.le_of_ble_eq_true rfl) rfl ?_
  intro p e R s m args below meth c Q C hQ
  refine j_iconst (v := (nI 0)) C dX2_become_0 rfl ?_
  refine j_istore_n (lv' := [(3, .int (nI 0)), (0, .ref t), (1, .int (nI i)), (2, .int (nI j))]) C dX2_become_1 (by decide) rfl ?_
  refine j_iload_n C dX2_become_2 rfl ?_
  refine j_aload_n C dX2_become_3 rfl ?_
  refine j_get C 0 rfl inj_X2 rfl 0 (by decide) w_62 rfl dX2_become_4 ?_
  refine j_iload_n C dX2_become_7 rfl ?_
  refine j_iaload (z := (z j)) C 1 j rfl rfl (by omega) (by first | decide | omega) rfl dX2_become_8 ?_
  refine j_icmp_ge_t (tgt := 30) C dX2_become_9 (by decide) (by rw [hz]; decide) ?_
  refine j_aload_n C dX2_become_30 rfl ?_
  refine j_get C 0 rfl inj_X2 rfl 0 (by decide) w_62 rfl dX2_become_31 ?_
  refine j_iload_n C dX2_become_34 rfl ?_
  refine j_aload_n C dX2_become_35 rfl ?_
  refine j_get C 0 rfl inj_X2 rfl 0 (by decide) w_62 rfl dX2_become_36 ?_
  refine j_iload_n C dX2_become_39 rfl ?_
  refine j_iaload (z := (z j)) C 1 j rfl rfl (by omega) (by first | decide | omega) rfl dX2_become_40 ?_
  refine j_iastore (ws' := (tW E t sz sg la (upd z i (z j)) g b rest)) C 1 i rfl rfl (by omega) (by first | decide | omega) dX2_become_41 rfl ?_
  exact j_vret C hQ rfl dX2_become_42 ⟨Nat.le_of_ble_eq_true rfl, Nat.le_of_ble_eq_true rfl⟩ ⟨rfl, rfl⟩
set_option maxHeartbeats 4000000 in
set_option maxRecDepth 100000 in
theorem c_comparedFrom (l : Launch) (E : jE) (A : Nat → Prop) {t sz sg la : Nat} {z g b : Nat → Int32} {rest : va_W} {a i n j o : Nat} (hi : i < 9) (hj : j < 9) (hn : n ≤ 24) (hm : o ≤ 24) (han : a ≤ n) (ham : a ≤ o) : jMet l yX2_comparedFrom cX2_comparedFrom 9 (some .int) 1 0 0 E A [.ref t, .int (nI a), .int (nI i), .int (nI n), .int (nI j), .int (nI o)] (tW E t sz sg la z g b rest) (jR (some (.int (cmpF (fun q => g (i * 24 + q)) (fun q => g (j * 24 + q)) (smI (nI n) (nI o)) a (min n o - a)))) (tW E t sz sg la z g b rest)) jNo := by
  refine jMet.intro' [(0, .ref t), (1, .int (nI a)), (2, .int (nI i)), (3, .int (nI n)), (4, .int (nI j)), (5, .int (nI o))] (by decide) (Nat.le_of_ble_eq_true rfl) rfl ?_
  intro p e R s m args below meth c Q C hQ
  refine j_iload_n C dX2_comparedFrom_0 rfl ?_
  refine j_iload C dX2_comparedFrom_1 rfl ?_
  refine j_mmin (z := (nI (min n o))) C w_177 w_178 w_41 w_179 (Nat.le_of_ble_eq_true rfl) ⟨Nat.le_of_ble_eq_true rfl, Nat.le_of_ble_eq_true rfl⟩ dX2_comparedFrom_3 (nI_min (by omega) (by omega)) ?_
  refine j_istore (lv' := [(6, .int (nI (min n o))), (0, .ref t), (1, .int (nI a)), (2, .int (nI i)), (3, .int (nI n)), (4, .int (nI j)), (5, .int (nI o))]) C dX2_comparedFrom_6 (by decide) rfl ?_
  refine j_iload_n C dX2_comparedFrom_8 rfl ?_
  refine j_istore (lv' := [(7, .int (nI a)), (6, .int (nI (min n o))), (0, .ref t), (1, .int (nI a)), (2, .int (nI i)), (3, .int (nI n)), (4, .int (nI j)), (5, .int (nI o))]) C dX2_comparedFrom_9 (by decide) rfl ?_
  have L11 : ∀ (r k : Nat), k + r = min n o → cmpF (fun q => g (i * 24 + q)) (fun q => g (j * 24 + q)) (smI (nI n) (nI o)) a (min n o - a) = cmpF (fun q => g (i * 24 + q)) (fun q => g (j * 24 + q)) (smI (nI n) (nI o)) k r → jJ p l e R s m args below meth c E A 9 Q 0 0 11 [(7, .int (nI k)), (6, .int (nI (min n o))), (0, .ref t), (1, .int (nI a)), (2, .int (nI i)), (3, .int (nI n)), (4, .int (nI j)), (5, .int (nI o))] [] (tW E t sz sg la z g b rest) := by
    intro r
    induction r with
    | zero =>
      intro k  hk11 inv
      refine j_iload C dX2_comparedFrom_11 rfl ?_
      refine j_iload C dX2_comparedFrom_13 rfl ?_
      refine j_icmpn_ge_t (tgt := 52) C dX2_comparedFrom_15 (by decide) (by omega) (by omega) (by omega) ?_
      refine j_iload_n C dX2_comparedFrom_52 rfl ?_
      refine j_iload C dX2_comparedFrom_53 rfl ?_
      refine j_callSr C (v := .int (smI (nI n) (nI o))) (w := (tW E t sz sg la z g b rest)) (c_smaller l E A) ok_X2_smaller w_180 (by decide) rfl rfl (Nat.le_of_ble_eq_true rfl) ⟨Nat.le_of_ble_eq_true rfl, Nat.le_of_ble_eq_true rfl⟩ dX2_comparedFrom_55 ?_
      exact j_iret C hQ rfl dX2_comparedFrom_58 ⟨Nat.le_of_ble_eq_true rfl, Nat.le_of_ble_eq_true rfl⟩ ⟨congrArg (fun q => some (Value.int q)) inv.symm, rfl⟩
    | succ r ih11 =>
      intro k  hk11 inv
      refine j_iload C dX2_comparedFrom_11 rfl ?_
      refine j_iload C dX2_comparedFrom_13 rfl ?_
      refine j_icmpn_ge_f (tgt := 52) C dX2_comparedFrom_15 (by decide) (by omega) (by omega) (by omega) ?_
      refine j_aload_n C dX2_comparedFrom_18 rfl ?_
      refine j_iload_n C dX2_comparedFrom_19 rfl ?_
      refine j_iload C dX2_comparedFrom_20 rfl ?_
      refine j_callVr C 0 (v := .int (g (i * 24 + k))) (w := (tW E t sz sg la z g b rest)) (c_sign l E A (by omega) (by omega)) ok_X2_sign w_166 (by decide) rfl rfl (Nat.le_of_ble_eq_true rfl) rfl rfl ⟨Nat.le_of_ble_eq_true rfl, Nat.le_of_ble_eq_true rfl⟩ dX2_comparedFrom_22 ?_
      refine j_aload_n C dX2_comparedFrom_25 rfl ?_
      refine j_iload C dX2_comparedFrom_26 rfl ?_
      refine j_iload C dX2_comparedFrom_28 rfl ?_
      refine j_callVr C 0 (v := .int (g (j * 24 + k))) (w := (tW E t sz sg la z g b rest)) (c_sign l E A (by omega) (by omega)) ok_X2_sign w_166 (by decide) rfl rfl (Nat.le_of_ble_eq_true rfl) rfl rfl ⟨Nat.le_of_ble_eq_true rfl, Nat.le_of_ble_eq_true rfl⟩ dX2_comparedFrom_30 ?_
      refine j_callSr C (v := .int (smI (g (i * 24 + k)) (g (j * 24 + k)))) (w := (tW E t sz sg la z g b rest)) (c_smaller l E A) ok_X2_smaller w_180 (by decide) rfl rfl (Nat.le_of_ble_eq_true rfl) ⟨Nat.le_of_ble_eq_true rfl, Nat.le_of_ble_eq_true rfl⟩ dX2_comparedFrom_33 ?_
      refine j_istore (lv' := [(8, .int (smI (g (i * 24 + k)) (g (j * 24 + k)))), (7, .int (nI k)), (6, .int (nI (min n o))), (0, .ref t), (1, .int (nI a)), (2, .int (nI i)), (3, .int (nI n)), (4, .int (nI j)), (5, .int (nI o))]) C dX2_comparedFrom_36 (by decide) rfl ?_
      refine j_iload C dX2_comparedFrom_38 rfl ?_
      refine j_if_eq (tgt := 46) C dX2_comparedFrom_40 (by decide) (fun h40 => ?_) (fun h40 => ?_)
      · skip
        refine j_iinc (lv' := [(7, .int (nI (k + 1))), (8, .int (smI (g (i * 24 + k)) (g (j * 24 + k)))), (6, .int (nI (min n o))), (0, .ref t), (1, .int (nI a)), (2, .int (nI i)), (3, .int (nI n)), (4, .int (nI j)), (5, .int (nI o))]) C dX2_comparedFrom_46 rfl (nI_1 _) (by decide) rfl ?_
        refine j_goto (tgt := 11) C dX2_comparedFrom_49 (by decide) ?_
        refine j_lv (lv' := [(7, .int (nI (k + 1))), (6, .int (nI (min n o))), (0, .ref t), (1, .int (nI a)), (2, .int (nI i)), (3, .int (nI n)), (4, .int (nI j)), (5, .int (nI o))]) (by simp only [List.mem_cons, List.not_mem_nil, or_false, forall_eq_or_imp, forall_eq, true_or, or_true, and_self, Nat.add_zero]) ?_
        exact ih11 (k + 1) (by omega) (inv.trans (cmpF_eq (f := (fun q => g (i * 24 + q))) (h := (fun q => g (j * 24 + q))) h40))
      · skip
        refine j_iload C dX2_comparedFrom_43 rfl ?_
        exact j_iret C hQ rfl dX2_comparedFrom_45 ⟨Nat.le_of_ble_eq_true rfl, Nat.le_of_ble_eq_true rfl⟩ ⟨congrArg (fun q => some (Value.int q)) (inv.trans (cmpF_ne (f := (fun q => g (i * 24 + q))) (h := (fun q => g (j * 24 + q))) h40)).symm, rfl⟩
  refine j_lv (lv' := [(7, .int (nI a)), (6, .int (nI (min n o))), (0, .ref t), (1, .int (nI a)), (2, .int (nI i)), (3, .int (nI n)), (4, .int (nI j)), (5, .int (nI o))]) (by simp only [List.mem_cons, List.not_mem_nil, or_false, forall_eq_or_imp, forall_eq, true_or, or_true, and_self, Nat.add_zero]) ?_
  exact L11 (min n o - a) a (by omega) rfl
set_option maxHeartbeats 4000000 in
set_option maxRecDepth 100000 in
theorem c_compared (l : Launch) (E : jE) (A : Nat → Prop) {t sz sg la : Nat} {z g b : Nat → Int32} {rest : va_W} {i n j o : Nat} (hi : i < 9) (hj : j < 9) (hzi : z i = nI n) (hzj : z j = nI o) (hn : n ≤ 24) (hm : o ≤ 24) : jMet l yX2_compared cX2_compared 3 (some .int) 2 0 0 E A [.ref t, .int (nI i), .int (nI j)] (tW E t sz sg la z g b rest) (jR (some (.int (cmpF (fun q => g (i * 24 + q)) (fun q => g (j * 24 + q)) (smI (nI n) (nI o)) 0 (min n o - 0)))) (tW E t sz sg la z g b rest)) jNo := by
  refine jMet.intro' [(0, .ref t), (1, .int (nI i)), (2, .int (nI j))] (by decide) (Nat.le_of_ble_eq_true rfl) rfl ?_
  intro p e R s m args below meth c Q C hQ
  refine j_aload_n C dX2_compared_0 rfl ?_
  refine j_iconst (v := (nI 0)) C dX2_compared_1 rfl ?_
  refine j_iload_n C dX2_compared_2 rfl ?_
  refine j_aload_n C dX2_compared_3 rfl ?_
  refine j_get C 0 rfl inj_X2 rfl 0 (by decide) w_62 rfl dX2_compared_4 ?_
  refine j_iload_n C dX2_compared_7 rfl ?_
  refine j_iaload (z := (nI n)) C 1 i rfl rfl (by omega) (by first | decide | omega) hzi dX2_compared_8 ?_
  refine j_iload_n C dX2_compared_9 rfl ?_
  refine j_aload_n C dX2_compared_10 rfl ?_
  refine j_get C 0 rfl inj_X2 rfl 0 (by decide) w_62 rfl dX2_compared_11 ?_
  refine j_iload_n C dX2_compared_14 rfl ?_
  refine j_iaload (z := (nI o)) C 1 j rfl rfl (by omega) (by first | decide | omega) hzj dX2_compared_15 ?_
  refine j_callVr C 0 (v := .int (cmpF (fun q => g (i * 24 + q)) (fun q => g (j * 24 + q)) (smI (nI n) (nI o)) 0 (min n o - 0))) (w := (tW E t sz sg la z g b rest)) (c_comparedFrom l E A (by omega) (by omega) (by omega) (by omega) (by omega) (by omega)) ok_X2_comparedFrom w_195 (by decide) rfl rfl (Nat.le_of_ble_eq_true rfl) rfl rfl ⟨Nat.le_of_ble_eq_true rfl, Nat.le_of_ble_eq_true rfl⟩ dX2_compared_16 ?_
  exact j_iret C hQ rfl dX2_compared_19 ⟨Nat.le_of_ble_eq_true rfl, Nat.le_of_ble_eq_true rfl⟩ ⟨rfl, rfl⟩
set_option maxHeartbeats 4000000 in
set_option maxRecDepth 100000 in
theorem c_same_d (l : Launch) (E : jE) (A : Nat → Prop) {t sz sg la : Nat} {z g b : Nat → Int32} {rest : va_W} {i j : Nat} (hi : i < 9) (hj : j < 9) (hne : ¬ z i = z j) : jMet l yX2_haveSameSigns cX2_haveSameSigns 4 (some .boolean) 1 0 0 E A [.ref t, .int (nI i), .int (nI j)] (tW E t sz sg la z g b rest) (jR (some (.int (nI 0))) (tW E t sz sg la z g b rest)) jNo := by
  refine jMet.intro' [(0, .ref t), (1, .int (nI i)), (2, .int (nI j))] (by decide) (Nat.le_of_ble_eq_true rfl) rfl ?_
  intro p e R s m args below meth c Q C hQ
  refine j_aload_n C dX2_haveSameSigns_0 rfl ?_
  refine j_get C 0 rfl inj_X2 rfl 0 (by decide) w_62 rfl dX2_haveSameSigns_1 ?_
  refine j_iload_n C dX2_haveSameSigns_4 rfl ?_
  refine j_iaload (z := (z i)) C 1 i rfl rfl (by omega) (by first | decide | omega) rfl dX2_haveSameSigns_5 ?_
  refine j_aload_n C dX2_haveSameSigns_6 rfl ?_
  refine j_get C 0 rfl inj_X2 rfl 0 (by decide) w_62 rfl dX2_haveSameSigns_7 ?_
  refine j_iload_n C dX2_haveSameSigns_10 rfl ?_
  refine j_iaload (z := (z j)) C 1 j rfl rfl (by omega) (by first | decide | omega) rfl dX2_haveSameSigns_11 ?_
  refine j_icmp_eq_f (tgt := 17) C dX2_haveSameSigns_12 (by decide) hne ?_
  refine j_iconst (v := (nI 0)) C dX2_haveSameSigns_15 rfl ?_
  exact j_zret C hQ rfl rfl dX2_haveSameSigns_16 ⟨Nat.le_of_ble_eq_true rfl, Nat.le_of_ble_eq_true rfl⟩ ⟨rfl, rfl⟩
set_option maxHeartbeats 4000000 in
set_option maxRecDepth 100000 in
theorem c_same_m (l : Launch) (E : jE) (A : Nat → Prop) {t sz sg la : Nat} {z g b : Nat → Int32} {rest : va_W} {i j : Nat} (hi : i < 9) (hj : j < 9) (hzi : z i = -1) (hzj : z j = -1) : jMet l yX2_haveSameSigns cX2_haveSameSigns 4 (some .boolean) 1 0 0 E A [.ref t, .int (nI i), .int (nI j)] (tW E t sz sg la z g b rest) (jR (some (.int (nI 1))) (tW E t sz sg la z g b rest)) jNo := by
  refine jMet.intro' [(0, .ref t), (1, .int (nI i)), (2, .int (nI j))] (by decide) (Nat.le_of_ble_eq_true rfl) rfl ?_
  intro p e R s m args below meth c Q C hQ
  refine j_aload_n C dX2_haveSameSigns_0 rfl ?_
  refine j_get C 0 rfl inj_X2 rfl 0 (by decide) w_62 rfl dX2_haveSameSigns_1 ?_
  refine j_iload_n C dX2_haveSameSigns_4 rfl ?_
  refine j_iaload (z := (z i)) C 1 i rfl rfl (by omega) (by first | decide | omega) rfl dX2_haveSameSigns_5 ?_
  refine j_aload_n C dX2_haveSameSigns_6 rfl ?_
  refine j_get C 0 rfl inj_X2 rfl 0 (by decide) w_62 rfl dX2_haveSameSigns_7 ?_
  refine j_iload_n C dX2_haveSameSigns_10 rfl ?_
  refine j_iaload (z := (z j)) C 1 j rfl rfl (by omega) (by first | decide | omega) rfl dX2_haveSameSigns_11 ?_
  refine j_icmp_eq_t (tgt := 17) C dX2_haveSameSigns_12 (by decide) (by rw [hzi, hzj]) ?_
  refine j_iconst (v := (nI 0)) C dX2_haveSameSigns_17 rfl ?_
  refine j_istore_n (lv' := [(3, .int (nI 0)), (0, .ref t), (1, .int (nI i)), (2, .int (nI j))]) C dX2_haveSameSigns_18 (by decide) rfl ?_
  refine j_iload_n C dX2_haveSameSigns_19 rfl ?_
  refine j_aload_n C dX2_haveSameSigns_20 rfl ?_
  refine j_get C 0 rfl inj_X2 rfl 0 (by decide) w_62 rfl dX2_haveSameSigns_21 ?_
  refine j_iload_n C dX2_haveSameSigns_24 rfl ?_
  refine j_iaload (z := (z i)) C 1 i rfl rfl (by omega) (by first | decide | omega) rfl dX2_haveSameSigns_25 ?_
  refine j_icmp_ge_t (tgt := 52) C dX2_haveSameSigns_26 (by decide) (by rw [hzi]; decide) ?_
  refine j_iconst (v := (nI 1)) C dX2_haveSameSigns_52 rfl ?_
  exact j_zret C hQ rfl rfl dX2_haveSameSigns_53 ⟨Nat.le_of_ble_eq_true rfl, Nat.le_of_ble_eq_true rfl⟩ ⟨rfl, rfl⟩
set_option maxHeartbeats 4000000 in
set_option maxRecDepth 100000 in
theorem c_same_n (l : Launch) (E : jE) (A : Nat → Prop) {t sz sg la : Nat} {z g b : Nat → Int32} {rest : va_W} {i n j : Nat} (hi : i < 9) (hj : j < 9) (hzi : z i = nI n) (hzj : z j = nI n) (hn : n ≤ 24) : jMet l yX2_haveSameSigns cX2_haveSameSigns 4 (some .boolean) 1 0 0 E A [.ref t, .int (nI i), .int (nI j)] (tW E t sz sg la z g b rest) (jR (some (.int (sameV (fun q => g (i * 24 + q)) (fun q => g (j * 24 + q)) 0 n))) (tW E t sz sg la z g b rest)) jNo := by
  refine jMet.intro' [(0, .ref t), (1, .int (nI i)), (2, .int (nI j))] (by decide) (Nat.le_of_ble_eq_true rfl) rfl ?_
  intro p e R s m args below meth c Q C hQ
  refine j_aload_n C dX2_haveSameSigns_0 rfl ?_
  refine j_get C 0 rfl inj_X2 rfl 0 (by decide) w_62 rfl dX2_haveSameSigns_1 ?_
  refine j_iload_n C dX2_haveSameSigns_4 rfl ?_
  refine j_iaload (z := (z i)) C 1 i rfl rfl (by omega) (by first | decide | omega) rfl dX2_haveSameSigns_5 ?_
  refine j_aload_n C dX2_haveSameSigns_6 rfl ?_
  refine j_get C 0 rfl inj_X2 rfl 0 (by decide) w_62 rfl dX2_haveSameSigns_7 ?_
  refine j_iload_n C dX2_haveSameSigns_10 rfl ?_
  refine j_iaload (z := (z j)) C 1 j rfl rfl (by omega) (by first | decide | omega) rfl dX2_haveSameSigns_11 ?_
  refine j_icmp_eq_t (tgt := 17) C dX2_haveSameSigns_12 (by decide) (by rw [hzi, hzj]) ?_
  refine j_iconst (v := (nI 0)) C dX2_haveSameSigns_17 rfl ?_
  refine j_istore_n (lv' := [(3, .int (nI 0)), (0, .ref t), (1, .int (nI i)), (2, .int (nI j))]) C dX2_haveSameSigns_18 (by decide) rfl ?_
  have L19 : ∀ (r k : Nat), k + r = n → sameV (fun q => g (i * 24 + q)) (fun q => g (j * 24 + q)) 0 n = sameV (fun q => g (i * 24 + q)) (fun q => g (j * 24 + q)) k r → jJ p l e R s m args below meth c E A 4 Q 0 0 19 [(3, .int (nI k)), (0, .ref t), (1, .int (nI i)), (2, .int (nI j))] [] (tW E t sz sg la z g b rest) := by
    intro r
    induction r with
    | zero =>
      intro k  hk19 inv
      refine j_iload_n C dX2_haveSameSigns_19 rfl ?_
      refine j_aload_n C dX2_haveSameSigns_20 rfl ?_
      refine j_get C 0 rfl inj_X2 rfl 0 (by decide) w_62 rfl dX2_haveSameSigns_21 ?_
      refine j_iload_n C dX2_haveSameSigns_24 rfl ?_
      refine j_iaload (z := (nI n)) C 1 i rfl rfl (by omega) (by first | decide | omega) hzi dX2_haveSameSigns_25 ?_
      refine j_icmpn_ge_t (tgt := 52) C dX2_haveSameSigns_26 (by decide) (by omega) (by omega) (by omega) ?_
      refine j_iconst (v := (nI 1)) C dX2_haveSameSigns_52 rfl ?_
      exact j_zret C hQ rfl rfl dX2_haveSameSigns_53 ⟨Nat.le_of_ble_eq_true rfl, Nat.le_of_ble_eq_true rfl⟩ ⟨congrArg (fun q => some (Value.int q)) inv.symm, rfl⟩
    | succ r ih19 =>
      intro k  hk19 inv
      refine j_iload_n C dX2_haveSameSigns_19 rfl ?_
      refine j_aload_n C dX2_haveSameSigns_20 rfl ?_
      refine j_get C 0 rfl inj_X2 rfl 0 (by decide) w_62 rfl dX2_haveSameSigns_21 ?_
      refine j_iload_n C dX2_haveSameSigns_24 rfl ?_
      refine j_iaload (z := (nI n)) C 1 i rfl rfl (by omega) (by first | decide | omega) hzi dX2_haveSameSigns_25 ?_
      refine j_icmpn_ge_f (tgt := 52) C dX2_haveSameSigns_26 (by decide) (by omega) (by omega) (by omega) ?_
      refine j_aload_n C dX2_haveSameSigns_29 rfl ?_
      refine j_iload_n C dX2_haveSameSigns_30 rfl ?_
      refine j_iload_n C dX2_haveSameSigns_31 rfl ?_
      refine j_callVr C 0 (v := .int (g (i * 24 + k))) (w := (tW E t sz sg la z g b rest)) (c_sign l E A (by omega) (by omega)) ok_X2_sign w_166 (by decide) rfl rfl (Nat.le_of_ble_eq_true rfl) rfl rfl ⟨Nat.le_of_ble_eq_true rfl, Nat.le_of_ble_eq_true rfl⟩ dX2_haveSameSigns_32 ?_
      refine j_aload_n C dX2_haveSameSigns_35 rfl ?_
      refine j_iload_n C dX2_haveSameSigns_36 rfl ?_
      refine j_iload_n C dX2_haveSameSigns_37 rfl ?_
      refine j_callVr C 0 (v := .int (g (j * 24 + k))) (w := (tW E t sz sg la z g b rest)) (c_sign l E A (by omega) (by omega)) ok_X2_sign w_166 (by decide) rfl rfl (Nat.le_of_ble_eq_true rfl) rfl rfl ⟨Nat.le_of_ble_eq_true rfl, Nat.le_of_ble_eq_true rfl⟩ dX2_haveSameSigns_38 ?_
      refine j_icmp_eq (tgt := 46) C dX2_haveSameSigns_41 (by decide) (fun h41 => ?_) (fun h41 => ?_)
      · skip
        refine j_iinc (lv' := [(3, .int (nI (k + 1))), (0, .ref t), (1, .int (nI i)), (2, .int (nI j))]) C dX2_haveSameSigns_46 rfl (nI_1 _) (by decide) rfl ?_
        refine j_goto (tgt := 19) C dX2_haveSameSigns_49 (by decide) ?_
        refine j_lv (lv' := [(3, .int (nI (k + 1))), (0, .ref t), (1, .int (nI i)), (2, .int (nI j))]) (by simp only [List.mem_cons, List.not_mem_nil, or_false, forall_eq_or_imp, forall_eq, true_or, or_true, and_self, Nat.add_zero]) ?_
        exact ih19 (k + 1) (by omega) (inv.trans (sameV_eq (f := (fun q => g (i * 24 + q))) (h := (fun q => g (j * 24 + q))) h41))
      · skip
        refine j_iconst (v := (nI 0)) C dX2_haveSameSigns_44 rfl ?_
        exact j_zret C hQ rfl rfl dX2_haveSameSigns_45 ⟨Nat.le_of_ble_eq_true rfl, Nat.le_of_ble_eq_true rfl⟩ ⟨congrArg (fun q => some (Value.int q)) (inv.trans (sameV_ne (f := (fun q => g (i * 24 + q))) (h := (fun q => g (j * 24 + q))) h41)).symm, rfl⟩
  refine j_lv (lv' := [(3, .int (nI 0)), (0, .ref t), (1, .int (nI i)), (2, .int (nI j))]) (by simp only [List.mem_cons, List.not_mem_nil, or_false, forall_eq_or_imp, forall_eq, true_or, or_true, and_self, Nat.add_zero]) ?_
  exact L19 n 0 (by omega) rfl
set_option maxHeartbeats 4000000 in
set_option maxRecDepth 100000 in
theorem c_codeOf_n (l : Launch) (E : jE) (A : Nat → Prop) {t sz sg la : Nat} {z g b : Nat → Int32} {rest : va_W} {i n : Nat} (hi : i < 9) (hz : z i = nI n) (hn : n ≤ 24) (hs : ∀ k, k < n → isSg (g (i * 24 + k))) : jMet l yX2_codeOf cX2_codeOf 4 (some .int) 1 0 0 E A [.ref t, .int (nI i)] (tW E t sz sg la z g b rest) (jR (some (.int (codeF (fun q => g (i * 24 + q)) n))) (tW E t sz sg la z g b rest)) jNo := by
  refine jMet.intro' [(0, .ref t), (1, .int (nI i))] (by decide) (Nat.le_of_ble_eq_true rfl) rfl ?_
  intro p e R s m args below meth c Q C hQ
  refine j_iconst (v := (nI 0)) C dX2_codeOf_0 rfl ?_
  refine j_istore_n (lv' := [(2, .int (nI 0)), (0, .ref t), (1, .int (nI i))]) C dX2_codeOf_1 (by decide) rfl ?_
  refine j_iconst (v := (nI 0)) C dX2_codeOf_2 rfl ?_
  refine j_istore_n (lv' := [(3, .int (nI 0)), (2, .int (nI 0)), (0, .ref t), (1, .int (nI i))]) C dX2_codeOf_3 (by decide) rfl ?_
  have L4 : ∀ (r k : Nat), k + r = n → jJ p l e R s m args below meth c E A 4 Q 0 0 4 [(3, .int (nI k)), (2, .int (codeF (fun q => g (i * 24 + q)) k)), (0, .ref t), (1, .int (nI i))] [] (tW E t sz sg la z g b rest) := by
    intro r
    induction r with
    | zero =>
      intro k  hk4 
      refine j_iload_n C dX2_codeOf_4 rfl ?_
      refine j_aload_n C dX2_codeOf_5 rfl ?_
      refine j_get C 0 rfl inj_X2 rfl 0 (by decide) w_62 rfl dX2_codeOf_6 ?_
      refine j_iload_n C dX2_codeOf_9 rfl ?_
      refine j_iaload (z := (nI n)) C 1 i rfl rfl (by omega) (by first | decide | omega) hz dX2_codeOf_10 ?_
      refine j_icmpn_ge_t (tgt := 36) C dX2_codeOf_11 (by decide) (by omega) (by omega) (by omega) ?_
      have ek : n = k := by omega
      subst ek
      refine j_iload_n C dX2_codeOf_36 rfl ?_
      exact j_iret C hQ rfl dX2_codeOf_37 ⟨Nat.le_of_ble_eq_true rfl, Nat.le_of_ble_eq_true rfl⟩ ⟨rfl, rfl⟩
    | succ r ih4 =>
      intro k  hk4 
      refine j_iload_n C dX2_codeOf_4 rfl ?_
      refine j_aload_n C dX2_codeOf_5 rfl ?_
      refine j_get C 0 rfl inj_X2 rfl 0 (by decide) w_62 rfl dX2_codeOf_6 ?_
      refine j_iload_n C dX2_codeOf_9 rfl ?_
      refine j_iaload (z := (nI n)) C 1 i rfl rfl (by omega) (by first | decide | omega) hz dX2_codeOf_10 ?_
      refine j_icmpn_ge_f (tgt := 36) C dX2_codeOf_11 (by decide) (by omega) (by omega) (by omega) ?_
      refine j_iload_n C dX2_codeOf_14 rfl ?_
      refine j_bipush (v := (nI 31)) C dX2_codeOf_15 rfl ?_
      refine j_imul (z := ((codeF (fun q => g (i * 24 + q)) k) * (nI 31))) C dX2_codeOf_17 rfl ?_
      refine j_codesN C rfl dX2_codeOf_18 (fun t1 ht1 => ?_)
      refine j_aload_n C dX2_codeOf_21 rfl ?_
      refine j_iload_n C dX2_codeOf_22 rfl ?_
      refine j_iload_n C dX2_codeOf_23 rfl ?_
      refine j_callVr C 0 (v := .int (g (i * 24 + k))) (w := (tW E t sz sg la z g b rest)) (c_sign l E A (by omega) (by omega)) ok_X2_sign w_166 (by decide) rfl rfl (Nat.le_of_ble_eq_true rfl) rfl rfl ⟨Nat.le_of_ble_eq_true rfl, Nat.le_of_ble_eq_true rfl⟩ dX2_codeOf_24 ?_
      obtain ⟨qs, hqs, hqe⟩ := hs k (by omega)
      refine j_tld (z := (jCod (g (i * 24 + k)).toNatClampNeg)) C (f := jCod) ht1 qs hqe (by omega) (by decide) (by rw [hqe, nI_clamp (by omega)]) dX2_codeOf_27 ?_
      refine j_iadd (z := (((codeF (fun q => g (i * 24 + q)) k) * (nI 31)) + (jCod (g (i * 24 + k)).toNatClampNeg))) C dX2_codeOf_28 rfl ?_
      refine j_istore_n (lv' := [(2, .int (((codeF (fun q => g (i * 24 + q)) k) * (nI 31)) + (jCod (g (i * 24 + k)).toNatClampNeg))), (3, .int (nI k)), (0, .ref t), (1, .int (nI i))]) C dX2_codeOf_29 (by decide) rfl ?_
      refine j_eq (lv' := [(2, .int (codeF (fun q => g (i * 24 + q)) (k + 1))), (3, .int (nI k)), (0, .ref t), (1, .int (nI i))]) rfl rfl rfl ?_
      refine j_iinc (lv' := [(3, .int (nI (k + 1))), (2, .int (codeF (fun q => g (i * 24 + q)) (k + 1))), (0, .ref t), (1, .int (nI i))]) C dX2_codeOf_30 rfl (nI_1 _) (by decide) rfl ?_
      refine j_goto (tgt := 4) C dX2_codeOf_33 (by decide) ?_
      refine j_lv (lv' := [(3, .int (nI (k + 1))), (2, .int (codeF (fun q => g (i * 24 + q)) (k + 1))), (0, .ref t), (1, .int (nI i))]) (by simp only [List.mem_cons, List.not_mem_nil, or_false, forall_eq_or_imp, forall_eq, true_or, or_true, and_self, Nat.add_zero]) ?_
      exact ih4 (k + 1) (by omega)
  refine j_eq (lv' := [(3, .int (nI 0)), (2, .int (codeF (fun q => g (i * 24 + q)) 0)), (0, .ref t), (1, .int (nI i))]) rfl rfl rfl ?_
  refine j_lv (lv' := [(3, .int (nI 0)), (2, .int (codeF (fun q => g (i * 24 + q)) 0)), (0, .ref t), (1, .int (nI i))]) (by simp only [List.mem_cons, List.not_mem_nil, or_false, forall_eq_or_imp, forall_eq, true_or, or_true, and_self, Nat.add_zero]) ?_
  exact L4 n 0 (by omega)
set_option maxHeartbeats 4000000 in
set_option maxRecDepth 100000 in
theorem c_codeOf_m (l : Launch) (E : jE) (A : Nat → Prop) {t sz sg la : Nat} {z g b : Nat → Int32} {rest : va_W} {i : Nat} (hi : i < 9) (hz : z i = -1) : jMet l yX2_codeOf cX2_codeOf 4 (some .int) 1 0 0 E A [.ref t, .int (nI i)] (tW E t sz sg la z g b rest) (jR (some (.int (nI 0))) (tW E t sz sg la z g b rest)) jNo := by
  refine jMet.intro' [(0, .ref t), (1, .int (nI i))] (by decide) (Nat.le_of_ble_eq_true rfl) rfl ?_
  intro p e R s m args below meth c Q C hQ
  refine j_iconst (v := (nI 0)) C dX2_codeOf_0 rfl ?_
  refine j_istore_n (lv' := [(2, .int (nI 0)), (0, .ref t), (1, .int (nI i))]) C dX2_codeOf_1 (by decide) rfl ?_
  refine j_iconst (v := (nI 0)) C dX2_codeOf_2 rfl ?_
  refine j_istore_n (lv' := [(3, .int (nI 0)), (2, .int (nI 0)), (0, .ref t), (1, .int (nI i))]) C dX2_codeOf_3 (by decide) rfl ?_
  refine j_iload_n C dX2_codeOf_4 rfl ?_
  refine j_aload_n C dX2_codeOf_5 rfl ?_
  refine j_get C 0 rfl inj_X2 rfl 0 (by decide) w_62 rfl dX2_codeOf_6 ?_
  refine j_iload_n C dX2_codeOf_9 rfl ?_
  refine j_iaload (z := (z i)) C 1 i rfl rfl (by omega) (by first | decide | omega) rfl dX2_codeOf_10 ?_
  refine j_icmp_ge_t (tgt := 36) C dX2_codeOf_11 (by decide) (by rw [hz]; decide) ?_
  refine j_iload_n C dX2_codeOf_36 rfl ?_
  exact j_iret C hQ rfl dX2_codeOf_37 ⟨Nat.le_of_ble_eq_true rfl, Nat.le_of_ble_eq_true rfl⟩ ⟨rfl, rfl⟩
theorem c_codeOf (l : Launch) (E : jE) (A : Nat → Prop) {t sz sg la : Nat} {z g b : Nat → Int32} {rest : va_W} {i : Nat} (hi : i < 9) (h : txOk z g i) : jMet l yX2_codeOf cX2_codeOf 4 (some .int) 1 0 0 E A [.ref t, .int (nI i)] (tW E t sz sg la z g b rest) (jR (some (.int (codS z g i))) (tW E t sz sg la z g b rest)) jNo := by
  rcases h with h | ⟨n, hn, hz, hs⟩
  · rw [codS_m h]
    exact c_codeOf_m l E A hi h
  · rw [codS_n hn hz]
    exact c_codeOf_n l E A hi hz hn hs
set_option maxHeartbeats 4000000 in
set_option maxRecDepth 100000 in
theorem c_codeOfThree (l : Launch) (E : jE) (A : Nat → Prop) {t sz sg la : Nat} {z g b : Nat → Int32} {rest : va_W} {i j k : Nat} (hi : i < 9) (hj : j < 9) (hk : k < 9) (hT : ∀ i, i < 9 → txOk z g i) : jMet l yX2_codeOfThree cX2_codeOfThree 5 (some .int) 2 0 0 E A [.ref t, .int (nI i), .int (nI j), .int (nI k)] (tW E t sz sg la z g b rest) (jR (some (.int (cod3 (codS z g i) (codS z g j) (codS z g k)))) (tW E t sz sg la z g b rest)) jNo := by
  refine jMet.intro' [(0, .ref t), (1, .int (nI i)), (2, .int (nI j)), (3, .int (nI k))] (by decide) (Nat.le_of_ble_eq_true rfl) rfl ?_
  intro p e R s m args below meth c Q C hQ
  refine j_bipush (v := (nI 31)) C dX2_codeOfThree_0 rfl ?_
  refine j_aload_n C dX2_codeOfThree_2 rfl ?_
  refine j_iload_n C dX2_codeOfThree_3 rfl ?_
  refine j_callVr C 0 (v := .int (codS z g i)) (w := (tW E t sz sg la z g b rest)) (c_codeOf l E A (by omega) (hT _ (by omega))) ok_X2_codeOf w_248 (by decide) rfl rfl (Nat.le_of_ble_eq_true rfl) rfl rfl ⟨Nat.le_of_ble_eq_true rfl, Nat.le_of_ble_eq_true rfl⟩ dX2_codeOfThree_4 ?_
  refine j_iadd (z := ((nI 31) + (codS z g i))) C dX2_codeOfThree_7 rfl ?_
  refine j_istore (lv' := [(4, .int ((nI 31) + (codS z g i))), (0, .ref t), (1, .int (nI i)), (2, .int (nI j)), (3, .int (nI k))]) C dX2_codeOfThree_8 (by decide) rfl ?_
  refine j_iload C dX2_codeOfThree_10 rfl ?_
  refine j_bipush (v := (nI 31)) C dX2_codeOfThree_12 rfl ?_
  refine j_imul (z := (((nI 31) + (codS z g i)) * (nI 31))) C dX2_codeOfThree_14 rfl ?_
  refine j_aload_n C dX2_codeOfThree_15 rfl ?_
  refine j_iload_n C dX2_codeOfThree_16 rfl ?_
  refine j_callVr C 0 (v := .int (codS z g j)) (w := (tW E t sz sg la z g b rest)) (c_codeOf l E A (by omega) (hT _ (by omega))) ok_X2_codeOf w_248 (by decide) rfl rfl (Nat.le_of_ble_eq_true rfl) rfl rfl ⟨Nat.le_of_ble_eq_true rfl, Nat.le_of_ble_eq_true rfl⟩ dX2_codeOfThree_17 ?_
  refine j_iadd (z := ((((nI 31) + (codS z g i)) * (nI 31)) + (codS z g j))) C dX2_codeOfThree_20 rfl ?_
  refine j_istore (lv' := [(4, .int ((((nI 31) + (codS z g i)) * (nI 31)) + (codS z g j))), (0, .ref t), (1, .int (nI i)), (2, .int (nI j)), (3, .int (nI k))]) C dX2_codeOfThree_21 (by decide) rfl ?_
  refine j_iload C dX2_codeOfThree_23 rfl ?_
  refine j_bipush (v := (nI 31)) C dX2_codeOfThree_25 rfl ?_
  refine j_imul (z := (((((nI 31) + (codS z g i)) * (nI 31)) + (codS z g j)) * (nI 31))) C dX2_codeOfThree_27 rfl ?_
  refine j_aload_n C dX2_codeOfThree_28 rfl ?_
  refine j_iload_n C dX2_codeOfThree_29 rfl ?_
  refine j_callVr C 0 (v := .int (codS z g k)) (w := (tW E t sz sg la z g b rest)) (c_codeOf l E A (by omega) (hT _ (by omega))) ok_X2_codeOf w_248 (by decide) rfl rfl (Nat.le_of_ble_eq_true rfl) rfl rfl ⟨Nat.le_of_ble_eq_true rfl, Nat.le_of_ble_eq_true rfl⟩ dX2_codeOfThree_30 ?_
  refine j_iadd (z := ((((((nI 31) + (codS z g i)) * (nI 31)) + (codS z g j)) * (nI 31)) + (codS z g k))) C dX2_codeOfThree_33 rfl ?_
  exact j_iret C hQ rfl dX2_codeOfThree_34 ⟨Nat.le_of_ble_eq_true rfl, Nat.le_of_ble_eq_true rfl⟩ ⟨rfl, rfl⟩
set_option maxHeartbeats 4000000 in
set_option maxRecDepth 100000 in
theorem c_countOf (l : Launch) (E : jE) (A : Nat → Prop) {t sz sg la : Nat} {z g b : Nat → Int32} {rest : va_W} {i n : Nat} {x : Int32} (hi : i < 9) (hz : z i = nI n) (hn : n ≤ 24) : jMet l yX2_countOf cX2_countOf 5 (some .int) 1 0 0 E A [.ref t, .int (nI i), .int x] (tW E t sz sg la z g b rest) (jR (some (.int (nI (cntF (fun q => g (i * 24 + q)) x n)))) (tW E t sz sg la z g b rest)) jNo := by
  refine jMet.intro' [(0, .ref t), (1, .int (nI i)), (2, .int x)] (by decide) (Nat.le_of_ble_eq_true rfl) rfl ?_
  intro p e R s m args below meth c Q C hQ
  refine j_iconst (v := (nI 0)) C dX2_countOf_0 rfl ?_
  refine j_istore_n (lv' := [(3, .int (nI 0)), (0, .ref t), (1, .int (nI i)), (2, .int x)]) C dX2_countOf_1 (by decide) rfl ?_
  refine j_iconst (v := (nI 0)) C dX2_countOf_2 rfl ?_
  refine j_istore (lv' := [(4, .int (nI 0)), (3, .int (nI 0)), (0, .ref t), (1, .int (nI i)), (2, .int x)]) C dX2_countOf_3 (by decide) rfl ?_
  have L5 : ∀ (r k : Nat), k + r = n → jJ p l e R s m args below meth c E A 5 Q 0 0 5 [(4, .int (nI k)), (3, .int (nI (cntF (fun q => g (i * 24 + q)) x k))), (0, .ref t), (1, .int (nI i)), (2, .int x)] [] (tW E t sz sg la z g b rest) := by
    intro r
    induction r with
    | zero =>
      intro k  hk5 
      refine j_iload C dX2_countOf_5 rfl ?_
      refine j_aload_n C dX2_countOf_7 rfl ?_
      refine j_get C 0 rfl inj_X2 rfl 0 (by decide) w_62 rfl dX2_countOf_8 ?_
      refine j_iload_n C dX2_countOf_11 rfl ?_
      refine j_iaload (z := (nI n)) C 1 i rfl rfl (by omega) (by first | decide | omega) hz dX2_countOf_12 ?_
      refine j_icmpn_ge_t (tgt := 36) C dX2_countOf_13 (by decide) (by omega) (by omega) (by omega) ?_
      have ek : n = k := by omega
      subst ek
      refine j_iload_n C dX2_countOf_36 rfl ?_
      exact j_iret C hQ rfl dX2_countOf_37 ⟨Nat.le_of_ble_eq_true rfl, Nat.le_of_ble_eq_true rfl⟩ ⟨rfl, rfl⟩
    | succ r ih5 =>
      intro k  hk5 
      refine j_iload C dX2_countOf_5 rfl ?_
      refine j_aload_n C dX2_countOf_7 rfl ?_
      refine j_get C 0 rfl inj_X2 rfl 0 (by decide) w_62 rfl dX2_countOf_8 ?_
      refine j_iload_n C dX2_countOf_11 rfl ?_
      refine j_iaload (z := (nI n)) C 1 i rfl rfl (by omega) (by first | decide | omega) hz dX2_countOf_12 ?_
      refine j_icmpn_ge_f (tgt := 36) C dX2_countOf_13 (by decide) (by omega) (by omega) (by omega) ?_
      refine j_aload_n C dX2_countOf_16 rfl ?_
      refine j_iload_n C dX2_countOf_17 rfl ?_
      refine j_iload C dX2_countOf_18 rfl ?_
      refine j_callVr C 0 (v := .int (g (i * 24 + k))) (w := (tW E t sz sg la z g b rest)) (c_sign l E A (by omega) (by omega)) ok_X2_sign w_166 (by decide) rfl rfl (Nat.le_of_ble_eq_true rfl) rfl rfl ⟨Nat.le_of_ble_eq_true rfl, Nat.le_of_ble_eq_true rfl⟩ dX2_countOf_20 ?_
      refine j_iload_n C dX2_countOf_23 rfl ?_
      refine j_icmp_ne (tgt := 30) C dX2_countOf_24 (by decide) (fun h24 => ?_) (fun h24 => ?_)
      · skip
        refine j_iinc (lv' := [(4, .int (nI (k + 1))), (3, .int (nI (cntF (fun q => g (i * 24 + q)) x k))), (0, .ref t), (1, .int (nI i)), (2, .int x)]) C dX2_countOf_30 rfl (nI_1 _) (by decide) rfl ?_
        refine j_goto (tgt := 5) C dX2_countOf_33 (by decide) ?_
        refine j_eq (lv' := [(4, .int (nI (k + 1))), (3, .int (nI (cntF (fun q => g (i * 24 + q)) x (k + 1)))), (0, .ref t), (1, .int (nI i)), (2, .int x)]) (by rw [cntF_n (f := (fun q => g (i * 24 + q))) h24]) rfl rfl ?_
        refine j_lv (lv' := [(4, .int (nI (k + 1))), (3, .int (nI (cntF (fun q => g (i * 24 + q)) x (k + 1)))), (0, .ref t), (1, .int (nI i)), (2, .int x)]) (by simp only [List.mem_cons, List.not_mem_nil, or_false, forall_eq_or_imp, forall_eq, true_or, or_true, and_self, Nat.add_zero]) ?_
        exact ih5 (k + 1) (by omega)
      · skip
        refine j_iinc (lv' := [(3, .int (nI (cntF (fun q => g (i * 24 + q)) x k + 1))), (4, .int (nI k)), (0, .ref t), (1, .int (nI i)), (2, .int x)]) C dX2_countOf_27 rfl (nI_1 _) (by decide) rfl ?_
        refine j_iinc (lv' := [(4, .int (nI (k + 1))), (3, .int (nI (cntF (fun q => g (i * 24 + q)) x k + 1))), (0, .ref t), (1, .int (nI i)), (2, .int x)]) C dX2_countOf_30 rfl (nI_1 _) (by decide) rfl ?_
        refine j_goto (tgt := 5) C dX2_countOf_33 (by decide) ?_
        refine j_eq (lv' := [(4, .int (nI (k + 1))), (3, .int (nI (cntF (fun q => g (i * 24 + q)) x (k + 1)))), (0, .ref t), (1, .int (nI i)), (2, .int x)]) (by rw [cntF_y (f := (fun q => g (i * 24 + q))) h24]) rfl rfl ?_
        refine j_lv (lv' := [(4, .int (nI (k + 1))), (3, .int (nI (cntF (fun q => g (i * 24 + q)) x (k + 1)))), (0, .ref t), (1, .int (nI i)), (2, .int x)]) (by simp only [List.mem_cons, List.not_mem_nil, or_false, forall_eq_or_imp, forall_eq, true_or, or_true, and_self, Nat.add_zero]) ?_
        exact ih5 (k + 1) (by omega)
  refine j_eq (lv' := [(4, .int (nI 0)), (3, .int (nI (cntF (fun q => g (i * 24 + q)) x 0))), (0, .ref t), (1, .int (nI i)), (2, .int x)]) rfl rfl rfl ?_
  refine j_lv (lv' := [(4, .int (nI 0)), (3, .int (nI (cntF (fun q => g (i * 24 + q)) x 0))), (0, .ref t), (1, .int (nI i)), (2, .int x)]) (by simp only [List.mem_cons, List.not_mem_nil, or_false, forall_eq_or_imp, forall_eq, true_or, or_true, and_self, Nat.add_zero]) ?_
  exact L5 n 0 (by omega)
set_option maxHeartbeats 4000000 in
set_option maxRecDepth 100000 in
theorem c_countSigns (l : Launch) (E : jE) (A : Nat → Prop) {t sz sg la : Nat} {z g b : Nat → Int32} {rest : va_W} (hT : ∀ i, i < 9 → txOk z g i) : jMet l yX2_countSigns cX2_countSigns 3 (some .int) 0 0 0 E A [.ref t] (tW E t sz sg la z g b rest) (jR (some (.int (nI (sgnN z 9)))) (tW E t sz sg la z g b rest)) jNo := by
  refine jMet.intro' [(0, .ref t)] (by decide) (Nat.le_of_ble_eq_true rfl) rfl ?_
  intro p e R s m args below meth c Q C hQ
  refine j_iconst (v := (nI 0)) C dX2_countSigns_0 rfl ?_
  refine j_istore_n (lv' := [(1, .int (nI 0)), (0, .ref t)]) C dX2_countSigns_1 (by decide) rfl ?_
  refine j_iconst (v := (nI 0)) C dX2_countSigns_2 rfl ?_
  refine j_istore_n (lv' := [(2, .int (nI 0)), (1, .int (nI 0)), (0, .ref t)]) C dX2_countSigns_3 (by decide) rfl ?_
  have L4 : ∀ (r k : Nat), k + r = 9 → jJ p l e R s m args below meth c E A 3 Q 0 0 4 [(2, .int (nI k)), (1, .int (nI (sgnN z k))), (0, .ref t)] [] (tW E t sz sg la z g b rest) := by
    intro r
    induction r with
    | zero =>
      intro k  hk4 
      refine j_iload_n C dX2_countSigns_4 rfl ?_
      refine j_bipush (v := (nI 9)) C dX2_countSigns_5 rfl ?_
      refine j_icmpn_ge_t (tgt := 29) C dX2_countSigns_7 (by decide) (by omega) (by omega) (by omega) ?_
      have ek : 9 = k := by omega
      subst ek
      refine j_iload_n C dX2_countSigns_29 rfl ?_
      exact j_iret C hQ rfl dX2_countSigns_30 ⟨Nat.le_of_ble_eq_true rfl, Nat.le_of_ble_eq_true rfl⟩ ⟨rfl, rfl⟩
    | succ r ih4 =>
      intro k  hk4 
      refine j_iload_n C dX2_countSigns_4 rfl ?_
      refine j_bipush (v := (nI 9)) C dX2_countSigns_5 rfl ?_
      refine j_icmpn_ge_f (tgt := 29) C dX2_countSigns_7 (by decide) (by omega) (by omega) (by omega) ?_
      refine j_iload_n C dX2_countSigns_10 rfl ?_
      refine j_aload_n C dX2_countSigns_11 rfl ?_
      refine j_get C 0 rfl inj_X2 rfl 0 (by decide) w_62 rfl dX2_countSigns_12 ?_
      refine j_iload_n C dX2_countSigns_15 rfl ?_
      refine j_iaload (z := (z k)) C 1 k rfl rfl (by omega) (by first | decide | omega) rfl dX2_countSigns_16 ?_
      refine j_iconst (v := (nI 0)) C dX2_countSigns_17 rfl ?_
      refine j_mmax (z := (nI ((z k).toNatClampNeg))) C w_234 w_235 w_41 w_236 (Nat.le_of_ble_eq_true rfl) ⟨Nat.le_of_ble_eq_true rfl, Nat.le_of_ble_eq_true rfl⟩ dX2_countSigns_18 (txOk_max (hT k (by omega))) ?_
      refine j_iadd (z := (nI (sgnN z k + (z k).toNatClampNeg))) C dX2_countSigns_21 (nI_add _ _) ?_
      refine j_istore_n (lv' := [(1, .int (nI (sgnN z k + (z k).toNatClampNeg))), (2, .int (nI k)), (0, .ref t)]) C dX2_countSigns_22 (by decide) rfl ?_
      refine j_eq (lv' := [(1, .int (nI (sgnN z (k + 1)))), (2, .int (nI k)), (0, .ref t)]) rfl rfl rfl ?_
      refine j_iinc (lv' := [(2, .int (nI (k + 1))), (1, .int (nI (sgnN z (k + 1)))), (0, .ref t)]) C dX2_countSigns_23 rfl (nI_1 _) (by decide) rfl ?_
      refine j_goto (tgt := 4) C dX2_countSigns_26 (by decide) ?_
      refine j_lv (lv' := [(2, .int (nI (k + 1))), (1, .int (nI (sgnN z (k + 1)))), (0, .ref t)]) (by simp only [List.mem_cons, List.not_mem_nil, or_false, forall_eq_or_imp, forall_eq, true_or, or_true, and_self, Nat.add_zero]) ?_
      exact ih4 (k + 1) (by omega)
  refine j_eq (lv' := [(2, .int (nI 0)), (1, .int (nI (sgnN z 0))), (0, .ref t)]) rfl rfl rfl ?_
  refine j_lv (lv' := [(2, .int (nI 0)), (1, .int (nI (sgnN z 0))), (0, .ref t)]) (by simp only [List.mem_cons, List.not_mem_nil, or_false, forall_eq_or_imp, forall_eq, true_or, or_true, and_self, Nat.add_zero]) ?_
  exact L4 9 0 (by omega)
set_option maxHeartbeats 4000000 in
set_option maxRecDepth 100000 in
theorem c_countAway (l : Launch) (E : jE) (A : Nat → Prop) {t sz sg la : Nat} {z g b : Nat → Int32} {rest : va_W}  : jMet l yX2_countAway cX2_countAway 3 (some .int) 1 0 0 E A [.ref t] (tW E t sz sg la z g b rest) (jR (some (.int (nI (awN z 9)))) (tW E t sz sg la z g b rest)) jNo := by
  refine jMet.intro' [(0, .ref t)] (by decide) (Nat.le_of_ble_eq_true rfl) rfl ?_
  intro p e R s m args below meth c Q C hQ
  refine j_iconst (v := (nI 0)) C dX2_countAway_0 rfl ?_
  refine j_istore_n (lv' := [(1, .int (nI 0)), (0, .ref t)]) C dX2_countAway_1 (by decide) rfl ?_
  refine j_iconst (v := (nI 0)) C dX2_countAway_2 rfl ?_
  refine j_istore_n (lv' := [(2, .int (nI 0)), (1, .int (nI 0)), (0, .ref t)]) C dX2_countAway_3 (by decide) rfl ?_
  have L4 : ∀ (r k : Nat), k + r = 9 → jJ p l e R s m args below meth c E A 3 Q 0 0 4 [(2, .int (nI k)), (1, .int (nI (awN z k))), (0, .ref t)] [] (tW E t sz sg la z g b rest) := by
    intro r
    induction r with
    | zero =>
      intro k  hk4 
      refine j_iload_n C dX2_countAway_4 rfl ?_
      refine j_bipush (v := (nI 9)) C dX2_countAway_5 rfl ?_
      refine j_icmpn_ge_t (tgt := 27) C dX2_countAway_7 (by decide) (by omega) (by omega) (by omega) ?_
      have ek : 9 = k := by omega
      subst ek
      refine j_iload_n C dX2_countAway_27 rfl ?_
      exact j_iret C hQ rfl dX2_countAway_28 ⟨Nat.le_of_ble_eq_true rfl, Nat.le_of_ble_eq_true rfl⟩ ⟨rfl, rfl⟩
    | succ r ih4 =>
      intro k  hk4 
      refine j_iload_n C dX2_countAway_4 rfl ?_
      refine j_bipush (v := (nI 9)) C dX2_countAway_5 rfl ?_
      refine j_icmpn_ge_f (tgt := 27) C dX2_countAway_7 (by decide) (by omega) (by omega) (by omega) ?_
      refine j_aload_n C dX2_countAway_10 rfl ?_
      refine j_iload_n C dX2_countAway_11 rfl ?_
      refine j_callVr C 0 (v := .int (bI (z k = -1))) (w := (tW E t sz sg la z g b rest)) (c_isAway l E A (by omega)) ok_X2_isAway w_190 (by decide) rfl rfl (Nat.le_of_ble_eq_true rfl) rfl rfl ⟨Nat.le_of_ble_eq_true rfl, Nat.le_of_ble_eq_true rfl⟩ dX2_countAway_12 ?_
      refine j_ifb_eq (tgt := 21) C dX2_countAway_15 (by decide) (fun h15 => ?_) (fun h15 => ?_)
      · skip
        refine j_iinc (lv' := [(2, .int (nI (k + 1))), (1, .int (nI (awN z k))), (0, .ref t)]) C dX2_countAway_21 rfl (nI_1 _) (by decide) rfl ?_
        refine j_goto (tgt := 4) C dX2_countAway_24 (by decide) ?_
        refine j_eq (lv' := [(2, .int (nI (k + 1))), (1, .int (nI (awN z (k + 1)))), (0, .ref t)]) (by rw [awN_n h15]) rfl rfl ?_
        refine j_lv (lv' := [(2, .int (nI (k + 1))), (1, .int (nI (awN z (k + 1)))), (0, .ref t)]) (by simp only [List.mem_cons, List.not_mem_nil, or_false, forall_eq_or_imp, forall_eq, true_or, or_true, and_self, Nat.add_zero]) ?_
        exact ih4 (k + 1) (by omega)
      · skip
        refine j_iinc (lv' := [(1, .int (nI (awN z k + 1))), (2, .int (nI k)), (0, .ref t)]) C dX2_countAway_18 rfl (nI_1 _) (by decide) rfl ?_
        refine j_iinc (lv' := [(2, .int (nI (k + 1))), (1, .int (nI (awN z k + 1))), (0, .ref t)]) C dX2_countAway_21 rfl (nI_1 _) (by decide) rfl ?_
        refine j_goto (tgt := 4) C dX2_countAway_24 (by decide) ?_
        refine j_eq (lv' := [(2, .int (nI (k + 1))), (1, .int (nI (awN z (k + 1)))), (0, .ref t)]) (by rw [awN_y h15]) rfl rfl ?_
        refine j_lv (lv' := [(2, .int (nI (k + 1))), (1, .int (nI (awN z (k + 1)))), (0, .ref t)]) (by simp only [List.mem_cons, List.not_mem_nil, or_false, forall_eq_or_imp, forall_eq, true_or, or_true, and_self, Nat.add_zero]) ?_
        exact ih4 (k + 1) (by omega)
  refine j_eq (lv' := [(2, .int (nI 0)), (1, .int (nI (awN z 0))), (0, .ref t)]) rfl rfl rfl ?_
  refine j_lv (lv' := [(2, .int (nI 0)), (1, .int (nI (awN z 0))), (0, .ref t)]) (by simp only [List.mem_cons, List.not_mem_nil, or_false, forall_eq_or_imp, forall_eq, true_or, or_true, and_self, Nat.add_zero]) ?_
  exact L4 9 0 (by omega)
