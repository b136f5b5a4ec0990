/-! contracts, laid by program (wip/gen) -/
theorem pfx_sg {h : Nat → Int32} {a v n : Nat} (hs : ∀ k, k < n → isSg (h k)) (hvn : v ≤ n) : ∀ k, k < v - a → isSg (pfx (fun q => h (a + q)) (v - a) k) := by
  intro k hk
  show isSg (if k < v - a then h (a + k) else 0)
  rw [if_pos hk]; exact hs _ (by omega)
set_option maxHeartbeats 4000000 in
set_option maxRecDepth 100000 in
theorem m_textOf (l : Launch) (E : jE) (A : Nat → Prop) {XX : va_W} {LL : List Nat} {ff : Nat → va_E} {ai n : Nat} {h : Nat → Int32} (hm0 : ai ∈ LL) (hf0 : ff ai = .inl (E.2.1, n, .inl h)) (hn0 : n ≤ 24) (hs : ∀ k, k < n → isSg (h k)) : jMet l yX5_textOf cX5_textOf 6 (some (.object "java/lang/String")) 6 144 3024 E A [.ref ai] (XX ++ va_pl LL ff) (fun vv ww => ∃ aa : Nat, vv = some (.ref aa) ∧ ww = XX ++ va_pl LL ff) jNo := by
  refine jMet.intro' [(0, .ref ai)] (by decide) (Nat.le_of_ble_eq_true rfl) rfl ?_
  intro p e R s m args below meth c Q C hQ
  refine j_ldcE C rfl dX5_textOf_0 ?_
  refine j_astore_n (lv' := [(1, .ref E.2.2.2.2.1), (0, .ref ai)]) C dX5_textOf_2 (by decide) rfl ?_
  refine j_aload_n C dX5_textOf_3 rfl ?_
  refine j_astore_n (lv' := [(2, .ref ai), (1, .ref E.2.2.2.2.1), (0, .ref ai)]) C dX5_textOf_4 (by decide) rfl ?_
  refine j_aload_n C dX5_textOf_5 rfl ?_
  refine j_alenP (n := n) C hm0 hf0 dX5_textOf_6 ?_
  refine j_istore_n (lv' := [(3, .int (nI n)), (2, .ref ai), (1, .ref E.2.2.2.2.1), (0, .ref ai)]) C dX5_textOf_7 (by decide) rfl ?_
  refine j_iconst (v := (nI 0)) C dX5_textOf_8 rfl ?_
  refine j_istore (lv' := [(4, .int (nI 0)), (3, .int (nI n)), (2, .ref ai), (1, .ref E.2.2.2.2.1), (0, .ref ai)]) C dX5_textOf_9 (by decide) rfl ?_
  refine j_iload C dX5_textOf_11 rfl ?_
  refine j_iload_n C dX5_textOf_13 rfl ?_
  refine j_icmpn_ge (tgt := 54) C dX5_textOf_14 (by decide) (by omega) (by omega) (fun h14 => ?_) (fun h14 => ?_)
  · skip
    refine j_aload_n C dX5_textOf_54 rfl ?_
    exact j_aret C hQ rfl (Or.inl ⟨_, rfl⟩) dX5_textOf_55 ⟨Nat.le_of_ble_eq_true rfl, Nat.le_of_ble_eq_true rfl⟩ ⟨_, rfl, rfl⟩
  · skip
    obtain ⟨sgm, hm, em⟩ := hs 0 (by omega)
    refine j_aload_n C dX5_textOf_17 rfl ?_
    refine j_iload C dX5_textOf_18 rfl ?_
    refine j_ialoadP (z := (nI sgm)) C 0 hm0 hf0 rfl (by omega) (by omega) em dX5_textOf_20 ?_
    refine j_istore (lv' := [(5, .int (nI sgm)), (4, .int (nI 0)), (3, .int (nI n)), (2, .ref ai), (1, .ref E.2.2.2.2.1), (0, .ref ai)]) C dX5_textOf_21 (by decide) rfl ?_
    refine j_new C (ci := 1) (fs := [.null, .int (nI 0), .int (nI 0), .int (nI 0)]) inj_J4 tyJ4 tyJ4_ok w_1067 w_500 w_37 rfl (by decide) (by omega) (by omega) dX5_textOf_23 (fun o1 => ?_)
    refine j_front ?_
    refine j_eq (ws' := (((o1, .inr (1, [.null, .int (nI 0), .int (nI 0), .int (nI 0)])) :: XX) ++ va_pl LL ff)) rfl rfl rfl ?_
    refine j_dup C dX5_textOf_26 rfl ?_
    refine j_eq (ws' := ((o1, .inr (1, [.null, .int (nI 0), .int (nI 0), .int (nI 0)])) :: XX ++ va_pl LL ff)) rfl rfl rfl ?_
    refine j_callI C (c_sbInit l E A) ok_J4_init_da8c8 w_1068 (by decide) rfl rfl (Nat.le_of_ble_eq_true rfl) ⟨Nat.le_of_ble_eq_true rfl, Nat.le_of_ble_eq_true rfl⟩ dX5_textOf_27 (fun _ _ h => ?_)
    obtain ⟨va2, rfl, rfl⟩ := h
    refine j_eq (ws' := (((o1, .inr (1, [.ref va2, .int (nI 0), .int (nI 0), .int (nI 0)])) :: (va2, .inl (E.2.2.1, 16, .inl (fun _ => 0))) :: XX) ++ va_pl LL ff)) rfl rfl rfl ?_
    refine j_aload_n C dX5_textOf_30 rfl ?_
    refine j_eq (ws' := ((o1, .inr (1, [.ref va2, .int (nI 0), .int (nI 0), .int (nI 0)])) :: (va2, .inl (E.2.2.1, 16, .inl (fun _ => 0))) :: XX ++ va_pl LL ff)) rfl rfl rfl ?_
    refine j_callV C (q0 := 0) (c_appendSL l E A (Or.inl rfl) (by omega) sb_fit0) ok_J4_append_15ec4 w_1069 (by decide) rfl rfl (Nat.le_of_ble_eq_true rfl) rfl rfl ⟨Nat.le_of_ble_eq_true rfl, Nat.le_of_ble_eq_true rfl⟩ dX5_textOf_31 (fun _ _ h => h.elim) (fun _ _ h => ?_)
    obtain ⟨va3, n4, f5, hzva3, hqva3, hfva3, rfl, rfl⟩ := h
    refine j_eq (ws' := (((o1, .inr (1, [.ref va3, .int (nI 0), .int (nI 0), .int (nI 0)])) :: (va3, .inl (E.2.2.1, n4, .inl f5)) :: XX) ++ va_pl LL ff)) rfl rfl rfl ?_
    refine j_codesM C w_951 dX5_textOf_34 (fun t6 ht6 => ?_)
    refine j_iload C dX5_textOf_37 rfl ?_
    refine j_tld (z := (jCod sgm)) C (f := jCod) ht6 sgm rfl (by omega) (by decide) rfl dX5_textOf_39 ?_
    refine j_i2c (v := (jCod sgm)) C dX5_textOf_40 (jCod_c hm) ?_
    refine j_eq (ws' := ((o1, .inr (1, [.ref va3, .int (nI 0), .int (nI 0), .int (nI 0)])) :: (va3, .inl (E.2.2.1, n4, .inl f5)) :: XX ++ va_pl LL ff)) rfl rfl rfl ?_
    refine j_callV C (q0 := 0) (c_appendC l E A hzva3 (by omega) hfva3 (jCod_ok hm)) ok_J4_append_cf468 w_1070 (by decide) rfl rfl (Nat.le_of_ble_eq_true rfl) rfl rfl ⟨Nat.le_of_ble_eq_true rfl, Nat.le_of_ble_eq_true rfl⟩ dX5_textOf_41 (fun _ _ h => h.elim) (fun _ _ h => ?_)
    obtain ⟨va7, n8, f9, hzva7, hqva7, hfva7, rfl, rfl⟩ := h
    refine j_eq (ws' := (((o1, .inr (1, [.ref va7, .int (nI 0), .int (nI 0), .int (nI 1)])) :: (va7, .inl (E.2.2.1, n8, .inl f9)) :: XX) ++ va_pl LL ff)) rfl rfl rfl ?_
    refine j_eq (ws' := ((o1, .inr (1, [.ref va7, .int (nI 0), .int (nI 0), .int (nI 1)])) :: (va7, .inl (E.2.2.1, n8, .inl f9)) :: XX ++ va_pl LL ff)) rfl rfl rfl ?_
    refine j_callV C (q0 := 0) (c_toString l E A hzva7 (by omega) hfva7) ok_J4_toString_0e30d w_1071 (by decide) rfl rfl (Nat.le_of_ble_eq_true rfl) rfl rfl ⟨Nat.le_of_ble_eq_true rfl, Nat.le_of_ble_eq_true rfl⟩ dX5_textOf_44 (fun _ _ h => h.elim) (fun _ _ h => ?_)
    obtain ⟨st10, sv11, g12, hfsv11, rfl, rfl⟩ := h
    refine j_eq (ws' := (((st10, .inr (0, [.ref sv11, .int (nI 0), .int (nI 0), .int (nI 0)])) :: (sv11, .inl (E.2.2.1, 1, .inl g12)) :: (o1, .inr (1, [.ref va7, .int (nI 0), .int (nI 0), .int (nI 1)])) :: (va7, .inl (E.2.2.1, n8, .inl f9)) :: XX) ++ va_pl LL ff)) rfl rfl rfl ?_
    refine j_astore_n (lv' := [(1, .ref st10), (5, .int (nI sgm)), (4, .int (nI 0)), (3, .int (nI n)), (2, .ref ai), (0, .ref ai)]) C dX5_textOf_47 (by decide) rfl ?_
    refine j_iinc (lv' := [(4, .int (nI 1)), (1, .ref st10), (5, .int (nI sgm)), (3, .int (nI n)), (2, .ref ai), (0, .ref ai)]) C dX5_textOf_48 rfl (nI_1 _) (by decide) rfl ?_
    refine j_goto (tgt := 11) C dX5_textOf_51 (by decide) ?_
    have L11 : ∀ (r k : Nat) (st sv : Nat) (g : Nat → Int32), k + r = n → sb_Fit g → jJ p l e R s m args below meth c E A 6 Q (k * 6) (k * 126) 11 [(4, .int (nI k)), (3, .int (nI n)), (2, .ref ai), (1, .ref st)] [] (((st, .inr (0, [.ref sv, .int (nI 0), .int (nI 0), .int (nI 0)])) :: (sv, .inl (E.2.2.1, k, .inl g)) :: XX) ++ va_pl LL ff) := by
      intro r
      induction r with
      | zero =>
        intro k st sv g hk11 hg
        refine j_iload C dX5_textOf_11 rfl ?_
        refine j_iload_n C dX5_textOf_13 rfl ?_
        refine j_icmpn_ge_t (tgt := 54) C dX5_textOf_14 (by decide) (by omega) (by omega) (by omega) ?_
        refine j_aload_n C dX5_textOf_54 rfl ?_
        refine j_perm (pre := [(st, .inr (0, [.ref sv, .int (nI 0), .int (nI 0), .int (nI 0)])), (sv, .inl (E.2.2.1, k, .inl g))]) (pre' := []) (tl := XX ++ va_pl LL ff) [] rfl (by decide) ?_
        refine j_eq (ws' := (XX ++ va_pl LL ff)) rfl rfl rfl ?_
        exact j_aret C hQ rfl (Or.inl ⟨_, rfl⟩) dX5_textOf_55 ⟨by omega, by omega⟩ ⟨_, rfl, rfl⟩
      | succ r ih11 =>
        intro k st sv g hk11 hg
        refine j_iload C dX5_textOf_11 rfl ?_
        refine j_iload_n C dX5_textOf_13 rfl ?_
        refine j_icmpn_ge_f (tgt := 54) C dX5_textOf_14 (by decide) (by omega) (by omega) (by omega) ?_
        obtain ⟨sgm, hm, em⟩ := hs k (by omega)
        refine j_aload_n C dX5_textOf_17 rfl ?_
        refine j_iload C dX5_textOf_18 rfl ?_
        refine j_ialoadP (z := (nI sgm)) C k hm0 hf0 rfl (by omega) (by omega) em dX5_textOf_20 ?_
        refine j_istore (lv' := [(5, .int (nI sgm)), (4, .int (nI k)), (3, .int (nI n)), (2, .ref ai), (1, .ref st)]) C dX5_textOf_21 (by decide) rfl ?_
        refine j_new C (ci := 1) (fs := [.null, .int (nI 0), .int (nI 0), .int (nI 0)]) inj_J4 tyJ4 tyJ4_ok w_1067 w_500 w_37 rfl (by decide) (by omega) (by omega) dX5_textOf_23 (fun o13 => ?_)
        refine j_front ?_
        refine j_eq (ws' := (((o13, .inr (1, [.null, .int (nI 0), .int (nI 0), .int (nI 0)])) :: (st, .inr (0, [.ref sv, .int (nI 0), .int (nI 0), .int (nI 0)])) :: (sv, .inl (E.2.2.1, k, .inl g)) :: XX) ++ va_pl LL ff)) rfl rfl rfl ?_
        refine j_dup C dX5_textOf_26 rfl ?_
        refine j_eq (ws' := ((o13, .inr (1, [.null, .int (nI 0), .int (nI 0), .int (nI 0)])) :: (st, .inr (0, [.ref sv, .int (nI 0), .int (nI 0), .int (nI 0)])) :: (sv, .inl (E.2.2.1, k, .inl g)) :: XX ++ va_pl LL ff)) rfl rfl rfl ?_
        refine j_callI C (c_sbInit l E A) ok_J4_init_da8c8 w_1068 (by decide) rfl rfl (Nat.le_of_ble_eq_true rfl) ⟨by omega, by omega⟩ dX5_textOf_27 (fun _ _ h => ?_)
        obtain ⟨va14, rfl, rfl⟩ := h
        refine j_eq (ws' := (((o13, .inr (1, [.ref va14, .int (nI 0), .int (nI 0), .int (nI 0)])) :: (va14, .inl (E.2.2.1, 16, .inl (fun _ => 0))) :: (st, .inr (0, [.ref sv, .int (nI 0), .int (nI 0), .int (nI 0)])) :: (sv, .inl (E.2.2.1, k, .inl g)) :: XX) ++ va_pl LL ff)) rfl rfl rfl ?_
        refine j_aload_n C dX5_textOf_30 rfl ?_
        refine j_eq (ws' := ((o13, .inr (1, [.ref va14, .int (nI 0), .int (nI 0), .int (nI 0)])) :: (va14, .inl (E.2.2.1, 16, .inl (fun _ => 0))) :: (st, .inr (0, [.ref sv, .int (nI 0), .int (nI 0), .int (nI 0)])) :: (sv, .inl (E.2.2.1, k, .inl g)) :: XX ++ va_pl LL ff)) rfl rfl rfl ?_
        refine j_callV C (q0 := 0) (c_appendS l E A (Or.inl rfl) (by omega) sb_fit0 hg) ok_J4_append_15ec4 w_1069 (by decide) rfl rfl (Nat.le_of_ble_eq_true rfl) rfl rfl ⟨by omega, by omega⟩ dX5_textOf_31 (fun _ _ h => h.elim) (fun _ _ h => ?_)
        obtain ⟨va15, n16, f17, hzva15, hqva15, hfva15, rfl, rfl⟩ := h
        refine j_eq (ws' := (((o13, .inr (1, [.ref va15, .int (nI 0), .int (nI 0), .int (nI (0 + k))])) :: (va15, .inl (E.2.2.1, n16, .inl f17)) :: (st, .inr (0, [.ref sv, .int (nI 0), .int (nI 0), .int (nI 0)])) :: (sv, .inl (E.2.2.1, k, .inl g)) :: XX) ++ va_pl LL ff)) rfl rfl rfl ?_
        refine j_codesM C w_951 dX5_textOf_34 (fun t18 ht18 => ?_)
        refine j_iload C dX5_textOf_37 rfl ?_
        refine j_tld (z := (jCod sgm)) C (f := jCod) ht18 sgm rfl (by omega) (by decide) rfl dX5_textOf_39 ?_
        refine j_i2c (v := (jCod sgm)) C dX5_textOf_40 (jCod_c hm) ?_
        refine j_eq (ws' := ((o13, .inr (1, [.ref va15, .int (nI 0), .int (nI 0), .int (nI (0 + k))])) :: (va15, .inl (E.2.2.1, n16, .inl f17)) :: (st, .inr (0, [.ref sv, .int (nI 0), .int (nI 0), .int (nI 0)])) :: (sv, .inl (E.2.2.1, k, .inl g)) :: XX ++ va_pl LL ff)) rfl rfl rfl ?_
        refine j_callV C (q0 := 0) (c_appendC l E A hzva15 (by omega) hfva15 (jCod_ok hm)) ok_J4_append_cf468 w_1070 (by decide) rfl rfl (Nat.le_of_ble_eq_true rfl) rfl rfl ⟨by omega, by omega⟩ dX5_textOf_41 (fun _ _ h => h.elim) (fun _ _ h => ?_)
        obtain ⟨va19, n20, f21, hzva19, hqva19, hfva19, rfl, rfl⟩ := h
        refine j_eq (ws' := (((o13, .inr (1, [.ref va19, .int (nI 0), .int (nI 0), .int (nI (0 + k + 1))])) :: (va19, .inl (E.2.2.1, n20, .inl f21)) :: (st, .inr (0, [.ref sv, .int (nI 0), .int (nI 0), .int (nI 0)])) :: (sv, .inl (E.2.2.1, k, .inl g)) :: XX) ++ va_pl LL ff)) rfl rfl rfl ?_
        refine j_eq (ws' := ((o13, .inr (1, [.ref va19, .int (nI 0), .int (nI 0), .int (nI (0 + k + 1))])) :: (va19, .inl (E.2.2.1, n20, .inl f21)) :: (st, .inr (0, [.ref sv, .int (nI 0), .int (nI 0), .int (nI 0)])) :: (sv, .inl (E.2.2.1, k, .inl g)) :: XX ++ va_pl LL ff)) rfl rfl rfl ?_
        refine j_callV C (q0 := 0) (c_toString l E A hzva19 (by omega) hfva19) ok_J4_toString_0e30d w_1071 (by decide) rfl rfl (Nat.le_of_ble_eq_true rfl) rfl rfl ⟨by omega, by omega⟩ dX5_textOf_44 (fun _ _ h => h.elim) (fun _ _ h => ?_)
        obtain ⟨st22, sv23, g24, hfsv23, rfl, rfl⟩ := h
        refine j_eq (ws' := (((st22, .inr (0, [.ref sv23, .int (nI 0), .int (nI 0), .int (nI 0)])) :: (sv23, .inl (E.2.2.1, 0 + k + 1, .inl g24)) :: (o13, .inr (1, [.ref va19, .int (nI 0), .int (nI 0), .int (nI (0 + k + 1))])) :: (va19, .inl (E.2.2.1, n20, .inl f21)) :: (st, .inr (0, [.ref sv, .int (nI 0), .int (nI 0), .int (nI 0)])) :: (sv, .inl (E.2.2.1, k, .inl g)) :: XX) ++ va_pl LL ff)) rfl rfl rfl ?_
        refine j_astore_n (lv' := [(1, .ref st22), (5, .int (nI sgm)), (4, .int (nI k)), (3, .int (nI n)), (2, .ref ai)]) C dX5_textOf_47 (by decide) rfl ?_
        refine j_iinc (lv' := [(4, .int (nI (k + 1))), (1, .ref st22), (5, .int (nI sgm)), (3, .int (nI n)), (2, .ref ai)]) C dX5_textOf_48 rfl (nI_1 _) (by decide) rfl ?_
        refine j_goto (tgt := 11) C dX5_textOf_51 (by decide) ?_
        refine j_perm (pre := [(st22, .inr (0, [.ref sv23, .int (nI 0), .int (nI 0), .int (nI 0)])), (sv23, .inl (E.2.2.1, 0 + k + 1, .inl g24)), (o13, .inr (1, [.ref va19, .int (nI 0), .int (nI 0), .int (nI (0 + k + 1))])), (va19, .inl (E.2.2.1, n20, .inl f21)), (st, .inr (0, [.ref sv, .int (nI 0), .int (nI 0), .int (nI 0)])), (sv, .inl (E.2.2.1, k, .inl g))]) (pre' := [(st22, .inr (0, [.ref sv23, .int (nI 0), .int (nI 0), .int (nI 0)])), (sv23, .inl (E.2.2.1, 0 + k + 1, .inl g24))]) (tl := XX ++ va_pl LL ff) [0, 1] rfl (by decide) ?_
        refine j_eq (ws' := (((st22, .inr (0, [.ref sv23, .int (nI 0), .int (nI 0), .int (nI 0)])) :: (sv23, .inl (E.2.2.1, 0 + k + 1, .inl g24)) :: XX) ++ va_pl LL ff)) rfl rfl rfl ?_
        refine j_eq (ws' := (((st22, .inr (0, [.ref sv23, .int (nI 0), .int (nI 0), .int (nI 0)])) :: (sv23, .inl (E.2.2.1, k + 1, .inl g24)) :: XX) ++ va_pl LL ff)) rfl rfl (by rw [Nat.zero_add]) ?_
        refine j_lv (lv' := [(4, .int (nI (k + 1))), (3, .int (nI n)), (2, .ref ai), (1, .ref st22)]) (by simp only [List.mem_cons, List.not_mem_nil, or_false, forall_eq_or_imp, forall_eq, true_or, or_true, and_self, Nat.add_zero]) ?_
        refine j_widen (k := (k + 1) * 6) (n := (k + 1) * 126) (by omega) (by omega) ?_
        exact ih11 (k + 1) _ _ _ (by omega) hfsv23
    refine j_perm (pre := [(st10, .inr (0, [.ref sv11, .int (nI 0), .int (nI 0), .int (nI 0)])), (sv11, .inl (E.2.2.1, 1, .inl g12)), (o1, .inr (1, [.ref va7, .int (nI 0), .int (nI 0), .int (nI 1)])), (va7, .inl (E.2.2.1, n8, .inl f9))]) (pre' := [(st10, .inr (0, [.ref sv11, .int (nI 0), .int (nI 0), .int (nI 0)])), (sv11, .inl (E.2.2.1, 1, .inl g12))]) (tl := XX ++ va_pl LL ff) [0, 1] rfl (by decide) ?_
    refine j_eq (ws' := (((st10, .inr (0, [.ref sv11, .int (nI 0), .int (nI 0), .int (nI 0)])) :: (sv11, .inl (E.2.2.1, 1, .inl g12)) :: XX) ++ va_pl LL ff)) rfl rfl rfl ?_
    refine j_lv (lv' := [(4, .int (nI 1)), (3, .int (nI n)), (2, .ref ai), (1, .ref st10)]) (by simp only [List.mem_cons, List.not_mem_nil, or_false, forall_eq_or_imp, forall_eq, true_or, or_true, and_self, Nat.add_zero]) ?_
    refine j_widen (k := 1 * 6) (n := 1 * 126) (by omega) (by omega) ?_
    exact L11 (n - 1) 1 _ _ _ (by omega) hfsv11
set_option maxHeartbeats 4000000 in
set_option maxRecDepth 100000 in
theorem m_noText (l : Launch) (E : jE) (A : Nat → Prop) {x0 x1 x2 x3 x4 x5 : Nat × va_E} {mo ou : Nat} {th re ak gv kn : Int32} {ro : Nat → Option Nat} {LL : List Nat} {ff : Nat → va_E}  : jMet l yX5_noText cX5_noText 1 (some (.object "java/lang/String")) 0 0 0 E A [.ref mo] (mW E x0 x1 x2 x3 x4 x5 mo ou th re ak gv kn ro LL ff) (fun vv ww => ∃ aa : Nat, vv = some (.ref aa) ∧ ww = (mW E x0 x1 x2 x3 x4 x5 mo ou th (re + nI 1) ak gv kn ro LL ff)) jNo := by
  refine jMet.intro' [(0, .ref mo)] (by decide) (Nat.le_of_ble_eq_true rfl) rfl ?_
  intro p e R s m args below meth c Q C hQ
  refine j_aload_n C dX5_noText_0 rfl ?_
  refine j_dup C dX5_noText_1 rfl ?_
  refine j_get C 6 rfl inj_X5 rfl 2 (by decide) w_923 rfl dX5_noText_2 ?_
  refine j_iconst (v := (nI 1)) C dX5_noText_5 rfl ?_
  refine j_iadd (z := (re + (nI 1))) C dX5_noText_6 rfl ?_
  refine j_put (ws' := (mW E x0 x1 x2 x3 x4 x5 mo ou th (re + (nI 1)) ak gv kn ro LL ff)) C 6 rfl inj_X5 tyX5 tyX5_ok nmX5 rfl 2 (by decide) w_923 rfl (tyX5_ok 2 (by decide)) rfl rfl (Nat.le_of_ble_eq_true rfl) dX5_noText_7 rfl ?_
  refine j_ldcS C jS_X5_119 dX5_noText_10 (fun sa1 => ?_)
  exact j_aret C hQ rfl (Or.inl ⟨_, rfl⟩) dX5_noText_12 ⟨Nat.le_of_ble_eq_true rfl, Nat.le_of_ble_eq_true rfl⟩ ⟨_, rfl, rfl⟩
set_option maxHeartbeats 4000000 in
set_option maxRecDepth 100000 in
theorem g_text_b (l : Launch) (E : jE) (A : Nat → Prop) {x0 x1 x2 x3 x4 x5 : Nat × va_E} {mo ou : Nat} {th re ak gv kn : Int32} {ro : Nat → Option Nat} {LL : List Nat} {ff : Nat → va_E} {x : Int32} (hbx : x < 0 ∨ nI 9 ≤ x)  : jMet l yX5_text cX5_text 2 (some (.object "java/lang/String")) 8 144 3024 E A [.ref mo, .int x] (mW E x0 x1 x2 x3 x4 x5 mo ou th re ak gv kn ro LL ff) (fun vv ww => ∃ aa : Nat, vv = some (.ref aa) ∧ ww = (mW E x0 x1 x2 x3 x4 x5 mo ou (nI 1) re ak gv kn ro LL ff)) jNo := by
  refine jMet.intro' [(0, .ref mo), (1, .int x)] (by decide) (Nat.le_of_ble_eq_true rfl) rfl ?_
  intro p e R s m args below meth c Q C hQ
  refine j_aload_n C dX5_text_0 rfl ?_
  refine j_iload_n C dX5_text_1 rfl ?_
  refine j_callSr C (v := .int (nI 1)) (w := (mW E x0 x1 x2 x3 x4 x5 mo ou th re ak gv kn ro LL ff)) (m_isNo_1 l E A hbx) ok_X5_isNo w_959 (by decide) rfl rfl (Nat.le_of_ble_eq_true rfl) ⟨Nat.le_of_ble_eq_true rfl, Nat.le_of_ble_eq_true rfl⟩ dX5_text_2 ?_
  refine j_iconst (v := (nI 1)) C dX5_text_5 rfl ?_
  refine j_callVr C 6 (v := .int (nI 1)) (w := (mW E x0 x1 x2 x3 x4 x5 mo ou (nI 1) re ak gv kn ro LL ff)) (m_start_1 l E A (by decide) (by decide)) ok_X5_start w_962 (by decide) rfl rfl (Nat.le_of_ble_eq_true rfl) rfl rfl ⟨Nat.le_of_ble_eq_true rfl, Nat.le_of_ble_eq_true rfl⟩ dX5_text_6 ?_
  refine j_ifn_eq_f (tgt := 17) C dX5_text_9 (by decide) (by omega) (by omega) ?_
  refine j_ldcE C rfl dX5_text_12 ?_
  refine j_goto (tgt := 40) C dX5_text_14 (by decide) ?_
  exact j_aret C hQ rfl (Or.inl ⟨_, rfl⟩) dX5_text_40 ⟨Nat.le_of_ble_eq_true rfl, Nat.le_of_ble_eq_true rfl⟩ ⟨_, rfl, rfl⟩
set_option maxHeartbeats 4000000 in
set_option maxRecDepth 100000 in
theorem g_text_m (l : Launch) (E : jE) (A : Nat → Prop) {x0 x1 x2 x3 x4 x5 : Nat × va_E} {mo ou : Nat} {th re ak gv kn : Int32} {ro : Nat → Option Nat} {LL : List Nat} {ff : Nat → va_E} {i : Nat} (hi : i < 9) (hri : ro i = none)  : jMet l yX5_text cX5_text 2 (some (.object "java/lang/String")) 8 144 3024 E A [.ref mo, .int (nI i)] (mW E x0 x1 x2 x3 x4 x5 mo ou th re ak gv kn ro LL ff) (fun vv ww => ∃ aa : Nat, vv = some (.ref aa) ∧ ww = (mW E x0 x1 x2 x3 x4 x5 mo ou (nI 0) re ak gv kn ro LL ff)) jNo := by
  refine jMet.intro' [(0, .ref mo), (1, .int (nI i))] (by decide) (Nat.le_of_ble_eq_true rfl) rfl ?_
  intro p e R s m args below meth c Q C hQ
  refine j_aload_n C dX5_text_0 rfl ?_
  refine j_iload_n C dX5_text_1 rfl ?_
  refine j_callSr C (v := .int (nI 0)) (w := (mW E x0 x1 x2 x3 x4 x5 mo ou th re ak gv kn ro LL ff)) (m_isNo_0 l E A (by omega)) ok_X5_isNo w_959 (by decide) rfl rfl (Nat.le_of_ble_eq_true rfl) ⟨Nat.le_of_ble_eq_true rfl, Nat.le_of_ble_eq_true rfl⟩ dX5_text_2 ?_
  refine j_iconst (v := (nI 1)) C dX5_text_5 rfl ?_
  refine j_callVr C 6 (v := .int (nI 0)) (w := (mW E x0 x1 x2 x3 x4 x5 mo ou (nI 0) re ak gv kn ro LL ff)) (m_start_0 l E A) ok_X5_start w_962 (by decide) rfl rfl (Nat.le_of_ble_eq_true rfl) rfl rfl ⟨Nat.le_of_ble_eq_true rfl, Nat.le_of_ble_eq_true rfl⟩ dX5_text_6 ?_
  refine j_ifn_eq_t (tgt := 17) C dX5_text_9 (by decide) (by omega) (by omega) ?_
  refine j_aload_n C dX5_text_17 rfl ?_
  refine j_get C 6 rfl inj_X5 rfl 1 (by decide) w_922 rfl dX5_text_18 ?_
  refine j_iload_n C dX5_text_21 rfl ?_
  refine j_aaload (v := .null) C 7 i rfl rfl (by omega) (by decide) (by rw [show ro i = none from hri]; rfl) dX5_text_22 ?_
  refine j_ifnonnull_f C dX5_text_23 ?_
  refine j_ldcS C jS_X5_113 dX5_text_26 (fun sa1 => ?_)
  refine j_goto (tgt := 40) C dX5_text_28 (by decide) ?_
  exact j_aret C hQ rfl (Or.inl ⟨_, rfl⟩) dX5_text_40 ⟨Nat.le_of_ble_eq_true rfl, Nat.le_of_ble_eq_true rfl⟩ ⟨_, rfl, rfl⟩
set_option maxHeartbeats 4000000 in
set_option maxRecDepth 100000 in
theorem g_text_k (l : Launch) (E : jE) (A : Nat → Prop) {x0 x1 x2 x3 x4 x5 : Nat × va_E} {mo ou : Nat} {th re ak gv kn : Int32} {ro : Nat → Option Nat} {LL : List Nat} {ff : Nat → va_E} {i : Nat} (hi : i < 9) {ai n : Nat} {h : Nat → Int32} (hrai : ro i = some ai) (hmai : ai ∈ LL) (hfai : ff ai = .inl (E.2.1, n, .inl h)) (hnai : n ≤ 24) (hs : ∀ k, k < n → isSg (h k))  : jMet l yX5_text cX5_text 2 (some (.object "java/lang/String")) 8 144 3024 E A [.ref mo, .int (nI i)] (mW E x0 x1 x2 x3 x4 x5 mo ou th re ak gv kn ro LL ff) (fun vv ww => ∃ aa : Nat, vv = some (.ref aa) ∧ ww = (mW E x0 x1 x2 x3 x4 x5 mo ou (nI 0) re ak gv kn ro LL ff)) jNo := by
  refine jMet.intro' [(0, .ref mo), (1, .int (nI i))] (by decide) (Nat.le_of_ble_eq_true rfl) rfl ?_
  intro p e R s m args below meth c Q C hQ
  refine j_aload_n C dX5_text_0 rfl ?_
  refine j_iload_n C dX5_text_1 rfl ?_
  refine j_callSr C (v := .int (nI 0)) (w := (mW E x0 x1 x2 x3 x4 x5 mo ou th re ak gv kn ro LL ff)) (m_isNo_0 l E A (by omega)) ok_X5_isNo w_959 (by decide) rfl rfl (Nat.le_of_ble_eq_true rfl) ⟨Nat.le_of_ble_eq_true rfl, Nat.le_of_ble_eq_true rfl⟩ dX5_text_2 ?_
  refine j_iconst (v := (nI 1)) C dX5_text_5 rfl ?_
  refine j_callVr C 6 (v := .int (nI 0)) (w := (mW E x0 x1 x2 x3 x4 x5 mo ou (nI 0) re ak gv kn ro LL ff)) (m_start_0 l E A) ok_X5_start w_962 (by decide) rfl rfl (Nat.le_of_ble_eq_true rfl) rfl rfl ⟨Nat.le_of_ble_eq_true rfl, Nat.le_of_ble_eq_true rfl⟩ dX5_text_6 ?_
  refine j_ifn_eq_t (tgt := 17) C dX5_text_9 (by decide) (by omega) (by omega) ?_
  refine j_aload_n C dX5_text_17 rfl ?_
  refine j_get C 6 rfl inj_X5 rfl 1 (by decide) w_922 rfl dX5_text_18 ?_
  refine j_iload_n C dX5_text_21 rfl ?_
  refine j_aaload (v := .ref ai) C 7 i rfl rfl (by omega) (by decide) (by rw [show ro i = some ai from hrai]; rfl) dX5_text_22 ?_
  refine j_ifnonnull_t (tgt := 31) C dX5_text_23 (by decide) ?_
  refine j_aload_n C dX5_text_31 rfl ?_
  refine j_get C 6 rfl inj_X5 rfl 1 (by decide) w_922 rfl dX5_text_32 ?_
  refine j_iload_n C dX5_text_35 rfl ?_
  refine j_aaload (v := .ref ai) C 7 i rfl rfl (by omega) (by decide) (by rw [show ro i = some ai from hrai]; rfl) dX5_text_36 ?_
  refine j_callS C (m_textOf l E A hmai hfai (by omega) hs) ok_X5_textOf w_1064 (by decide) rfl rfl (Nat.le_of_ble_eq_true rfl) ⟨Nat.le_of_ble_eq_true rfl, Nat.le_of_ble_eq_true rfl⟩ dX5_text_37 (fun _ _ h => h.elim) (fun _ _ h => ?_)
  obtain ⟨aa1, rfl, rfl⟩ := h
  exact j_aret C hQ rfl (Or.inl ⟨_, rfl⟩) dX5_text_40 ⟨Nat.le_of_ble_eq_true rfl, Nat.le_of_ble_eq_true rfl⟩ ⟨_, rfl, rfl⟩
set_option maxHeartbeats 4000000 in
set_option maxRecDepth 100000 in
theorem g_part_b (l : Launch) (E : jE) (A : Nat → Prop) {x0 x1 x2 x3 x4 x5 : Nat × va_E} {mo ou : Nat} {th re ak gv kn : Int32} {ro : Nat → Option Nat} {LL : List Nat} {ff : Nat → va_E} {x y w : Int32} (hbx : x < 0 ∨ nI 9 ≤ x)  : jMet l yX5_part_ cX5_part_ 4 (some (.object "java/lang/String")) 8 144 3024 E A [.ref mo, .int x, .int y, .int w] (mW E x0 x1 x2 x3 x4 x5 mo ou th re ak gv kn ro LL ff) (fun vv ww => ∃ aa : Nat, vv = some (.ref aa) ∧ ww = (mW E x0 x1 x2 x3 x4 x5 mo ou (nI 1) re ak gv kn ro LL ff)) jNo := by
  refine jMet.intro' [(0, .ref mo), (1, .int x), (2, .int y), (3, .int w)] (by decide) (Nat.le_of_ble_eq_true rfl) rfl ?_
  intro p e R s m args below meth c Q C hQ
  refine j_aload_n C dX5_part__0 rfl ?_
  refine j_iload_n C dX5_part__1 rfl ?_
  refine j_callSr C (v := .int (nI 1)) (w := (mW E x0 x1 x2 x3 x4 x5 mo ou th re ak gv kn ro LL ff)) (m_isNo_1 l E A hbx) ok_X5_isNo w_959 (by decide) rfl rfl (Nat.le_of_ble_eq_true rfl) ⟨Nat.le_of_ble_eq_true rfl, Nat.le_of_ble_eq_true rfl⟩ dX5_part__2 ?_
  refine j_iconst (v := (nI 1)) C dX5_part__5 rfl ?_
  refine j_callVr C 6 (v := .int (nI 1)) (w := (mW E x0 x1 x2 x3 x4 x5 mo ou (nI 1) re ak gv kn ro LL ff)) (m_start_1 l E A (by decide) (by decide)) ok_X5_start w_962 (by decide) rfl rfl (Nat.le_of_ble_eq_true rfl) rfl rfl ⟨Nat.le_of_ble_eq_true rfl, Nat.le_of_ble_eq_true rfl⟩ dX5_part__6 ?_
  refine j_ifn_eq_f (tgt := 15) C dX5_part__9 (by decide) (by omega) (by omega) ?_
  refine j_ldcE C rfl dX5_part__12 ?_
  exact j_aret C hQ rfl (Or.inl ⟨_, rfl⟩) dX5_part__14 ⟨Nat.le_of_ble_eq_true rfl, Nat.le_of_ble_eq_true rfl⟩ ⟨_, rfl, rfl⟩
set_option maxHeartbeats 4000000 in
set_option maxRecDepth 100000 in
theorem g_part_m (l : Launch) (E : jE) (A : Nat → Prop) {x0 x1 x2 x3 x4 x5 : Nat × va_E} {mo ou : Nat} {th re ak gv kn : Int32} {ro : Nat → Option Nat} {LL : List Nat} {ff : Nat → va_E} {i : Nat} (hi : i < 9) (hri : ro i = none) {y w : Int32}  : jMet l yX5_part_ cX5_part_ 4 (some (.object "java/lang/String")) 8 144 3024 E A [.ref mo, .int (nI i), .int y, .int w] (mW E x0 x1 x2 x3 x4 x5 mo ou th re ak gv kn ro LL ff) (fun vv ww => ∃ aa : Nat, vv = some (.ref aa) ∧ ww = (mW E x0 x1 x2 x3 x4 x5 mo ou (nI 0) (re + nI 1) ak gv kn ro LL ff)) jNo := by
  refine jMet.intro' [(0, .ref mo), (1, .int (nI i)), (2, .int y), (3, .int w)] (by decide) (Nat.le_of_ble_eq_true rfl) rfl ?_
  intro p e R s m args below meth c Q C hQ
  refine j_aload_n C dX5_part__0 rfl ?_
  refine j_iload_n C dX5_part__1 rfl ?_
  refine j_callSr C (v := .int (nI 0)) (w := (mW E x0 x1 x2 x3 x4 x5 mo ou th re ak gv kn ro LL ff)) (m_isNo_0 l E A (by omega)) ok_X5_isNo w_959 (by decide) rfl rfl (Nat.le_of_ble_eq_true rfl) ⟨Nat.le_of_ble_eq_true rfl, Nat.le_of_ble_eq_true rfl⟩ dX5_part__2 ?_
  refine j_iconst (v := (nI 1)) C dX5_part__5 rfl ?_
  refine j_callVr C 6 (v := .int (nI 0)) (w := (mW E x0 x1 x2 x3 x4 x5 mo ou (nI 0) re ak gv kn ro LL ff)) (m_start_0 l E A) ok_X5_start w_962 (by decide) rfl rfl (Nat.le_of_ble_eq_true rfl) rfl rfl ⟨Nat.le_of_ble_eq_true rfl, Nat.le_of_ble_eq_true rfl⟩ dX5_part__6 ?_
  refine j_ifn_eq_t (tgt := 15) C dX5_part__9 (by decide) (by omega) (by omega) ?_
  refine j_aload_n C dX5_part__15 rfl ?_
  refine j_get C 6 rfl inj_X5 rfl 1 (by decide) w_922 rfl dX5_part__16 ?_
  refine j_iload_n C dX5_part__19 rfl ?_
  refine j_aaload (v := .null) C 7 i rfl rfl (by omega) (by decide) (by rw [show ro i = none from hri]; rfl) dX5_part__20 ?_
  refine j_ifnull_t (tgt := 40) C dX5_part__21 (by decide) ?_
  refine j_aload_n C dX5_part__40 rfl ?_
  refine j_callV C (q0 := 6) (m_noText l E A) ok_X5_noText w_1084 (by decide) rfl rfl (Nat.le_of_ble_eq_true rfl) rfl rfl ⟨Nat.le_of_ble_eq_true rfl, Nat.le_of_ble_eq_true rfl⟩ dX5_part__41 (fun _ _ h => h.elim) (fun _ _ h => ?_)
  obtain ⟨aa1, rfl, rfl⟩ := h
  refine j_goto (tgt := 61) C dX5_part__44 (by decide) ?_
  exact j_aret C hQ rfl (Or.inl ⟨_, rfl⟩) dX5_part__61 ⟨Nat.le_of_ble_eq_true rfl, Nat.le_of_ble_eq_true rfl⟩ ⟨_, rfl, rfl⟩
set_option maxHeartbeats 4000000 in
set_option maxRecDepth 100000 in
theorem g_part_o (l : Launch) (E : jE) (A : Nat → Prop) {x0 x1 x2 x3 x4 x5 : Nat × va_E} {mo ou : Nat} {th re ak gv kn : Int32} {ro : Nat → Option Nat} {LL : List Nat} {ff : Nat → va_E} {i : Nat} (hi : i < 9) {ai n : Nat} {h : Nat → Int32} (hrai : ro i = some ai) (hmai : ai ∈ LL) (hfai : ff ai = .inl (E.2.1, n, .inl h)) (hnai : n ≤ 24) {y w : Int32} (hout : ¬ (¬ y.toInt64 < 0 ∧ ¬ w.toInt64 < y.toInt64 ∧ ¬ ((nI n).toInt64) < w.toInt64)) : jMet l yX5_part_ cX5_part_ 4 (some (.object "java/lang/String")) 8 144 3024 E A [.ref mo, .int (nI i), .int y, .int w] (mW E x0 x1 x2 x3 x4 x5 mo ou th re ak gv kn ro LL ff) (fun vv ww => ∃ aa : Nat, vv = some (.ref aa) ∧ ww = (mW E x0 x1 x2 x3 x4 x5 mo ou (nI 0) (re + nI 1) ak gv kn ro LL ff)) jNo := by
  refine jMet.intro' [(0, .ref mo), (1, .int (nI i)), (2, .int y), (3, .int w)] (by decide) (Nat.le_of_ble_eq_true rfl) rfl ?_
  intro p e R s m args below meth c Q C hQ
  refine j_aload_n C dX5_part__0 rfl ?_
  refine j_iload_n C dX5_part__1 rfl ?_
  refine j_callSr C (v := .int (nI 0)) (w := (mW E x0 x1 x2 x3 x4 x5 mo ou th re ak gv kn ro LL ff)) (m_isNo_0 l E A (by omega)) ok_X5_isNo w_959 (by decide) rfl rfl (Nat.le_of_ble_eq_true rfl) ⟨Nat.le_of_ble_eq_true rfl, Nat.le_of_ble_eq_true rfl⟩ dX5_part__2 ?_
  refine j_iconst (v := (nI 1)) C dX5_part__5 rfl ?_
  refine j_callVr C 6 (v := .int (nI 0)) (w := (mW E x0 x1 x2 x3 x4 x5 mo ou (nI 0) re ak gv kn ro LL ff)) (m_start_0 l E A) ok_X5_start w_962 (by decide) rfl rfl (Nat.le_of_ble_eq_true rfl) rfl rfl ⟨Nat.le_of_ble_eq_true rfl, Nat.le_of_ble_eq_true rfl⟩ dX5_part__6 ?_
  refine j_ifn_eq_t (tgt := 15) C dX5_part__9 (by decide) (by omega) (by omega) ?_
  refine j_aload_n C dX5_part__15 rfl ?_
  refine j_get C 6 rfl inj_X5 rfl 1 (by decide) w_922 rfl dX5_part__16 ?_
  refine j_iload_n C dX5_part__19 rfl ?_
  refine j_aaload (v := .ref ai) C 7 i rfl rfl (by omega) (by decide) (by rw [show ro i = some ai from hrai]; rfl) dX5_part__20 ?_
  refine j_ifnull_f C dX5_part__21 ?_
  refine j_iload_n C dX5_part__24 rfl ?_
  refine j_i2l (v := y.toInt64) C dX5_part__25 rfl ?_
  refine j_iload_n C dX5_part__26 rfl ?_
  refine j_i2l (v := w.toInt64) C dX5_part__27 rfl ?_
  refine j_aload_n C dX5_part__28 rfl ?_
  refine j_iload_n C dX5_part__29 rfl ?_
  refine j_callVr C 6 (v := .int (nI n)) (w := (mW E x0 x1 x2 x3 x4 x5 mo ou (nI 0) re ak gv kn ro LL ff)) (m_many_k l E A (by omega) hrai hmai hfai (by omega)) ok_X5_many w_970 (by decide) rfl rfl (Nat.le_of_ble_eq_true rfl) rfl rfl ⟨Nat.le_of_ble_eq_true rfl, Nat.le_of_ble_eq_true rfl⟩ dX5_part__30 ?_
  refine j_i2l (v := (nI n).toInt64) C dX5_part__33 rfl ?_
  refine j_callSr C (v := .int (bI (¬ y.toInt64 < 0 ∧ ¬ w.toInt64 < y.toInt64 ∧ ¬ ((nI n).toInt64) < w.toInt64))) (w := (mW E x0 x1 x2 x3 x4 x5 mo ou (nI 0) re ak gv kn ro LL ff)) (m_isSpan l E A) ok_X5_isSpan w_989 (by decide) rfl rfl (Nat.le_of_ble_eq_true rfl) ⟨Nat.le_of_ble_eq_true rfl, Nat.le_of_ble_eq_true rfl⟩ dX5_part__34 ?_
  refine j_ifb_ne_f (tgt := 47) C dX5_part__37 (by decide) hout ?_
  refine j_aload_n C dX5_part__40 rfl ?_
  refine j_callV C (q0 := 6) (m_noText l E A) ok_X5_noText w_1084 (by decide) rfl rfl (Nat.le_of_ble_eq_true rfl) rfl rfl ⟨Nat.le_of_ble_eq_true rfl, Nat.le_of_ble_eq_true rfl⟩ dX5_part__41 (fun _ _ h => h.elim) (fun _ _ h => ?_)
  obtain ⟨aa1, rfl, rfl⟩ := h
  refine j_goto (tgt := 61) C dX5_part__44 (by decide) ?_
  exact j_aret C hQ rfl (Or.inl ⟨_, rfl⟩) dX5_part__61 ⟨Nat.le_of_ble_eq_true rfl, Nat.le_of_ble_eq_true rfl⟩ ⟨_, rfl, rfl⟩
set_option maxHeartbeats 4000000 in
set_option maxRecDepth 100000 in
theorem g_part_k (l : Launch) (E : jE) (A : Nat → Prop) {x0 x1 x2 x3 x4 x5 : Nat × va_E} {mo ou : Nat} {th re ak gv kn : Int32} {ro : Nat → Option Nat} {LL : List Nat} {ff : Nat → va_E} {i : Nat} (hi : i < 9) {ai n : Nat} {h : Nat → Int32} (hrai : ro i = some ai) (hmai : ai ∈ LL) (hfai : ff ai = .inl (E.2.1, n, .inl h)) (hnai : n ≤ 24) {a v : Nat} (hav : a ≤ v) (hvn : v ≤ n) (hs : ∀ k, k < n → isSg (h k))  : jMet l yX5_part_ cX5_part_ 4 (some (.object "java/lang/String")) 8 145 3048 E A [.ref mo, .int (nI i), .int (nI a), .int (nI v)] (mW E x0 x1 x2 x3 x4 x5 mo ou th re ak gv kn ro LL ff) (fun vv ww => ∃ aa q : Nat, q ∉ LL ∧ vv = some (.ref aa) ∧ ww = mW E x0 x1 x2 x3 x4 x5 mo ou (nI 0) re ak gv kn ro (LL ++ [q]) (va_up ff q (.inl (E.2.1, v - a, .inl (pfx (fun q => h (a + q)) (v - a)))))) jNo := by
  refine jMet.intro' [(0, .ref mo), (1, .int (nI i)), (2, .int (nI a)), (3, .int (nI v))] (by decide) (Nat.le_of_ble_eq_true rfl) rfl ?_
  intro p e R s m args below meth c Q C hQ
  refine j_aload_n C dX5_part__0 rfl ?_
  refine j_iload_n C dX5_part__1 rfl ?_
  refine j_callSr C (v := .int (nI 0)) (w := (mW E x0 x1 x2 x3 x4 x5 mo ou th re ak gv kn ro LL ff)) (m_isNo_0 l E A (by omega)) ok_X5_isNo w_959 (by decide) rfl rfl (Nat.le_of_ble_eq_true rfl) ⟨Nat.le_of_ble_eq_true rfl, Nat.le_of_ble_eq_true rfl⟩ dX5_part__2 ?_
  refine j_iconst (v := (nI 1)) C dX5_part__5 rfl ?_
  refine j_callVr C 6 (v := .int (nI 0)) (w := (mW E x0 x1 x2 x3 x4 x5 mo ou (nI 0) re ak gv kn ro LL ff)) (m_start_0 l E A) ok_X5_start w_962 (by decide) rfl rfl (Nat.le_of_ble_eq_true rfl) rfl rfl ⟨Nat.le_of_ble_eq_true rfl, Nat.le_of_ble_eq_true rfl⟩ dX5_part__6 ?_
  refine j_ifn_eq_t (tgt := 15) C dX5_part__9 (by decide) (by omega) (by omega) ?_
  refine j_aload_n C dX5_part__15 rfl ?_
  refine j_get C 6 rfl inj_X5 rfl 1 (by decide) w_922 rfl dX5_part__16 ?_
  refine j_iload_n C dX5_part__19 rfl ?_
  refine j_aaload (v := .ref ai) C 7 i rfl rfl (by omega) (by decide) (by rw [show ro i = some ai from hrai]; rfl) dX5_part__20 ?_
  refine j_ifnull_f C dX5_part__21 ?_
  refine j_iload_n C dX5_part__24 rfl ?_
  refine j_i2l (v := (nI a).toInt64) C dX5_part__25 rfl ?_
  refine j_iload_n C dX5_part__26 rfl ?_
  refine j_i2l (v := (nI v).toInt64) C dX5_part__27 rfl ?_
  refine j_aload_n C dX5_part__28 rfl ?_
  refine j_iload_n C dX5_part__29 rfl ?_
  refine j_callVr C 6 (v := .int (nI n)) (w := (mW E x0 x1 x2 x3 x4 x5 mo ou (nI 0) re ak gv kn ro LL ff)) (m_many_k l E A (by omega) hrai hmai hfai (by omega)) ok_X5_many w_970 (by decide) rfl rfl (Nat.le_of_ble_eq_true rfl) rfl rfl ⟨Nat.le_of_ble_eq_true rfl, Nat.le_of_ble_eq_true rfl⟩ dX5_part__30 ?_
  refine j_i2l (v := (nI n).toInt64) C dX5_part__33 rfl ?_
  refine j_callSr C (v := .int (bI (¬ ((nI a).toInt64) < 0 ∧ ¬ ((nI v).toInt64) < ((nI a).toInt64) ∧ ¬ ((nI n).toInt64) < ((nI v).toInt64)))) (w := (mW E x0 x1 x2 x3 x4 x5 mo ou (nI 0) re ak gv kn ro LL ff)) (m_isSpan l E A) ok_X5_isSpan w_989 (by decide) rfl rfl (Nat.le_of_ble_eq_true rfl) ⟨Nat.le_of_ble_eq_true rfl, Nat.le_of_ble_eq_true rfl⟩ dX5_part__34 ?_
  refine j_ifb_ne_t (tgt := 47) C dX5_part__37 (by decide) (span_of hav hvn hnai) ?_
  refine j_aload_n C dX5_part__47 rfl ?_
  refine j_get C 6 rfl inj_X5 rfl 1 (by decide) w_922 rfl dX5_part__48 ?_
  refine j_iload_n C dX5_part__51 rfl ?_
  refine j_aaload (v := .ref ai) C 7 i rfl rfl (by omega) (by decide) (by rw [show ro i = some ai from hrai]; rfl) dX5_part__52 ?_
  refine j_iload_n C dX5_part__53 rfl ?_
  refine j_iload_n C dX5_part__54 rfl ?_
  refine j_callSf C (n := v - a) (h := pfx (fun q => h (a + q)) (v - a)) (m_part l E A hmai hfai (by omega) (by omega) (by omega)) ok_X5_part w_996 (by decide) rfl rfl (Nat.le_of_ble_eq_true rfl) ⟨Nat.le_of_ble_eq_true rfl, Nat.le_of_ble_eq_true rfl⟩ dX5_part__55 (fun q1 hq1 => ?_)
  refine j_callS C (m_textOf l E A pool_newm pool_new (by omega) (pfx_sg hs hvn)) ok_X5_textOf w_1064 (by decide) rfl rfl (Nat.le_of_ble_eq_true rfl) ⟨Nat.le_of_ble_eq_true rfl, Nat.le_of_ble_eq_true rfl⟩ dX5_part__58 (fun _ _ h => h.elim) (fun _ _ h => ?_)
  obtain ⟨aa1, rfl, rfl⟩ := h
  exact j_aret C hQ rfl (Or.inl ⟨_, rfl⟩) dX5_part__61 ⟨Nat.le_of_ble_eq_true rfl, Nat.le_of_ble_eq_true rfl⟩ ⟨_, q1, hq1, rfl, rfl⟩
set_option maxHeartbeats 4000000 in
set_option maxRecDepth 100000 in
theorem m_either_k1 (l : Launch) (E : jE) (A : Nat → Prop) {x0 x1 x2 x3 x4 x5 : Nat × va_E} {mo ou : Nat} {th re ak gv kn : Int32} {ro : Nat → Option Nat} {LL : List Nat} {ff : Nat → va_E} {i : Nat} (hi : i < 9) {ai n : Nat} {h : Nat → Int32} (hrai : ro i = some ai) (hmai : ai ∈ LL) (hfai : ff ai = .inl (E.2.1, n, .inl h)) (hnai : n ≤ 24) (hs : ∀ k, k < n → isSg (h k)) {j : Nat} (hj : j < 9)  : jMet l yX5_either cX5_either 4 (some (.object "java/lang/String")) 7 144 3024 E A [.ref mo, .int (nI i), .int (nI j)] (mW E x0 x1 x2 x3 x4 x5 mo ou th re ak gv kn ro LL ff) (fun vv ww => ∃ aa : Nat, vv = some (.ref aa) ∧ ww = (mW E x0 x1 x2 x3 x4 x5 mo ou th re ak gv kn ro LL ff)) jNo := by
  refine jMet.intro' [(0, .ref mo), (1, .int (nI i)), (2, .int (nI j))] (by decide) (Nat.le_of_ble_eq_true rfl) rfl ?_
  intro p e R s m args below meth c Q C hQ
  refine j_aload_n C dX5_either_0 rfl ?_
  refine j_get C 6 rfl inj_X5 rfl 1 (by decide) w_922 rfl dX5_either_1 ?_
  refine j_iload_n C dX5_either_4 rfl ?_
  refine j_aaload (v := .ref ai) C 7 i rfl rfl (by omega) (by decide) (by rw [show ro i = some ai from hrai]; rfl) dX5_either_5 ?_
  refine j_ifnonnull_t (tgt := 18) C dX5_either_6 (by decide) ?_
  refine j_aload_n C dX5_either_18 rfl ?_
  refine j_get C 6 rfl inj_X5 rfl 1 (by decide) w_922 rfl dX5_either_19 ?_
  refine j_iload_n C dX5_either_22 rfl ?_
  refine j_aaload (v := .ref ai) C 7 i rfl rfl (by omega) (by decide) (by rw [show ro i = some ai from hrai]; rfl) dX5_either_23 ?_
  refine j_astore_n (lv' := [(3, .ref ai), (0, .ref mo), (1, .int (nI i)), (2, .int (nI j))]) C dX5_either_24 (by decide) rfl ?_
  refine j_aload_n C dX5_either_25 rfl ?_
  refine j_ifnonnull_t (tgt := 36) C dX5_either_26 (by decide) ?_
  refine j_aload_n C dX5_either_36 rfl ?_
  refine j_callS C (m_textOf l E A hmai hfai (by omega) hs) ok_X5_textOf w_1064 (by decide) rfl rfl (Nat.le_of_ble_eq_true rfl) ⟨Nat.le_of_ble_eq_true rfl, Nat.le_of_ble_eq_true rfl⟩ dX5_either_37 (fun _ _ h => h.elim) (fun _ _ h => ?_)
  obtain ⟨aa1, rfl, rfl⟩ := h
  exact j_aret C hQ rfl (Or.inl ⟨_, rfl⟩) dX5_either_40 ⟨Nat.le_of_ble_eq_true rfl, Nat.le_of_ble_eq_true rfl⟩ ⟨_, rfl, rfl⟩
set_option maxHeartbeats 4000000 in
set_option maxRecDepth 100000 in
theorem m_either_k2 (l : Launch) (E : jE) (A : Nat → Prop) {x0 x1 x2 x3 x4 x5 : Nat × va_E} {mo ou : Nat} {th re ak gv kn : Int32} {ro : Nat → Option Nat} {LL : List Nat} {ff : Nat → va_E} {i : Nat} (hi : i < 9) (hri : ro i = none) {j : Nat} (hj : j < 9) {aj o : Nat} {g : Nat → Int32} (hraj : ro j = some aj) (hmaj : aj ∈ LL) (hfaj : ff aj = .inl (E.2.1, o, .inl g)) (hnaj : o ≤ 24) (hsj : ∀ k, k < o → isSg (g k))  : jMet l yX5_either cX5_either 4 (some (.object "java/lang/String")) 7 144 3024 E A [.ref mo, .int (nI i), .int (nI j)] (mW E x0 x1 x2 x3 x4 x5 mo ou th re ak gv kn ro LL ff) (fun vv ww => ∃ aa : Nat, vv = some (.ref aa) ∧ ww = (mW E x0 x1 x2 x3 x4 x5 mo ou th re ak gv kn ro LL ff)) jNo := by
  refine jMet.intro' [(0, .ref mo), (1, .int (nI i)), (2, .int (nI j))] (by decide) (Nat.le_of_ble_eq_true rfl) rfl ?_
  intro p e R s m args below meth c Q C hQ
  refine j_aload_n C dX5_either_0 rfl ?_
  refine j_get C 6 rfl inj_X5 rfl 1 (by decide) w_922 rfl dX5_either_1 ?_
  refine j_iload_n C dX5_either_4 rfl ?_
  refine j_aaload (v := .null) C 7 i rfl rfl (by omega) (by decide) (by rw [show ro i = none from hri]; rfl) dX5_either_5 ?_
  refine j_ifnonnull_f C dX5_either_6 ?_
  refine j_aload_n C dX5_either_9 rfl ?_
  refine j_get C 6 rfl inj_X5 rfl 1 (by decide) w_922 rfl dX5_either_10 ?_
  refine j_iload_n C dX5_either_13 rfl ?_
  refine j_aaload (v := .ref aj) C 7 j rfl rfl (by omega) (by decide) (by rw [show ro j = some aj from hraj]; rfl) dX5_either_14 ?_
  refine j_goto (tgt := 24) C dX5_either_15 (by decide) ?_
  refine j_astore_n (lv' := [(3, .ref aj), (0, .ref mo), (1, .int (nI i)), (2, .int (nI j))]) C dX5_either_24 (by decide) rfl ?_
  refine j_aload_n C dX5_either_25 rfl ?_
  refine j_ifnonnull_t (tgt := 36) C dX5_either_26 (by decide) ?_
  refine j_aload_n C dX5_either_36 rfl ?_
  refine j_callS C (m_textOf l E A hmaj hfaj (by omega) hsj) ok_X5_textOf w_1064 (by decide) rfl rfl (Nat.le_of_ble_eq_true rfl) ⟨Nat.le_of_ble_eq_true rfl, Nat.le_of_ble_eq_true rfl⟩ dX5_either_37 (fun _ _ h => h.elim) (fun _ _ h => ?_)
  obtain ⟨aa1, rfl, rfl⟩ := h
  exact j_aret C hQ rfl (Or.inl ⟨_, rfl⟩) dX5_either_40 ⟨Nat.le_of_ble_eq_true rfl, Nat.le_of_ble_eq_true rfl⟩ ⟨_, rfl, rfl⟩
set_option maxHeartbeats 4000000 in
set_option maxRecDepth 100000 in
theorem m_either_m (l : Launch) (E : jE) (A : Nat → Prop) {x0 x1 x2 x3 x4 x5 : Nat × va_E} {mo ou : Nat} {th re ak gv kn : Int32} {ro : Nat → Option Nat} {LL : List Nat} {ff : Nat → va_E} {i : Nat} (hi : i < 9) (hri : ro i = none) {j : Nat} (hj : j < 9) (hrj : ro j = none)  : jMet l yX5_either cX5_either 4 (some (.object "java/lang/String")) 7 144 3024 E A [.ref mo, .int (nI i), .int (nI j)] (mW E x0 x1 x2 x3 x4 x5 mo ou th re ak gv kn ro LL ff) (fun vv ww => ∃ aa : Nat, vv = some (.ref aa) ∧ ww = (mW E x0 x1 x2 x3 x4 x5 mo ou th (re + nI 1) ak gv kn ro LL ff)) jNo := by
  refine jMet.intro' [(0, .ref mo), (1, .int (nI i)), (2, .int (nI j))] (by decide) (Nat.le_of_ble_eq_true rfl) rfl ?_
  intro p e R s m args below meth c Q C hQ
  refine j_aload_n C dX5_either_0 rfl ?_
  refine j_get C 6 rfl inj_X5 rfl 1 (by decide) w_922 rfl dX5_either_1 ?_
  refine j_iload_n C dX5_either_4 rfl ?_
  refine j_aaload (v := .null) C 7 i rfl rfl (by omega) (by decide) (by rw [show ro i = none from hri]; rfl) dX5_either_5 ?_
  refine j_ifnonnull_f C dX5_either_6 ?_
  refine j_aload_n C dX5_either_9 rfl ?_
  refine j_get C 6 rfl inj_X5 rfl 1 (by decide) w_922 rfl dX5_either_10 ?_
  refine j_iload_n C dX5_either_13 rfl ?_
  refine j_aaload (v := .null) C 7 j rfl rfl (by omega) (by decide) (by rw [show ro j = none from hrj]; rfl) dX5_either_14 ?_
  refine j_goto (tgt := 24) C dX5_either_15 (by decide) ?_
  refine j_astore_nN (lv' := [(3, .null), (0, .ref mo), (1, .int (nI i)), (2, .int (nI j))]) C dX5_either_24 (by decide) rfl ?_
  refine j_aload_nN C dX5_either_25 rfl ?_
  refine j_ifnonnull_f C dX5_either_26 ?_
  refine j_aload_n C dX5_either_29 rfl ?_
  refine j_callV C (q0 := 6) (m_noText l E A) ok_X5_noText w_1084 (by decide) rfl rfl (Nat.le_of_ble_eq_true rfl) rfl rfl ⟨Nat.le_of_ble_eq_true rfl, Nat.le_of_ble_eq_true rfl⟩ dX5_either_30 (fun _ _ h => h.elim) (fun _ _ h => ?_)
  obtain ⟨aa1, rfl, rfl⟩ := h
  refine j_goto (tgt := 40) C dX5_either_33 (by decide) ?_
  exact j_aret C hQ rfl (Or.inl ⟨_, rfl⟩) dX5_either_40 ⟨Nat.le_of_ble_eq_true rfl, Nat.le_of_ble_eq_true rfl⟩ ⟨_, rfl, rfl⟩
set_option maxHeartbeats 4000000 in
set_option maxRecDepth 100000 in
theorem g_orElse_k1 (l : Launch) (E : jE) (A : Nat → Prop) {x0 x1 x2 x3 x4 x5 : Nat × va_E} {mo ou : Nat} {th re ak gv kn : Int32} {ro : Nat → Option Nat} {LL : List Nat} {ff : Nat → va_E} {i : Nat} (hi : i < 9) {ai n : Nat} {h : Nat → Int32} (hrai : ro i = some ai) (hmai : ai ∈ LL) (hfai : ff ai = .inl (E.2.1, n, .inl h)) (hnai : n ≤ 24) (hs : ∀ k, k < n → isSg (h k)) {j : Nat} (hj : j < 9)  : jMet l yX5_orElse cX5_orElse 3 (some (.object "java/lang/String")) 8 144 3024 E A [.ref mo, .int (nI i), .int (nI j)] (mW E x0 x1 x2 x3 x4 x5 mo ou th re ak gv kn ro LL ff) (fun vv ww => ∃ aa : Nat, vv = some (.ref aa) ∧ ww = (mW E x0 x1 x2 x3 x4 x5 mo ou (nI 0) re ak gv kn ro LL ff)) jNo := by
  refine jMet.intro' [(0, .ref mo), (1, .int (nI i)), (2, .int (nI j))] (by decide) (Nat.le_of_ble_eq_true rfl) rfl ?_
  intro p e R s m args below meth c Q C hQ
  refine j_aload_n C dX5_orElse_0 rfl ?_
  refine j_iload_n C dX5_orElse_1 rfl ?_
  refine j_iload_n C dX5_orElse_2 rfl ?_
  refine j_callVr C 6 (v := .int (nI 0)) (w := (mW E x0 x1 x2 x3 x4 x5 mo ou (nI 0) re ak gv kn ro LL ff)) (m_areNo_0 l E A (by omega) (by omega)) ok_X5_areNo w_1014 (by decide) rfl rfl (Nat.le_of_ble_eq_true rfl) rfl rfl ⟨Nat.le_of_ble_eq_true rfl, Nat.le_of_ble_eq_true rfl⟩ dX5_orElse_3 ?_
  refine j_ifn_eq_t (tgt := 14) C dX5_orElse_6 (by decide) (by omega) (by omega) ?_
  refine j_aload_n C dX5_orElse_14 rfl ?_
  refine j_iload_n C dX5_orElse_15 rfl ?_
  refine j_iload_n C dX5_orElse_16 rfl ?_
  refine j_callV C (q0 := 6) (m_either_k1 l E A hi hrai hmai hfai hnai hs hj) ok_X5_either w_1142 (by decide) rfl rfl (Nat.le_of_ble_eq_true rfl) rfl rfl ⟨Nat.le_of_ble_eq_true rfl, Nat.le_of_ble_eq_true rfl⟩ dX5_orElse_17 (fun _ _ h => h.elim) (fun _ _ h => ?_)
  obtain ⟨aa1, rfl, rfl⟩ := h
  exact j_aret C hQ rfl (Or.inl ⟨_, rfl⟩) dX5_orElse_20 ⟨Nat.le_of_ble_eq_true rfl, Nat.le_of_ble_eq_true rfl⟩ ⟨_, rfl, rfl⟩
set_option maxHeartbeats 4000000 in
set_option maxRecDepth 100000 in
theorem g_orElse_k2 (l : Launch) (E : jE) (A : Nat → Prop) {x0 x1 x2 x3 x4 x5 : Nat × va_E} {mo ou : Nat} {th re ak gv kn : Int32} {ro : Nat → Option Nat} {LL : List Nat} {ff : Nat → va_E} {i : Nat} (hi : i < 9) (hri : ro i = none) {j : Nat} (hj : j < 9) {aj o : Nat} {g : Nat → Int32} (hraj : ro j = some aj) (hmaj : aj ∈ LL) (hfaj : ff aj = .inl (E.2.1, o, .inl g)) (hnaj : o ≤ 24) (hsj : ∀ k, k < o → isSg (g k))  : jMet l yX5_orElse cX5_orElse 3 (some (.object "java/lang/String")) 8 144 3024 E A [.ref mo, .int (nI i), .int (nI j)] (mW E x0 x1 x2 x3 x4 x5 mo ou th re ak gv kn ro LL ff) (fun vv ww => ∃ aa : Nat, vv = some (.ref aa) ∧ ww = (mW E x0 x1 x2 x3 x4 x5 mo ou (nI 0) re ak gv kn ro LL ff)) jNo := by
  refine jMet.intro' [(0, .ref mo), (1, .int (nI i)), (2, .int (nI j))] (by decide) (Nat.le_of_ble_eq_true rfl) rfl ?_
  intro p e R s m args below meth c Q C hQ
  refine j_aload_n C dX5_orElse_0 rfl ?_
  refine j_iload_n C dX5_orElse_1 rfl ?_
  refine j_iload_n C dX5_orElse_2 rfl ?_
  refine j_callVr C 6 (v := .int (nI 0)) (w := (mW E x0 x1 x2 x3 x4 x5 mo ou (nI 0) re ak gv kn ro LL ff)) (m_areNo_0 l E A (by omega) (by omega)) ok_X5_areNo w_1014 (by decide) rfl rfl (Nat.le_of_ble_eq_true rfl) rfl rfl ⟨Nat.le_of_ble_eq_true rfl, Nat.le_of_ble_eq_true rfl⟩ dX5_orElse_3 ?_
  refine j_ifn_eq_t (tgt := 14) C dX5_orElse_6 (by decide) (by omega) (by omega) ?_
  refine j_aload_n C dX5_orElse_14 rfl ?_
  refine j_iload_n C dX5_orElse_15 rfl ?_
  refine j_iload_n C dX5_orElse_16 rfl ?_
  refine j_callV C (q0 := 6) (m_either_k2 l E A hi hri hj hraj hmaj hfaj hnaj hsj) ok_X5_either w_1142 (by decide) rfl rfl (Nat.le_of_ble_eq_true rfl) rfl rfl ⟨Nat.le_of_ble_eq_true rfl, Nat.le_of_ble_eq_true rfl⟩ dX5_orElse_17 (fun _ _ h => h.elim) (fun _ _ h => ?_)
  obtain ⟨aa1, rfl, rfl⟩ := h
  exact j_aret C hQ rfl (Or.inl ⟨_, rfl⟩) dX5_orElse_20 ⟨Nat.le_of_ble_eq_true rfl, Nat.le_of_ble_eq_true rfl⟩ ⟨_, rfl, rfl⟩
set_option maxHeartbeats 4000000 in
set_option maxRecDepth 100000 in
theorem g_orElse_m (l : Launch) (E : jE) (A : Nat → Prop) {x0 x1 x2 x3 x4 x5 : Nat × va_E} {mo ou : Nat} {th re ak gv kn : Int32} {ro : Nat → Option Nat} {LL : List Nat} {ff : Nat → va_E} {i : Nat} (hi : i < 9) (hri : ro i = none) {j : Nat} (hj : j < 9) (hrj : ro j = none)  : jMet l yX5_orElse cX5_orElse 3 (some (.object "java/lang/String")) 8 144 3024 E A [.ref mo, .int (nI i), .int (nI j)] (mW E x0 x1 x2 x3 x4 x5 mo ou th re ak gv kn ro LL ff) (fun vv ww => ∃ aa : Nat, vv = some (.ref aa) ∧ ww = (mW E x0 x1 x2 x3 x4 x5 mo ou (nI 0) (re + nI 1) ak gv kn ro LL ff)) jNo := by
  refine jMet.intro' [(0, .ref mo), (1, .int (nI i)), (2, .int (nI j))] (by decide) (Nat.le_of_ble_eq_true rfl) rfl ?_
  intro p e R s m args below meth c Q C hQ
  refine j_aload_n C dX5_orElse_0 rfl ?_
  refine j_iload_n C dX5_orElse_1 rfl ?_
  refine j_iload_n C dX5_orElse_2 rfl ?_
  refine j_callVr C 6 (v := .int (nI 0)) (w := (mW E x0 x1 x2 x3 x4 x5 mo ou (nI 0) re ak gv kn ro LL ff)) (m_areNo_0 l E A (by omega) (by omega)) ok_X5_areNo w_1014 (by decide) rfl rfl (Nat.le_of_ble_eq_true rfl) rfl rfl ⟨Nat.le_of_ble_eq_true rfl, Nat.le_of_ble_eq_true rfl⟩ dX5_orElse_3 ?_
  refine j_ifn_eq_t (tgt := 14) C dX5_orElse_6 (by decide) (by omega) (by omega) ?_
  refine j_aload_n C dX5_orElse_14 rfl ?_
  refine j_iload_n C dX5_orElse_15 rfl ?_
  refine j_iload_n C dX5_orElse_16 rfl ?_
  refine j_callV C (q0 := 6) (m_either_m l E A hi hri hj hrj) ok_X5_either w_1142 (by decide) rfl rfl (Nat.le_of_ble_eq_true rfl) rfl rfl ⟨Nat.le_of_ble_eq_true rfl, Nat.le_of_ble_eq_true rfl⟩ dX5_orElse_17 (fun _ _ h => h.elim) (fun _ _ h => ?_)
  obtain ⟨aa1, rfl, rfl⟩ := h
  exact j_aret C hQ rfl (Or.inl ⟨_, rfl⟩) dX5_orElse_20 ⟨Nat.le_of_ble_eq_true rfl, Nat.le_of_ble_eq_true rfl⟩ ⟨_, rfl, rfl⟩
set_option maxHeartbeats 4000000 in
set_option maxRecDepth 100000 in
theorem g_orElse_b1 (l : Launch) (E : jE) (A : Nat → Prop) {x0 x1 x2 x3 x4 x5 : Nat × va_E} {mo ou : Nat} {th re ak gv kn : Int32} {ro : Nat → Option Nat} {LL : List Nat} {ff : Nat → va_E} {x y : Int32} (hbx : x < 0 ∨ nI 9 ≤ x)  : jMet l yX5_orElse cX5_orElse 3 (some (.object "java/lang/String")) 8 144 3024 E A [.ref mo, .int x, .int y] (mW E x0 x1 x2 x3 x4 x5 mo ou th re ak gv kn ro LL ff) (fun vv ww => ∃ aa : Nat, vv = some (.ref aa) ∧ ww = (mW E x0 x1 x2 x3 x4 x5 mo ou (nI 1) re ak gv kn ro LL ff)) jNo := by
  refine jMet.intro' [(0, .ref mo), (1, .int x), (2, .int y)] (by decide) (Nat.le_of_ble_eq_true rfl) rfl ?_
  intro p e R s m args below meth c Q C hQ
  refine j_aload_n C dX5_orElse_0 rfl ?_
  refine j_iload_n C dX5_orElse_1 rfl ?_
  refine j_iload_n C dX5_orElse_2 rfl ?_
  refine j_callVr C 6 (v := .int (nI 1)) (w := (mW E x0 x1 x2 x3 x4 x5 mo ou (nI 1) re ak gv kn ro LL ff)) (m_areNo_1 l E A hbx) ok_X5_areNo w_1014 (by decide) rfl rfl (Nat.le_of_ble_eq_true rfl) rfl rfl ⟨Nat.le_of_ble_eq_true rfl, Nat.le_of_ble_eq_true rfl⟩ dX5_orElse_3 ?_
  refine j_ifn_eq_f (tgt := 14) C dX5_orElse_6 (by decide) (by omega) (by omega) ?_
  refine j_ldcE C rfl dX5_orElse_9 ?_
  refine j_goto (tgt := 20) C dX5_orElse_11 (by decide) ?_
  exact j_aret C hQ rfl (Or.inl ⟨_, rfl⟩) dX5_orElse_20 ⟨Nat.le_of_ble_eq_true rfl, Nat.le_of_ble_eq_true rfl⟩ ⟨_, rfl, rfl⟩
set_option maxHeartbeats 4000000 in
set_option maxRecDepth 100000 in
theorem g_orElse_b2 (l : Launch) (E : jE) (A : Nat → Prop) {x0 x1 x2 x3 x4 x5 : Nat × va_E} {mo ou : Nat} {th re ak gv kn : Int32} {ro : Nat → Option Nat} {LL : List Nat} {ff : Nat → va_E} {i : Nat} (hi : i < 9) {y : Int32} (hby : y < 0 ∨ nI 9 ≤ y)  : jMet l yX5_orElse cX5_orElse 3 (some (.object "java/lang/String")) 8 144 3024 E A [.ref mo, .int (nI i), .int y] (mW E x0 x1 x2 x3 x4 x5 mo ou th re ak gv kn ro LL ff) (fun vv ww => ∃ aa : Nat, vv = some (.ref aa) ∧ ww = (mW E x0 x1 x2 x3 x4 x5 mo ou (nI 1) re ak gv kn ro LL ff)) jNo := by
  refine jMet.intro' [(0, .ref mo), (1, .int (nI i)), (2, .int y)] (by decide) (Nat.le_of_ble_eq_true rfl) rfl ?_
  intro p e R s m args below meth c Q C hQ
  refine j_aload_n C dX5_orElse_0 rfl ?_
  refine j_iload_n C dX5_orElse_1 rfl ?_
  refine j_iload_n C dX5_orElse_2 rfl ?_
  refine j_callVr C 6 (v := .int (nI 1)) (w := (mW E x0 x1 x2 x3 x4 x5 mo ou (nI 1) re ak gv kn ro LL ff)) (m_areNo_2 l E A (by omega) hby) ok_X5_areNo w_1014 (by decide) rfl rfl (Nat.le_of_ble_eq_true rfl) rfl rfl ⟨Nat.le_of_ble_eq_true rfl, Nat.le_of_ble_eq_true rfl⟩ dX5_orElse_3 ?_
  refine j_ifn_eq_f (tgt := 14) C dX5_orElse_6 (by decide) (by omega) (by omega) ?_
  refine j_ldcE C rfl dX5_orElse_9 ?_
  refine j_goto (tgt := 20) C dX5_orElse_11 (by decide) ?_
  exact j_aret C hQ rfl (Or.inl ⟨_, rfl⟩) dX5_orElse_20 ⟨Nat.le_of_ble_eq_true rfl, Nat.le_of_ble_eq_true rfl⟩ ⟨_, rfl, rfl⟩
set_option maxHeartbeats 4000000 in
set_option maxRecDepth 100000 in
theorem g_orGiven_k1 (l : Launch) (E : jE) (A : Nat → Prop) {x0 x1 x2 x3 x4 x5 : Nat × va_E} {mo ou : Nat} {th re ak gv kn : Int32} {ro : Nat → Option Nat} {LL : List Nat} {ff : Nat → va_E} {i : Nat} (hi : i < 9) {ai n : Nat} {h : Nat → Int32} (hrai : ro i = some ai) (hmai : ai ∈ LL) (hfai : ff ai = .inl (E.2.1, n, .inl h)) (hnai : n ≤ 24) (hs : ∀ k, k < n → isSg (h k)) {j : Nat} (hj : j < 9)  : jMet l yX5_orGiven cX5_orGiven 3 (some (.object "java/lang/String")) 8 144 3024 E A [.ref mo, .int (nI i), .int (nI j)] (mW E x0 x1 x2 x3 x4 x5 mo ou th re ak gv kn ro LL ff) (fun vv ww => ∃ aa : Nat, vv = some (.ref aa) ∧ ww = (mW E x0 x1 x2 x3 x4 x5 mo ou (nI 0) re ak (gv + nI 0) kn ro LL ff)) jNo := by
  refine jMet.intro' [(0, .ref mo), (1, .int (nI i)), (2, .int (nI j))] (by decide) (Nat.le_of_ble_eq_true rfl) rfl ?_
  intro p e R s m args below meth c Q C hQ
  refine j_aload_n C dX5_orGiven_0 rfl ?_
  refine j_iload_n C dX5_orGiven_1 rfl ?_
  refine j_iload_n C dX5_orGiven_2 rfl ?_
  refine j_callVr C 6 (v := .int (nI 0)) (w := (mW E x0 x1 x2 x3 x4 x5 mo ou (nI 0) re ak gv kn ro LL ff)) (m_areNo_0 l E A (by omega) (by omega)) ok_X5_areNo w_1014 (by decide) rfl rfl (Nat.le_of_ble_eq_true rfl) rfl rfl ⟨Nat.le_of_ble_eq_true rfl, Nat.le_of_ble_eq_true rfl⟩ dX5_orGiven_3 ?_
  refine j_ifn_eq_t (tgt := 12) C dX5_orGiven_6 (by decide) (by omega) (by omega) ?_
  refine j_aload_n C dX5_orGiven_12 rfl ?_
  refine j_dup C dX5_orGiven_13 rfl ?_
  refine j_get C 6 rfl inj_X5 rfl 4 (by decide) w_925 rfl dX5_orGiven_14 ?_
  refine j_aload_n C dX5_orGiven_17 rfl ?_
  refine j_get C 6 rfl inj_X5 rfl 1 (by decide) w_922 rfl dX5_orGiven_18 ?_
  refine j_iload_n C dX5_orGiven_21 rfl ?_
  refine j_aaload (v := .ref ai) C 7 i rfl rfl (by omega) (by decide) (by rw [show ro i = some ai from hrai]; rfl) dX5_orGiven_22 ?_
  refine j_ifnonnull_t (tgt := 30) C dX5_orGiven_23 (by decide) ?_
  refine j_iconst (v := (nI 0)) C dX5_orGiven_30 rfl ?_
  refine j_callSr C (v := .int (nI 0)) (w := (mW E x0 x1 x2 x3 x4 x5 mo ou (nI 0) re ak gv kn ro LL ff)) (m_one_0 l E A) ok_X5_one w_956 (by decide) rfl rfl (Nat.le_of_ble_eq_true rfl) ⟨Nat.le_of_ble_eq_true rfl, Nat.le_of_ble_eq_true rfl⟩ dX5_orGiven_31 ?_
  refine j_iadd (z := (gv + (nI 0))) C dX5_orGiven_34 rfl ?_
  refine j_put (ws' := (mW E x0 x1 x2 x3 x4 x5 mo ou (nI 0) re ak (gv + (nI 0)) kn ro LL ff)) C 6 rfl inj_X5 tyX5 tyX5_ok nmX5 rfl 4 (by decide) w_925 rfl (tyX5_ok 4 (by decide)) rfl rfl (Nat.le_of_ble_eq_true rfl) dX5_orGiven_35 rfl ?_
  refine j_aload_n C dX5_orGiven_38 rfl ?_
  refine j_iload_n C dX5_orGiven_39 rfl ?_
  refine j_iload_n C dX5_orGiven_40 rfl ?_
  refine j_callV C (q0 := 6) (m_either_k1 l E A hi hrai hmai hfai hnai hs hj) ok_X5_either w_1142 (by decide) rfl rfl (Nat.le_of_ble_eq_true rfl) rfl rfl ⟨Nat.le_of_ble_eq_true rfl, Nat.le_of_ble_eq_true rfl⟩ dX5_orGiven_41 (fun _ _ h => h.elim) (fun _ _ h => ?_)
  obtain ⟨aa1, rfl, rfl⟩ := h
  exact j_aret C hQ rfl (Or.inl ⟨_, rfl⟩) dX5_orGiven_44 ⟨Nat.le_of_ble_eq_true rfl, Nat.le_of_ble_eq_true rfl⟩ ⟨_, rfl, rfl⟩
set_option maxHeartbeats 4000000 in
set_option maxRecDepth 100000 in
theorem g_orGiven_k2 (l : Launch) (E : jE) (A : Nat → Prop) {x0 x1 x2 x3 x4 x5 : Nat × va_E} {mo ou : Nat} {th re ak gv kn : Int32} {ro : Nat → Option Nat} {LL : List Nat} {ff : Nat → va_E} {i : Nat} (hi : i < 9) (hri : ro i = none) {j : Nat} (hj : j < 9) {aj o : Nat} {g : Nat → Int32} (hraj : ro j = some aj) (hmaj : aj ∈ LL) (hfaj : ff aj = .inl (E.2.1, o, .inl g)) (hnaj : o ≤ 24) (hsj : ∀ k, k < o → isSg (g k))  : jMet l yX5_orGiven cX5_orGiven 3 (some (.object "java/lang/String")) 8 144 3024 E A [.ref mo, .int (nI i), .int (nI j)] (mW E x0 x1 x2 x3 x4 x5 mo ou th re ak gv kn ro LL ff) (fun vv ww => ∃ aa : Nat, vv = some (.ref aa) ∧ ww = (mW E x0 x1 x2 x3 x4 x5 mo ou (nI 0) re ak (gv + nI 1) kn ro LL ff)) jNo := by
  refine jMet.intro' [(0, .ref mo), (1, .int (nI i)), (2, .int (nI j))] (by decide) (Nat.le_of_ble_eq_true rfl) rfl ?_
  intro p e R s m args below meth c Q C hQ
  refine j_aload_n C dX5_orGiven_0 rfl ?_
  refine j_iload_n C dX5_orGiven_1 rfl ?_
  refine j_iload_n C dX5_orGiven_2 rfl ?_
  refine j_callVr C 6 (v := .int (nI 0)) (w := (mW E x0 x1 x2 x3 x4 x5 mo ou (nI 0) re ak gv kn ro LL ff)) (m_areNo_0 l E A (by omega) (by omega)) ok_X5_areNo w_1014 (by decide) rfl rfl (Nat.le_of_ble_eq_true rfl) rfl rfl ⟨Nat.le_of_ble_eq_true rfl, Nat.le_of_ble_eq_true rfl⟩ dX5_orGiven_3 ?_
  refine j_ifn_eq_t (tgt := 12) C dX5_orGiven_6 (by decide) (by omega) (by omega) ?_
  refine j_aload_n C dX5_orGiven_12 rfl ?_
  refine j_dup C dX5_orGiven_13 rfl ?_
  refine j_get C 6 rfl inj_X5 rfl 4 (by decide) w_925 rfl dX5_orGiven_14 ?_
  refine j_aload_n C dX5_orGiven_17 rfl ?_
  refine j_get C 6 rfl inj_X5 rfl 1 (by decide) w_922 rfl dX5_orGiven_18 ?_
  refine j_iload_n C dX5_orGiven_21 rfl ?_
  refine j_aaload (v := .null) C 7 i rfl rfl (by omega) (by decide) (by rw [show ro i = none from hri]; rfl) dX5_orGiven_22 ?_
  refine j_ifnonnull_f C dX5_orGiven_23 ?_
  refine j_iconst (v := (nI 1)) C dX5_orGiven_26 rfl ?_
  refine j_goto (tgt := 31) C dX5_orGiven_27 (by decide) ?_
  refine j_callSr C (v := .int (nI 1)) (w := (mW E x0 x1 x2 x3 x4 x5 mo ou (nI 0) re ak gv kn ro LL ff)) (m_one_1 l E A) ok_X5_one w_956 (by decide) rfl rfl (Nat.le_of_ble_eq_true rfl) ⟨Nat.le_of_ble_eq_true rfl, Nat.le_of_ble_eq_true rfl⟩ dX5_orGiven_31 ?_
  refine j_iadd (z := (gv + (nI 1))) C dX5_orGiven_34 rfl ?_
  refine j_put (ws' := (mW E x0 x1 x2 x3 x4 x5 mo ou (nI 0) re ak (gv + (nI 1)) kn ro LL ff)) C 6 rfl inj_X5 tyX5 tyX5_ok nmX5 rfl 4 (by decide) w_925 rfl (tyX5_ok 4 (by decide)) rfl rfl (Nat.le_of_ble_eq_true rfl) dX5_orGiven_35 rfl ?_
  refine j_aload_n C dX5_orGiven_38 rfl ?_
  refine j_iload_n C dX5_orGiven_39 rfl ?_
  refine j_iload_n C dX5_orGiven_40 rfl ?_
  refine j_callV C (q0 := 6) (m_either_k2 l E A hi hri hj hraj hmaj hfaj hnaj hsj) ok_X5_either w_1142 (by decide) rfl rfl (Nat.le_of_ble_eq_true rfl) rfl rfl ⟨Nat.le_of_ble_eq_true rfl, Nat.le_of_ble_eq_true rfl⟩ dX5_orGiven_41 (fun _ _ h => h.elim) (fun _ _ h => ?_)
  obtain ⟨aa1, rfl, rfl⟩ := h
  exact j_aret C hQ rfl (Or.inl ⟨_, rfl⟩) dX5_orGiven_44 ⟨Nat.le_of_ble_eq_true rfl, Nat.le_of_ble_eq_true rfl⟩ ⟨_, rfl, rfl⟩
set_option maxHeartbeats 4000000 in
set_option maxRecDepth 100000 in
theorem g_orGiven_m (l : Launch) (E : jE) (A : Nat → Prop) {x0 x1 x2 x3 x4 x5 : Nat × va_E} {mo ou : Nat} {th re ak gv kn : Int32} {ro : Nat → Option Nat} {LL : List Nat} {ff : Nat → va_E} {i : Nat} (hi : i < 9) (hri : ro i = none) {j : Nat} (hj : j < 9) (hrj : ro j = none)  : jMet l yX5_orGiven cX5_orGiven 3 (some (.object "java/lang/String")) 8 144 3024 E A [.ref mo, .int (nI i), .int (nI j)] (mW E x0 x1 x2 x3 x4 x5 mo ou th re ak gv kn ro LL ff) (fun vv ww => ∃ aa : Nat, vv = some (.ref aa) ∧ ww = (mW E x0 x1 x2 x3 x4 x5 mo ou (nI 0) (re + nI 1) ak (gv + nI 1) kn ro LL ff)) jNo := by
  refine jMet.intro' [(0, .ref mo), (1, .int (nI i)), (2, .int (nI j))] (by decide) (Nat.le_of_ble_eq_true rfl) rfl ?_
  intro p e R s m args below meth c Q C hQ
  refine j_aload_n C dX5_orGiven_0 rfl ?_
  refine j_iload_n C dX5_orGiven_1 rfl ?_
  refine j_iload_n C dX5_orGiven_2 rfl ?_
  refine j_callVr C 6 (v := .int (nI 0)) (w := (mW E x0 x1 x2 x3 x4 x5 mo ou (nI 0) re ak gv kn ro LL ff)) (m_areNo_0 l E A (by omega) (by omega)) ok_X5_areNo w_1014 (by decide) rfl rfl (Nat.le_of_ble_eq_true rfl) rfl rfl ⟨Nat.le_of_ble_eq_true rfl, Nat.le_of_ble_eq_true rfl⟩ dX5_orGiven_3 ?_
  refine j_ifn_eq_t (tgt := 12) C dX5_orGiven_6 (by decide) (by omega) (by omega) ?_
  refine j_aload_n C dX5_orGiven_12 rfl ?_
  refine j_dup C dX5_orGiven_13 rfl ?_
  refine j_get C 6 rfl inj_X5 rfl 4 (by decide) w_925 rfl dX5_orGiven_14 ?_
  refine j_aload_n C dX5_orGiven_17 rfl ?_
  refine j_get C 6 rfl inj_X5 rfl 1 (by decide) w_922 rfl dX5_orGiven_18 ?_
  refine j_iload_n C dX5_orGiven_21 rfl ?_
  refine j_aaload (v := .null) C 7 i rfl rfl (by omega) (by decide) (by rw [show ro i = none from hri]; rfl) dX5_orGiven_22 ?_
  refine j_ifnonnull_f C dX5_orGiven_23 ?_
  refine j_iconst (v := (nI 1)) C dX5_orGiven_26 rfl ?_
  refine j_goto (tgt := 31) C dX5_orGiven_27 (by decide) ?_
  refine j_callSr C (v := .int (nI 1)) (w := (mW E x0 x1 x2 x3 x4 x5 mo ou (nI 0) re ak gv kn ro LL ff)) (m_one_1 l E A) ok_X5_one w_956 (by decide) rfl rfl (Nat.le_of_ble_eq_true rfl) ⟨Nat.le_of_ble_eq_true rfl, Nat.le_of_ble_eq_true rfl⟩ dX5_orGiven_31 ?_
  refine j_iadd (z := (gv + (nI 1))) C dX5_orGiven_34 rfl ?_
  refine j_put (ws' := (mW E x0 x1 x2 x3 x4 x5 mo ou (nI 0) re ak (gv + (nI 1)) kn ro LL ff)) C 6 rfl inj_X5 tyX5 tyX5_ok nmX5 rfl 4 (by decide) w_925 rfl (tyX5_ok 4 (by decide)) rfl rfl (Nat.le_of_ble_eq_true rfl) dX5_orGiven_35 rfl ?_
  refine j_aload_n C dX5_orGiven_38 rfl ?_
  refine j_iload_n C dX5_orGiven_39 rfl ?_
  refine j_iload_n C dX5_orGiven_40 rfl ?_
  refine j_callV C (q0 := 6) (m_either_m l E A hi hri hj hrj) ok_X5_either w_1142 (by decide) rfl rfl (Nat.le_of_ble_eq_true rfl) rfl rfl ⟨Nat.le_of_ble_eq_true rfl, Nat.le_of_ble_eq_true rfl⟩ dX5_orGiven_41 (fun _ _ h => h.elim) (fun _ _ h => ?_)
  obtain ⟨aa1, rfl, rfl⟩ := h
  exact j_aret C hQ rfl (Or.inl ⟨_, rfl⟩) dX5_orGiven_44 ⟨Nat.le_of_ble_eq_true rfl, Nat.le_of_ble_eq_true rfl⟩ ⟨_, rfl, rfl⟩
set_option maxHeartbeats 4000000 in
set_option maxRecDepth 100000 in
theorem g_orGiven_b1 (l : Launch) (E : jE) (A : Nat → Prop) {x0 x1 x2 x3 x4 x5 : Nat × va_E} {mo ou : Nat} {th re ak gv kn : Int32} {ro : Nat → Option Nat} {LL : List Nat} {ff : Nat → va_E} {x y : Int32} (hbx : x < 0 ∨ nI 9 ≤ x)  : jMet l yX5_orGiven cX5_orGiven 3 (some (.object "java/lang/String")) 8 144 3024 E A [.ref mo, .int x, .int y] (mW E x0 x1 x2 x3 x4 x5 mo ou th re ak gv kn ro LL ff) (fun vv ww => ∃ aa : Nat, vv = some (.ref aa) ∧ ww = (mW E x0 x1 x2 x3 x4 x5 mo ou (nI 1) re ak gv kn ro LL ff)) jNo := by
  refine jMet.intro' [(0, .ref mo), (1, .int x), (2, .int y)] (by decide) (Nat.le_of_ble_eq_true rfl) rfl ?_
  intro p e R s m args below meth c Q C hQ
  refine j_aload_n C dX5_orGiven_0 rfl ?_
  refine j_iload_n C dX5_orGiven_1 rfl ?_
  refine j_iload_n C dX5_orGiven_2 rfl ?_
  refine j_callVr C 6 (v := .int (nI 1)) (w := (mW E x0 x1 x2 x3 x4 x5 mo ou (nI 1) re ak gv kn ro LL ff)) (m_areNo_1 l E A hbx) ok_X5_areNo w_1014 (by decide) rfl rfl (Nat.le_of_ble_eq_true rfl) rfl rfl ⟨Nat.le_of_ble_eq_true rfl, Nat.le_of_ble_eq_true rfl⟩ dX5_orGiven_3 ?_
  refine j_ifn_eq_f (tgt := 12) C dX5_orGiven_6 (by decide) (by omega) (by omega) ?_
  refine j_ldcE C rfl dX5_orGiven_9 ?_
  exact j_aret C hQ rfl (Or.inl ⟨_, rfl⟩) dX5_orGiven_11 ⟨Nat.le_of_ble_eq_true rfl, Nat.le_of_ble_eq_true rfl⟩ ⟨_, rfl, rfl⟩
set_option maxHeartbeats 4000000 in
set_option maxRecDepth 100000 in
theorem g_orGiven_b2 (l : Launch) (E : jE) (A : Nat → Prop) {x0 x1 x2 x3 x4 x5 : Nat × va_E} {mo ou : Nat} {th re ak gv kn : Int32} {ro : Nat → Option Nat} {LL : List Nat} {ff : Nat → va_E} {i : Nat} (hi : i < 9) {y : Int32} (hby : y < 0 ∨ nI 9 ≤ y)  : jMet l yX5_orGiven cX5_orGiven 3 (some (.object "java/lang/String")) 8 144 3024 E A [.ref mo, .int (nI i), .int y] (mW E x0 x1 x2 x3 x4 x5 mo ou th re ak gv kn ro LL ff) (fun vv ww => ∃ aa : Nat, vv = some (.ref aa) ∧ ww = (mW E x0 x1 x2 x3 x4 x5 mo ou (nI 1) re ak gv kn ro LL ff)) jNo := by
  refine jMet.intro' [(0, .ref mo), (1, .int (nI i)), (2, .int y)] (by decide) (Nat.le_of_ble_eq_true rfl) rfl ?_
  intro p e R s m args below meth c Q C hQ
  refine j_aload_n C dX5_orGiven_0 rfl ?_
  refine j_iload_n C dX5_orGiven_1 rfl ?_
  refine j_iload_n C dX5_orGiven_2 rfl ?_
  refine j_callVr C 6 (v := .int (nI 1)) (w := (mW E x0 x1 x2 x3 x4 x5 mo ou (nI 1) re ak gv kn ro LL ff)) (m_areNo_2 l E A (by omega) hby) ok_X5_areNo w_1014 (by decide) rfl rfl (Nat.le_of_ble_eq_true rfl) rfl rfl ⟨Nat.le_of_ble_eq_true rfl, Nat.le_of_ble_eq_true rfl⟩ dX5_orGiven_3 ?_
  refine j_ifn_eq_f (tgt := 12) C dX5_orGiven_6 (by decide) (by omega) (by omega) ?_
  refine j_ldcE C rfl dX5_orGiven_9 ?_
  exact j_aret C hQ rfl (Or.inl ⟨_, rfl⟩) dX5_orGiven_11 ⟨Nat.le_of_ble_eq_true rfl, Nat.le_of_ble_eq_true rfl⟩ ⟨_, rfl, rfl⟩
