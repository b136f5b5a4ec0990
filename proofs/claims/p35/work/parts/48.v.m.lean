/-! contracts, laid by program (wip/gen) -/
set_option maxHeartbeats 4000000 in
set_option maxRecDepth 100000 in
theorem m_textOf (l : Launch) (E : jE) (A : Nat → Prop) {XX : va_W} {LL : List Nat} {ff : Nat → va_E} {ai n : Nat} {h : Nat → Int32} (hm0 : ai ∈ LL) (hf0 : ff ai = .inl (E.2.1, n, .inl h)) (hn0 : n ≤ 24) (hs : ∀ k, k < n → isSg (h k)) : jMet l yX5_textOf cX5_textOf 6 (some (.object "java/lang/String")) 6 144 3024 E A [.ref ai] (XX ++ va_pl LL ff) (fun vv ww => ∃ aa : Nat, vv = some (.ref aa) ∧ ww = XX ++ va_pl LL ff) jNo := by
  refine jMet.intro' [(0, .ref ai)] (by decide) (Nat.le_of_ble_eq_true rfl) rfl ?_
  intro p e R s m args below meth c Q C hQ
  refine j_ldcE C rfl dX5_textOf_0 ?_
  refine j_astore_n (lv' := [(1, .ref E.2.2.2.2.1), (0, .ref ai)]) C dX5_textOf_2 (by decide) rfl ?_
  refine j_aload_n C dX5_textOf_3 rfl ?_
  refine j_astore_n (lv' := [(2, .ref ai), (1, .ref E.2.2.2.2.1), (0, .ref ai)]) C dX5_textOf_4 (by decide) rfl ?_
  refine j_aload_n C dX5_textOf_5 rfl ?_
  refine j_alenP (n := n) C hm0 hf0 dX5_textOf_6 ?_
  refine j_istore_n (lv' := [(3, .int (nI n)), (2, .ref ai), (1, .ref E.2.2.2.2.1), (0, .ref ai)]) C dX5_textOf_7 (by decide) rfl ?_
  refine j_iconst (v := (nI 0)) C dX5_textOf_8 rfl ?_
  refine j_istore (lv' := [(4, .int (nI 0)), (3, .int (nI n)), (2, .ref ai), (1, .ref E.2.2.2.2.1), (0, .ref ai)]) C dX5_textOf_9 (by decide) rfl ?_
  refine j_iload C dX5_textOf_11 rfl ?_
  refine j_iload_n C dX5_textOf_13 rfl ?_
  refine j_icmpn_ge (tgt := 54) C dX5_textOf_14 (by decide) (by omega) (by omega) (fun h14 => ?_) (fun h14 => ?_)
  · skip
    refine j_aload_n C dX5_textOf_54 rfl ?_
    exact j_aret C hQ rfl (Or.inl ⟨_, rfl⟩) dX5_textOf_55 ⟨Nat.le_of_ble_eq_true rfl, Nat.le_of_ble_eq_true rfl⟩ ⟨_, rfl, rfl⟩
  · skip
    obtain ⟨sgm, hm, em⟩ := hs 0 (by omega)
    refine j_aload_n C dX5_textOf_17 rfl ?_
    refine j_iload C dX5_textOf_18 rfl ?_
    refine j_ialoadP (z := (nI sgm)) C 0 hm0 hf0 rfl (by omega) (by omega) em dX5_textOf_20 ?_
    refine j_istore (lv' := [(5, .int (nI sgm)), (4, .int (nI 0)), (3, .int (nI n)), (2, .ref ai), (1, .ref E.2.2.2.2.1), (0, .ref ai)]) C dX5_textOf_21 (by decide) rfl ?_
    refine j_new C (ci := 1) (fs := [.null, .int (nI 0), .int (nI 0), .int (nI 0)]) inj_J4 tyJ4 tyJ4_ok w_1063 w_500 w_37 rfl (by decide) (by omega) (by omega) dX5_textOf_23 (fun o1 => ?_)
    refine j_front ?_
    refine j_eq (ws' := (((o1, .inr (1, [.null, .int (nI 0), .int (nI 0), .int (nI 0)])) :: XX) ++ va_pl LL ff)) rfl rfl rfl ?_
    refine j_dup C dX5_textOf_26 rfl ?_
    refine j_eq (ws' := ((o1, .inr (1, [.null, .int (nI 0), .int (nI 0), .int (nI 0)])) :: XX ++ va_pl LL ff)) rfl rfl rfl ?_
    refine j_callI C (c_sbInit l E A) ok_J4_init_da8c8 w_1064 (by decide) rfl rfl (Nat.le_of_ble_eq_true rfl) ⟨Nat.le_of_ble_eq_true rfl, Nat.le_of_ble_eq_true rfl⟩ dX5_textOf_27 (fun _ _ h => ?_)
    obtain ⟨va2, rfl, rfl⟩ := h
    refine j_eq (ws' := (((o1, .inr (1, [.ref va2, .int (nI 0), .int (nI 0), .int (nI 0)])) :: (va2, .inl (E.2.2.1, 16, .inl (fun _ => 0))) :: XX) ++ va_pl LL ff)) rfl rfl rfl ?_
    refine j_aload_n C dX5_textOf_30 rfl ?_
    refine j_eq (ws' := ((o1, .inr (1, [.ref va2, .int (nI 0), .int (nI 0), .int (nI 0)])) :: (va2, .inl (E.2.2.1, 16, .inl (fun _ => 0))) :: XX ++ va_pl LL ff)) rfl rfl rfl ?_
    refine j_callV C (q0 := 0) (c_appendSL l E A (Or.inl rfl) (by omega) sb_fit0) ok_J4_append_15ec4 w_1065 (by decide) rfl rfl (Nat.le_of_ble_eq_true rfl) rfl rfl ⟨Nat.le_of_ble_eq_true rfl, Nat.le_of_ble_eq_true rfl⟩ dX5_textOf_31 (fun _ _ h => h.elim) (fun _ _ h => ?_)
    obtain ⟨va3, n4, f5, hzva3, hqva3, hfva3, rfl, rfl⟩ := h
    refine j_eq (ws' := (((o1, .inr (1, [.ref va3, .int (nI 0), .int (nI 0), .int (nI 0)])) :: (va3, .inl (E.2.2.1, n4, .inl f5)) :: XX) ++ va_pl LL ff)) rfl rfl rfl ?_
    refine j_codesM C w_947 dX5_textOf_34 (fun t6 ht6 => ?_)
    refine j_iload C dX5_textOf_37 rfl ?_
    refine j_tld (z := (jCod sgm)) C (f := jCod) ht6 sgm rfl (by omega) (by decide) rfl dX5_textOf_39 ?_
    refine j_i2c (v := (jCod sgm)) C dX5_textOf_40 (jCod_c hm) ?_
    refine j_eq (ws' := ((o1, .inr (1, [.ref va3, .int (nI 0), .int (nI 0), .int (nI 0)])) :: (va3, .inl (E.2.2.1, n4, .inl f5)) :: XX ++ va_pl LL ff)) rfl rfl rfl ?_
    refine j_callV C (q0 := 0) (c_appendC l E A hzva3 (by omega) hfva3 (jCod_ok hm)) ok_J4_append_cf468 w_1066 (by decide) rfl rfl (Nat.le_of_ble_eq_true rfl) rfl rfl ⟨Nat.le_of_ble_eq_true rfl, Nat.le_of_ble_eq_true rfl⟩ dX5_textOf_41 (fun _ _ h => h.elim) (fun _ _ h => ?_)
    obtain ⟨va7, n8, f9, hzva7, hqva7, hfva7, rfl, rfl⟩ := h
    refine j_eq (ws' := (((o1, .inr (1, [.ref va7, .int (nI 0), .int (nI 0), .int (nI 1)])) :: (va7, .inl (E.2.2.1, n8, .inl f9)) :: XX) ++ va_pl LL ff)) rfl rfl rfl ?_
    refine j_eq (ws' := ((o1, .inr (1, [.ref va7, .int (nI 0), .int (nI 0), .int (nI 1)])) :: (va7, .inl (E.2.2.1, n8, .inl f9)) :: XX ++ va_pl LL ff)) rfl rfl rfl ?_
    refine j_callV C (q0 := 0) (c_toString l E A hzva7 (by omega) hfva7) ok_J4_toString_0e30d w_1067 (by decide) rfl rfl (Nat.le_of_ble_eq_true rfl) rfl rfl ⟨Nat.le_of_ble_eq_true rfl, Nat.le_of_ble_eq_true rfl⟩ dX5_textOf_44 (fun _ _ h => h.elim) (fun _ _ h => ?_)
    obtain ⟨st10, sv11, g12, hfsv11, rfl, rfl⟩ := h
    refine j_eq (ws' := (((st10, .inr (0, [.ref sv11, .int (nI 0), .int (nI 0), .int (nI 0)])) :: (sv11, .inl (E.2.2.1, 1, .inl g12)) :: (o1, .inr (1, [.ref va7, .int (nI 0), .int (nI 0), .int (nI 1)])) :: (va7, .inl (E.2.2.1, n8, .inl f9)) :: XX) ++ va_pl LL ff)) rfl rfl rfl ?_
    refine j_astore_n (lv' := [(1, .ref st10), (5, .int (nI sgm)), (4, .int (nI 0)), (3, .int (nI n)), (2, .ref ai), (0, .ref ai)]) C dX5_textOf_47 (by decide) rfl ?_
    refine j_iinc (lv' := [(4, .int (nI 1)), (1, .ref st10), (5, .int (nI sgm)), (3, .int (nI n)), (2, .ref ai), (0, .ref ai)]) C dX5_textOf_48 rfl (nI_1 _) (by decide) rfl ?_
    refine j_goto (tgt := 11) C dX5_textOf_51 (by decide) ?_
    have L11 : ∀ (r k : Nat) (st sv : Nat) (g : Nat → Int32), k + r = n → sb_Fit g → jJ p l e R s m args below meth c E A 6 Q (k * 6) (k * 126) 11 [(4, .int (nI k)), (3, .int (nI n)), (2, .ref ai), (1, .ref st)] [] (((st, .inr (0, [.ref sv, .int (nI 0), .int (nI 0), .int (nI 0)])) :: (sv, .inl (E.2.2.1, k, .inl g)) :: XX) ++ va_pl LL ff) := by
      intro r
      induction r with
      | zero =>
        intro k st sv g hk11 hg
        refine j_iload C dX5_textOf_11 rfl ?_
        refine j_iload_n C dX5_textOf_13 rfl ?_
        refine j_icmpn_ge_t (tgt := 54) C dX5_textOf_14 (by decide) (by omega) (by omega) (by omega) ?_
        refine j_aload_n C dX5_textOf_54 rfl ?_
        exact j_aret C hQ rfl (Or.inl ⟨_, rfl⟩) dX5_textOf_55 ⟨by omega, by omega⟩ ⟨_, rfl, rfl⟩
      | succ r ih11 =>
        intro k st sv g hk11 hg
        refine j_iload C dX5_textOf_11 rfl ?_
        refine j_iload_n C dX5_textOf_13 rfl ?_
        refine j_icmpn_ge_f (tgt := 54) C dX5_textOf_14 (by decide) (by omega) (by omega) (by omega) ?_
        obtain ⟨sgm, hm, em⟩ := hs k (by omega)
        refine j_aload_n C dX5_textOf_17 rfl ?_
        refine j_iload C dX5_textOf_18 rfl ?_
        refine j_ialoadP (z := (nI sgm)) C k hm0 hf0 rfl (by omega) (by omega) em dX5_textOf_20 ?_
        refine j_istore (lv' := [(5, .int (nI sgm)), (4, .int (nI k)), (3, .int (nI n)), (2, .ref ai), (1, .ref st)]) C dX5_textOf_21 (by decide) rfl ?_
        refine j_new C (ci := 1) (fs := [.null, .int (nI 0), .int (nI 0), .int (nI 0)]) inj_J4 tyJ4 tyJ4_ok w_1063 w_500 w_37 rfl (by decide) (by omega) (by omega) dX5_textOf_23 (fun o13 => ?_)
        refine j_front ?_
        refine j_eq (ws' := (((o13, .inr (1, [.null, .int (nI 0), .int (nI 0), .int (nI 0)])) :: (st, .inr (0, [.ref sv, .int (nI 0), .int (nI 0), .int (nI 0)])) :: (sv, .inl (E.2.2.1, k, .inl g)) :: XX) ++ va_pl LL ff)) rfl rfl rfl ?_
        refine j_dup C dX5_textOf_26 rfl ?_
        refine j_eq (ws' := ((o13, .inr (1, [.null, .int (nI 0), .int (nI 0), .int (nI 0)])) :: (st, .inr (0, [.ref sv, .int (nI 0), .int (nI 0), .int (nI 0)])) :: (sv, .inl (E.2.2.1, k, .inl g)) :: XX ++ va_pl LL ff)) rfl rfl rfl ?_
        refine j_callI C (c_sbInit l E A) ok_J4_init_da8c8 w_1064 (by decide) rfl rfl (Nat.le_of_ble_eq_true rfl) ⟨by omega, by omega⟩ dX5_textOf_27 (fun _ _ h => ?_)
        obtain ⟨va14, rfl, rfl⟩ := h
        refine j_eq (ws' := (((o13, .inr (1, [.ref va14, .int (nI 0), .int (nI 0), .int (nI 0)])) :: (va14, .inl (E.2.2.1, 16, .inl (fun _ => 0))) :: (st, .inr (0, [.ref sv, .int (nI 0), .int (nI 0), .int (nI 0)])) :: (sv, .inl (E.2.2.1, k, .inl g)) :: XX) ++ va_pl LL ff)) rfl rfl rfl ?_
        refine j_aload_n C dX5_textOf_30 rfl ?_
        refine j_eq (ws' := ((o13, .inr (1, [.ref va14, .int (nI 0), .int (nI 0), .int (nI 0)])) :: (va14, .inl (E.2.2.1, 16, .inl (fun _ => 0))) :: (st, .inr (0, [.ref sv, .int (nI 0), .int (nI 0), .int (nI 0)])) :: (sv, .inl (E.2.2.1, k, .inl g)) :: XX ++ va_pl LL ff)) rfl rfl rfl ?_
        refine j_callV C (q0 := 0) (c_appendS l E A (Or.inl rfl) (by omega) sb_fit0 hg) ok_J4_append_15ec4 w_1065 (by decide) rfl rfl (Nat.le_of_ble_eq_true rfl) rfl rfl ⟨by omega, by omega⟩ dX5_textOf_31 (fun _ _ h => h.elim) (fun _ _ h => ?_)
        obtain ⟨va15, n16, f17, hzva15, hqva15, hfva15, rfl, rfl⟩ := h
        refine j_eq (ws' := (((o13, .inr (1, [.ref va15, .int (nI 0), .int (nI 0), .int (nI (0 + k))])) :: (va15, .inl (E.2.2.1, n16, .inl f17)) :: (st, .inr (0, [.ref sv, .int (nI 0), .int (nI 0), .int (nI 0)])) :: (sv, .inl (E.2.2.1, k, .inl g)) :: XX) ++ va_pl LL ff)) rfl rfl rfl ?_
        refine j_codesM C w_947 dX5_textOf_34 (fun t18 ht18 => ?_)
        refine j_iload C dX5_textOf_37 rfl ?_
        refine j_tld (z := (jCod sgm)) C (f := jCod) ht18 sgm rfl (by omega) (by decide) rfl dX5_textOf_39 ?_
        refine j_i2c (v := (jCod sgm)) C dX5_textOf_40 (jCod_c hm) ?_
        refine j_eq (ws' := ((o13, .inr (1, [.ref va15, .int (nI 0), .int (nI 0), .int (nI (0 + k))])) :: (va15, .inl (E.2.2.1, n16, .inl f17)) :: (st, .inr (0, [.ref sv, .int (nI 0), .int (nI 0), .int (nI 0)])) :: (sv, .inl (E.2.2.1, k, .inl g)) :: XX ++ va_pl LL ff)) rfl rfl rfl ?_
        refine j_callV C (q0 := 0) (c_appendC l E A hzva15 (by omega) hfva15 (jCod_ok hm)) ok_J4_append_cf468 w_1066 (by decide) rfl rfl (Nat.le_of_ble_eq_true rfl) rfl rfl ⟨by omega, by omega⟩ dX5_textOf_41 (fun _ _ h => h.elim) (fun _ _ h => ?_)
        obtain ⟨va19, n20, f21, hzva19, hqva19, hfva19, rfl, rfl⟩ := h
        refine j_eq (ws' := (((o13, .inr (1, [.ref va19, .int (nI 0), .int (nI 0), .int (nI (0 + k + 1))])) :: (va19, .inl (E.2.2.1, n20, .inl f21)) :: (st, .inr (0, [.ref sv, .int (nI 0), .int (nI 0), .int (nI 0)])) :: (sv, .inl (E.2.2.1, k, .inl g)) :: XX) ++ va_pl LL ff)) rfl rfl rfl ?_
        refine j_eq (ws' := ((o13, .inr (1, [.ref va19, .int (nI 0), .int (nI 0), .int (nI (0 + k + 1))])) :: (va19, .inl (E.2.2.1, n20, .inl f21)) :: (st, .inr (0, [.ref sv, .int (nI 0), .int (nI 0), .int (nI 0)])) :: (sv, .inl (E.2.2.1, k, .inl g)) :: XX ++ va_pl LL ff)) rfl rfl rfl ?_
        refine j_callV C (q0 := 0) (c_toString l E A hzva19 (by omega) hfva19) ok_J4_toString_0e30d w_1067 (by decide) rfl rfl (Nat.le_of_ble_eq_true rfl) rfl rfl ⟨by omega, by omega⟩ dX5_textOf_44 (fun _ _ h => h.elim) (fun _ _ h => ?_)
        obtain ⟨st22, sv23, g24, hfsv23, rfl, rfl⟩ := h
        refine j_eq (ws' := (((st22, .inr (0, [.ref sv23, .int (nI 0), .int (nI 0), .int (nI 0)])) :: (sv23, .inl (E.2.2.1, 0 + k + 1, .inl g24)) :: (o13, .inr (1, [.ref va19, .int (nI 0), .int (nI 0), .int (nI (0 + k + 1))])) :: (va19, .inl (E.2.2.1, n20, .inl f21)) :: (st, .inr (0, [.ref sv, .int (nI 0), .int (nI 0), .int (nI 0)])) :: (sv, .inl (E.2.2.1, k, .inl g)) :: XX) ++ va_pl LL ff)) rfl rfl rfl ?_
        refine j_astore_n (lv' := [(1, .ref st22), (5, .int (nI sgm)), (4, .int (nI k)), (3, .int (nI n)), (2, .ref ai)]) C dX5_textOf_47 (by decide) rfl ?_
        refine j_iinc (lv' := [(4, .int (nI (k + 1))), (1, .ref st22), (5, .int (nI sgm)), (3, .int (nI n)), (2, .ref ai)]) C dX5_textOf_48 rfl (nI_1 _) (by decide) rfl ?_
        refine j_goto (tgt := 11) C dX5_textOf_51 (by decide) ?_
        refine j_perm (pre := [(st22, .inr (0, [.ref sv23, .int (nI 0), .int (nI 0), .int (nI 0)])), (sv23, .inl (E.2.2.1, 0 + k + 1, .inl g24)), (o13, .inr (1, [.ref va19, .int (nI 0), .int (nI 0), .int (nI (0 + k + 1))])), (va19, .inl (E.2.2.1, n20, .inl f21)), (st, .inr (0, [.ref sv, .int (nI 0), .int (nI 0), .int (nI 0)])), (sv, .inl (E.2.2.1, k, .inl g))]) (pre' := [(st22, .inr (0, [.ref sv23, .int (nI 0), .int (nI 0), .int (nI 0)])), (sv23, .inl (E.2.2.1, 0 + k + 1, .inl g24))]) (tl := XX ++ va_pl LL ff) [0, 1] rfl (by decide) ?_
        refine j_eq (ws' := (((st22, .inr (0, [.ref sv23, .int (nI 0), .int (nI 0), .int (nI 0)])) :: (sv23, .inl (E.2.2.1, 0 + k + 1, .inl g24)) :: XX) ++ va_pl LL ff)) rfl rfl rfl ?_
        refine j_lv (lv' := [(4, .int (nI (k + 1))), (3, .int (nI n)), (2, .ref ai), (1, .ref st22)]) (by simp only [List.mem_cons, List.not_mem_nil, or_false, forall_eq_or_imp, forall_eq, true_or, or_true, and_self, Nat.add_zero]) ?_
        refine j_widen (k := (k + 1) * 6) (n := (k + 1) * 126) (by omega) (by omega) ?_
        exact ih11 (k + 1) _ _ _ (by omega) hfsv23
    refine j_perm (pre := [(st10, .inr (0, [.ref sv11, .int (nI 0), .int (nI 0), .int (nI 0)])), (sv11, .inl (E.2.2.1, 1, .inl g12)), (o1, .inr (1, [.ref va7, .int (nI 0), .int (nI 0), .int (nI 1)])), (va7, .inl (E.2.2.1, n8, .inl f9))]) (pre' := [(st10, .inr (0, [.ref sv11, .int (nI 0), .int (nI 0), .int (nI 0)])), (sv11, .inl (E.2.2.1, 1, .inl g12))]) (tl := XX ++ va_pl LL ff) [0, 1] rfl (by decide) ?_
    refine j_eq (ws' := (((st10, .inr (0, [.ref sv11, .int (nI 0), .int (nI 0), .int (nI 0)])) :: (sv11, .inl (E.2.2.1, 1, .inl g12)) :: XX) ++ va_pl LL ff)) rfl rfl rfl ?_
    refine j_lv (lv' := [(4, .int (nI 1)), (3, .int (nI n)), (2, .ref ai), (1, .ref st10)]) (by simp only [List.mem_cons, List.not_mem_nil, or_false, forall_eq_or_imp, forall_eq, true_or, or_true, and_self, Nat.add_zero]) ?_
    refine j_widen (k := 1 * 6) (n := 1 * 126) (by omega) (by omega) ?_
    exact L11 (n - 1) 1 _ _ _ (by omega) hfsv11
