/-! contracts, laid by program (wip/gen) -/
def okS (x : Int32) : Prop := x = -1 ∨ isSg x
theorem sg_cases (x : Int32) : isSg x ∨ (x < 0 ∨ nI 10 ≤ x) := seat_cases x 10 (by decide)
theorem not_ok {x : Int32} (h : ¬ x = -1) (h2 : x < 0 ∨ nI 10 ≤ x) : ¬ okS x := by
  rintro (q | ⟨j, hj, rfl⟩)
  · exact h q
  · rcases h2 with q | q
    · exact nI_pos (by omega) q
    · have := (nI_leI (by decide) (by omega)).mp q
      omega
def wrW (a v w : Int32) (W : Nat) : Prop := (W = 0 ∧ okS a ∧ okS v ∧ okS w) ∨ (W = 1 ∧ ¬ (okS a ∧ okS v ∧ okS w))
def wrM (a v w : Int32) (M : Nat) : Prop := (a = -1 ∧ M = 0) ∨ (¬ a = -1 ∧ v = -1 ∧ M = 1) ∨ (¬ a = -1 ∧ ¬ v = -1 ∧ w = -1 ∧ M = 2) ∨ (¬ a = -1 ∧ ¬ v = -1 ∧ ¬ w = -1 ∧ M = 3)
theorem wr_some (a v w : Int32) : ∃ W M : Nat, wrW a v w W ∧ wrM a v w M ∧ W ≤ 1 ∧ M ≤ 3 := by
  have h1 : ∃ W : Nat, wrW a v w W ∧ W ≤ 1 := by
    by_cases h : okS a ∧ okS v ∧ okS w
    · exact ⟨0, Or.inl ⟨rfl, h⟩, by decide⟩
    · exact ⟨1, Or.inr ⟨rfl, h⟩, by decide⟩
  have h2 : ∃ M : Nat, wrM a v w M ∧ M ≤ 3 := by
    by_cases ha : a = -1
    · exact ⟨0, Or.inl ⟨ha, rfl⟩, by decide⟩
    by_cases hv : v = -1
    · exact ⟨1, Or.inr (Or.inl ⟨ha, hv, rfl⟩), by decide⟩
    by_cases hw : w = -1
    · exact ⟨2, Or.inr (Or.inr (Or.inl ⟨ha, hv, hw, rfl⟩)), by decide⟩
    · exact ⟨3, Or.inr (Or.inr (Or.inr ⟨ha, hv, hw, rfl⟩)), by decide⟩
  obtain ⟨W, a1, b1⟩ := h1
  obtain ⟨M, a2, b2⟩ := h2
  exact ⟨W, M, a1, a2, b1, b2⟩
set_option maxHeartbeats 4000000 in
set_option maxRecDepth 100000 in
theorem g_write_seg {l : Launch} {E : jE} {A : Nat → Prop} {x0 x1 x2 x3 x4 x5 : Nat × va_E} {mo ou : Nat} {th re ak gv kn : Int32} {ro : Nat → Option Nat} {LL : List Nat} {ff : Nat → va_E} {p : Program} {e : Env} {R : Room} {s : State} {m : MethodId} {args : Array Value} {below : List Frame} {meth : Method} {c : Code} {Q : State → Prop} {d mc ms q1 : Nat} {x a v w : Int32} {W M : Nat} (hd : 3 < d) (C : jC p l e R s m args below meth c yX5_write cX5_write 9 (some .int) d mc ms E A) (hmc : 1 ≤ mc) (hms : 0 + 3 ≤ ms) (hW : wrW a v w W) (hM : wrM a v w M) (kk : jJ p l e R s m args below meth c E A 9 Q 1 (0 + 3) 98 [(7, .int (nI M)), (6, .int (nI W)), (5, .ref q1), (0, .ref mo), (1, .int x), (2, .int a), (3, .int v), (4, .int w)] [] (mW E x0 x1 x2 x3 x4 x5 mo ou th re ak gv kn ro (LL ++ [q1]) (va_up ff q1 (.inl (E.2.1, 3, .inl (upd (upd (upd (fun _ => 0) 0 a) 1 v) 2 w)))))) : jJ p l e R s m args below meth c E A 9 Q 1 (0 + 3) 18 [(5, .ref q1), (0, .ref mo), (1, .int x), (2, .int a), (3, .int v), (4, .int w)] [] (mW E x0 x1 x2 x3 x4 x5 mo ou th re ak gv kn ro (LL ++ [q1]) (va_up ff q1 (.inl (E.2.1, 3, .inl (upd (upd (upd (fun _ => 0) 0 a) 1 v) 2 w))))) := by
  refine j_iconst (v := (nI 0)) C dX5_write_18 rfl ?_
  refine j_istore (lv' := [(6, .int (nI 0)), (5, .ref q1), (0, .ref mo), (1, .int x), (2, .int a), (3, .int v), (4, .int w)]) C dX5_write_19 (by decide) rfl ?_
  refine j_iconst (v := (nI 0)) C dX5_write_21 rfl ?_
  refine j_istore (lv' := [(7, .int (nI 0)), (6, .int (nI 0)), (5, .ref q1), (0, .ref mo), (1, .int x), (2, .int a), (3, .int v), (4, .int w)]) C dX5_write_22 (by decide) rfl ?_
  refine j_iconst (v := (nI 0)) C dX5_write_24 rfl ?_
  refine j_istore (lv' := [(8, .int (nI 0)), (7, .int (nI 0)), (6, .int (nI 0)), (5, .ref q1), (0, .ref mo), (1, .int x), (2, .int a), (3, .int v), (4, .int w)]) C dX5_write_25 (by decide) rfl ?_
  refine j_iload C dX5_write_27 rfl ?_
  refine j_iconst (v := (nI 3)) C dX5_write_29 rfl ?_
  refine j_icmpn_ge_f (tgt := 98) C dX5_write_30 (by decide) (by omega) (by omega) (by omega) ?_
  refine j_iload C dX5_write_33 rfl ?_
  refine j_aload C dX5_write_35 rfl ?_
  refine j_iload C dX5_write_37 rfl ?_
  refine j_ialoadP (z := a) C 0 pool_newm pool_new rfl (by omega) (by omega) rfl dX5_write_39 ?_
  refine j_iconst (v := (-1)) C dX5_write_40 rfl ?_
  refine j_icmp_eq (tgt := 59) C dX5_write_41 (by decide) (fun hea => ?_) (fun hea => ?_)
  · skip
    refine j_iconst (v := (nI 0)) C dX5_write_59 rfl ?_
    refine j_ior (z := (nI 0)) C dX5_write_60 (by decide) ?_
    refine j_istore (lv' := [(6, .int (nI 0)), (8, .int (nI 0)), (7, .int (nI 0)), (5, .ref q1), (0, .ref mo), (1, .int x), (2, .int a), (3, .int v), (4, .int w)]) C dX5_write_61 (by decide) rfl ?_
    refine j_iload C dX5_write_63 rfl ?_
    refine j_iload C dX5_write_65 rfl ?_
    refine j_iload C dX5_write_67 rfl ?_
    refine j_icmpn_ne_f (tgt := 85) C dX5_write_69 (by decide) (by omega) (by omega) (by omega) ?_
    refine j_aload C dX5_write_72 rfl ?_
    refine j_iload C dX5_write_74 rfl ?_
    refine j_ialoadP (z := a) C 0 pool_newm pool_new rfl (by omega) (by omega) rfl dX5_write_76 ?_
    refine j_iconst (v := (-1)) C dX5_write_77 rfl ?_
    refine j_icmp_eq_t (tgt := 85) C dX5_write_78 (by decide) hea ?_
    refine j_iconst (v := (nI 0)) C dX5_write_85 rfl ?_
    refine j_callSr C (v := .int (nI 0)) (w := (mW E x0 x1 x2 x3 x4 x5 mo ou th re ak gv kn ro (LL ++ [q1]) (va_up ff q1 (.inl (E.2.1, 3, .inl (upd (upd (upd (fun _ => 0) 0 a) 1 v) 2 w)))))) (m_one_0 l E A) ok_X5_one w_956 (by omega) rfl rfl (Nat.le_of_ble_eq_true rfl) ⟨by omega, by omega⟩ dX5_write_86 ?_
    refine j_iadd (z := (nI 0)) C dX5_write_89 (nI_add _ _) ?_
    refine j_istore (lv' := [(7, .int (nI 0)), (6, .int (nI 0)), (8, .int (nI 0)), (5, .ref q1), (0, .ref mo), (1, .int x), (2, .int a), (3, .int v), (4, .int w)]) C dX5_write_90 (by decide) rfl ?_
    refine j_iinc (lv' := [(8, .int (nI 1)), (7, .int (nI 0)), (6, .int (nI 0)), (5, .ref q1), (0, .ref mo), (1, .int x), (2, .int a), (3, .int v), (4, .int w)]) C dX5_write_92 rfl (nI_1 _) (by decide) rfl ?_
    refine j_goto (tgt := 27) C dX5_write_95 (by decide) ?_
    refine j_iload C dX5_write_27 rfl ?_
    refine j_iconst (v := (nI 3)) C dX5_write_29 rfl ?_
    refine j_icmpn_ge_f (tgt := 98) C dX5_write_30 (by decide) (by omega) (by omega) (by omega) ?_
    refine j_iload C dX5_write_33 rfl ?_
    refine j_aload C dX5_write_35 rfl ?_
    refine j_iload C dX5_write_37 rfl ?_
    refine j_ialoadP (z := v) C 1 pool_newm pool_new rfl (by omega) (by omega) rfl dX5_write_39 ?_
    refine j_iconst (v := (-1)) C dX5_write_40 rfl ?_
    refine j_icmp_eq (tgt := 59) C dX5_write_41 (by decide) (fun hev => ?_) (fun hev => ?_)
    · skip
      refine j_iconst (v := (nI 0)) C dX5_write_59 rfl ?_
      refine j_ior (z := (nI 0)) C dX5_write_60 (by decide) ?_
      refine j_istore (lv' := [(6, .int (nI 0)), (8, .int (nI 1)), (7, .int (nI 0)), (5, .ref q1), (0, .ref mo), (1, .int x), (2, .int a), (3, .int v), (4, .int w)]) C dX5_write_61 (by decide) rfl ?_
      refine j_iload C dX5_write_63 rfl ?_
      refine j_iload C dX5_write_65 rfl ?_
      refine j_iload C dX5_write_67 rfl ?_
      refine j_icmpn_ne_t (tgt := 85) C dX5_write_69 (by decide) (by omega) (by omega) (by omega) ?_
      refine j_iconst (v := (nI 0)) C dX5_write_85 rfl ?_
      refine j_callSr C (v := .int (nI 0)) (w := (mW E x0 x1 x2 x3 x4 x5 mo ou th re ak gv kn ro (LL ++ [q1]) (va_up ff q1 (.inl (E.2.1, 3, .inl (upd (upd (upd (fun _ => 0) 0 a) 1 v) 2 w)))))) (m_one_0 l E A) ok_X5_one w_956 (by omega) rfl rfl (Nat.le_of_ble_eq_true rfl) ⟨by omega, by omega⟩ dX5_write_86 ?_
      refine j_iadd (z := (nI 0)) C dX5_write_89 (nI_add _ _) ?_
      refine j_istore (lv' := [(7, .int (nI 0)), (6, .int (nI 0)), (8, .int (nI 1)), (5, .ref q1), (0, .ref mo), (1, .int x), (2, .int a), (3, .int v), (4, .int w)]) C dX5_write_90 (by decide) rfl ?_
      refine j_iinc (lv' := [(8, .int (nI 2)), (7, .int (nI 0)), (6, .int (nI 0)), (5, .ref q1), (0, .ref mo), (1, .int x), (2, .int a), (3, .int v), (4, .int w)]) C dX5_write_92 rfl (nI_1 _) (by decide) rfl ?_
      refine j_goto (tgt := 27) C dX5_write_95 (by decide) ?_
      refine j_iload C dX5_write_27 rfl ?_
      refine j_iconst (v := (nI 3)) C dX5_write_29 rfl ?_
      refine j_icmpn_ge_f (tgt := 98) C dX5_write_30 (by decide) (by omega) (by omega) (by omega) ?_
      refine j_iload C dX5_write_33 rfl ?_
      refine j_aload C dX5_write_35 rfl ?_
      refine j_iload C dX5_write_37 rfl ?_
      refine j_ialoadP (z := w) C 2 pool_newm pool_new rfl (by omega) (by omega) rfl dX5_write_39 ?_
      refine j_iconst (v := (-1)) C dX5_write_40 rfl ?_
      refine j_icmp_eq (tgt := 59) C dX5_write_41 (by decide) (fun hew => ?_) (fun hew => ?_)
      · skip
        refine j_iconst (v := (nI 0)) C dX5_write_59 rfl ?_
        refine j_ior (z := (nI 0)) C dX5_write_60 (by decide) ?_
        refine j_istore (lv' := [(6, .int (nI 0)), (8, .int (nI 2)), (7, .int (nI 0)), (5, .ref q1), (0, .ref mo), (1, .int x), (2, .int a), (3, .int v), (4, .int w)]) C dX5_write_61 (by decide) rfl ?_
        refine j_iload C dX5_write_63 rfl ?_
        refine j_iload C dX5_write_65 rfl ?_
        refine j_iload C dX5_write_67 rfl ?_
        refine j_icmpn_ne_t (tgt := 85) C dX5_write_69 (by decide) (by omega) (by omega) (by omega) ?_
        refine j_iconst (v := (nI 0)) C dX5_write_85 rfl ?_
        refine j_callSr C (v := .int (nI 0)) (w := (mW E x0 x1 x2 x3 x4 x5 mo ou th re ak gv kn ro (LL ++ [q1]) (va_up ff q1 (.inl (E.2.1, 3, .inl (upd (upd (upd (fun _ => 0) 0 a) 1 v) 2 w)))))) (m_one_0 l E A) ok_X5_one w_956 (by omega) rfl rfl (Nat.le_of_ble_eq_true rfl) ⟨by omega, by omega⟩ dX5_write_86 ?_
        refine j_iadd (z := (nI 0)) C dX5_write_89 (nI_add _ _) ?_
        refine j_istore (lv' := [(7, .int (nI 0)), (6, .int (nI 0)), (8, .int (nI 2)), (5, .ref q1), (0, .ref mo), (1, .int x), (2, .int a), (3, .int v), (4, .int w)]) C dX5_write_90 (by decide) rfl ?_
        refine j_iinc (lv' := [(8, .int (nI 3)), (7, .int (nI 0)), (6, .int (nI 0)), (5, .ref q1), (0, .ref mo), (1, .int x), (2, .int a), (3, .int v), (4, .int w)]) C dX5_write_92 rfl (nI_1 _) (by decide) rfl ?_
        refine j_goto (tgt := 27) C dX5_write_95 (by decide) ?_
        refine j_iload C dX5_write_27 rfl ?_
        refine j_iconst (v := (nI 3)) C dX5_write_29 rfl ?_
        refine j_icmpn_ge_t (tgt := 98) C dX5_write_30 (by decide) (by omega) (by omega) (by omega) ?_
        obtain rfl : W = 0 := hW.elim (fun q => q.1) (fun q => absurd ⟨Or.inl hea, Or.inl hev, Or.inl hew⟩ q.2)
        obtain rfl : M = 0 := by
          rcases hM with ⟨q1, q⟩ | ⟨q1, q2, q⟩ | ⟨q1, q2, q3, q⟩ | ⟨q1, q2, q3, q⟩ <;> first | contradiction | exact q
        refine j_lv (lv' := [(7, .int (nI 0)), (6, .int (nI 0)), (5, .ref q1), (0, .ref mo), (1, .int x), (2, .int a), (3, .int v), (4, .int w)]) (by simp only [List.mem_cons, List.not_mem_nil, or_false, forall_eq_or_imp, forall_eq, true_or, or_true, and_self, Nat.add_zero]) ?_
        exact kk
      · skip
        refine j_aload C dX5_write_44 rfl ?_
        refine j_iload C dX5_write_46 rfl ?_
        refine j_ialoadP (z := w) C 2 pool_newm pool_new rfl (by omega) (by omega) rfl dX5_write_48 ?_
        rcases sg_cases w with hsw | hsw
        · skip
          refine j_callSr C (v := .int (nI 1)) (w := (mW E x0 x1 x2 x3 x4 x5 mo ou th re ak gv kn ro (LL ++ [q1]) (va_up ff q1 (.inl (E.2.1, 3, .inl (upd (upd (upd (fun _ => 0) 0 a) 1 v) 2 w)))))) (m_isSign_1 l E A hsw) ok_X5_isSign w_948 (by omega) rfl rfl (Nat.le_of_ble_eq_true rfl) ⟨by omega, by omega⟩ dX5_write_49 ?_
          refine j_ifn_ne_t (tgt := 59) C dX5_write_52 (by decide) (by omega) (by omega) ?_
          refine j_iconst (v := (nI 0)) C dX5_write_59 rfl ?_
          refine j_ior (z := (nI 0)) C dX5_write_60 (by decide) ?_
          refine j_istore (lv' := [(6, .int (nI 0)), (8, .int (nI 2)), (7, .int (nI 0)), (5, .ref q1), (0, .ref mo), (1, .int x), (2, .int a), (3, .int v), (4, .int w)]) C dX5_write_61 (by decide) rfl ?_
          refine j_iload C dX5_write_63 rfl ?_
          refine j_iload C dX5_write_65 rfl ?_
          refine j_iload C dX5_write_67 rfl ?_
          refine j_icmpn_ne_t (tgt := 85) C dX5_write_69 (by decide) (by omega) (by omega) (by omega) ?_
          refine j_iconst (v := (nI 0)) C dX5_write_85 rfl ?_
          refine j_callSr C (v := .int (nI 0)) (w := (mW E x0 x1 x2 x3 x4 x5 mo ou th re ak gv kn ro (LL ++ [q1]) (va_up ff q1 (.inl (E.2.1, 3, .inl (upd (upd (upd (fun _ => 0) 0 a) 1 v) 2 w)))))) (m_one_0 l E A) ok_X5_one w_956 (by omega) rfl rfl (Nat.le_of_ble_eq_true rfl) ⟨by omega, by omega⟩ dX5_write_86 ?_
          refine j_iadd (z := (nI 0)) C dX5_write_89 (nI_add _ _) ?_
          refine j_istore (lv' := [(7, .int (nI 0)), (6, .int (nI 0)), (8, .int (nI 2)), (5, .ref q1), (0, .ref mo), (1, .int x), (2, .int a), (3, .int v), (4, .int w)]) C dX5_write_90 (by decide) rfl ?_
          refine j_iinc (lv' := [(8, .int (nI 3)), (7, .int (nI 0)), (6, .int (nI 0)), (5, .ref q1), (0, .ref mo), (1, .int x), (2, .int a), (3, .int v), (4, .int w)]) C dX5_write_92 rfl (nI_1 _) (by decide) rfl ?_
          refine j_goto (tgt := 27) C dX5_write_95 (by decide) ?_
          refine j_iload C dX5_write_27 rfl ?_
          refine j_iconst (v := (nI 3)) C dX5_write_29 rfl ?_
          refine j_icmpn_ge_t (tgt := 98) C dX5_write_30 (by decide) (by omega) (by omega) (by omega) ?_
          obtain rfl : W = 0 := hW.elim (fun q => q.1) (fun q => absurd ⟨Or.inl hea, Or.inl hev, Or.inr hsw⟩ q.2)
          obtain rfl : M = 0 := by
            rcases hM with ⟨q1, q⟩ | ⟨q1, q2, q⟩ | ⟨q1, q2, q3, q⟩ | ⟨q1, q2, q3, q⟩ <;> first | contradiction | exact q
          refine j_lv (lv' := [(7, .int (nI 0)), (6, .int (nI 0)), (5, .ref q1), (0, .ref mo), (1, .int x), (2, .int a), (3, .int v), (4, .int w)]) (by simp only [List.mem_cons, List.not_mem_nil, or_false, forall_eq_or_imp, forall_eq, true_or, or_true, and_self, Nat.add_zero]) ?_
          exact kk
        · skip
          refine j_callSr C (v := .int (nI 0)) (w := (mW E x0 x1 x2 x3 x4 x5 mo ou th re ak gv kn ro (LL ++ [q1]) (va_up ff q1 (.inl (E.2.1, 3, .inl (upd (upd (upd (fun _ => 0) 0 a) 1 v) 2 w)))))) (m_isSign_0 l E A hsw) ok_X5_isSign w_948 (by omega) rfl rfl (Nat.le_of_ble_eq_true rfl) ⟨by omega, by omega⟩ dX5_write_49 ?_
          refine j_ifn_ne_f (tgt := 59) C dX5_write_52 (by decide) (by omega) (by omega) ?_
          refine j_iconst (v := (nI 1)) C dX5_write_55 rfl ?_
          refine j_goto (tgt := 60) C dX5_write_56 (by decide) ?_
          refine j_ior (z := (nI 1)) C dX5_write_60 (by decide) ?_
          refine j_istore (lv' := [(6, .int (nI 1)), (8, .int (nI 2)), (7, .int (nI 0)), (5, .ref q1), (0, .ref mo), (1, .int x), (2, .int a), (3, .int v), (4, .int w)]) C dX5_write_61 (by decide) rfl ?_
          refine j_iload C dX5_write_63 rfl ?_
          refine j_iload C dX5_write_65 rfl ?_
          refine j_iload C dX5_write_67 rfl ?_
          refine j_icmpn_ne_t (tgt := 85) C dX5_write_69 (by decide) (by omega) (by omega) (by omega) ?_
          refine j_iconst (v := (nI 0)) C dX5_write_85 rfl ?_
          refine j_callSr C (v := .int (nI 0)) (w := (mW E x0 x1 x2 x3 x4 x5 mo ou th re ak gv kn ro (LL ++ [q1]) (va_up ff q1 (.inl (E.2.1, 3, .inl (upd (upd (upd (fun _ => 0) 0 a) 1 v) 2 w)))))) (m_one_0 l E A) ok_X5_one w_956 (by omega) rfl rfl (Nat.le_of_ble_eq_true rfl) ⟨by omega, by omega⟩ dX5_write_86 ?_
          refine j_iadd (z := (nI 0)) C dX5_write_89 (nI_add _ _) ?_
          refine j_istore (lv' := [(7, .int (nI 0)), (6, .int (nI 1)), (8, .int (nI 2)), (5, .ref q1), (0, .ref mo), (1, .int x), (2, .int a), (3, .int v), (4, .int w)]) C dX5_write_90 (by decide) rfl ?_
          refine j_iinc (lv' := [(8, .int (nI 3)), (7, .int (nI 0)), (6, .int (nI 1)), (5, .ref q1), (0, .ref mo), (1, .int x), (2, .int a), (3, .int v), (4, .int w)]) C dX5_write_92 rfl (nI_1 _) (by decide) rfl ?_
          refine j_goto (tgt := 27) C dX5_write_95 (by decide) ?_
          refine j_iload C dX5_write_27 rfl ?_
          refine j_iconst (v := (nI 3)) C dX5_write_29 rfl ?_
          refine j_icmpn_ge_t (tgt := 98) C dX5_write_30 (by decide) (by omega) (by omega) (by omega) ?_
          obtain rfl : W = 1 := hW.elim (fun q => absurd (show okS w from (fun q : okS a ∧ okS v ∧ okS w => q.2.2) q.2) (not_ok hew hsw)) (fun q => q.1)
          obtain rfl : M = 0 := by
            rcases hM with ⟨q1, q⟩ | ⟨q1, q2, q⟩ | ⟨q1, q2, q3, q⟩ | ⟨q1, q2, q3, q⟩ <;> first | contradiction | exact q
          refine j_lv (lv' := [(7, .int (nI 0)), (6, .int (nI 1)), (5, .ref q1), (0, .ref mo), (1, .int x), (2, .int a), (3, .int v), (4, .int w)]) (by simp only [List.mem_cons, List.not_mem_nil, or_false, forall_eq_or_imp, forall_eq, true_or, or_true, and_self, Nat.add_zero]) ?_
          exact kk
    · skip
      refine j_aload C dX5_write_44 rfl ?_
      refine j_iload C dX5_write_46 rfl ?_
      refine j_ialoadP (z := v) C 1 pool_newm pool_new rfl (by omega) (by omega) rfl dX5_write_48 ?_
      rcases sg_cases v with hsv | hsv
      · skip
        refine j_callSr C (v := .int (nI 1)) (w := (mW E x0 x1 x2 x3 x4 x5 mo ou th re ak gv kn ro (LL ++ [q1]) (va_up ff q1 (.inl (E.2.1, 3, .inl (upd (upd (upd (fun _ => 0) 0 a) 1 v) 2 w)))))) (m_isSign_1 l E A hsv) ok_X5_isSign w_948 (by omega) rfl rfl (Nat.le_of_ble_eq_true rfl) ⟨by omega, by omega⟩ dX5_write_49 ?_
        refine j_ifn_ne_t (tgt := 59) C dX5_write_52 (by decide) (by omega) (by omega) ?_
        refine j_iconst (v := (nI 0)) C dX5_write_59 rfl ?_
        refine j_ior (z := (nI 0)) C dX5_write_60 (by decide) ?_
        refine j_istore (lv' := [(6, .int (nI 0)), (8, .int (nI 1)), (7, .int (nI 0)), (5, .ref q1), (0, .ref mo), (1, .int x), (2, .int a), (3, .int v), (4, .int w)]) C dX5_write_61 (by decide) rfl ?_
        refine j_iload C dX5_write_63 rfl ?_
        refine j_iload C dX5_write_65 rfl ?_
        refine j_iload C dX5_write_67 rfl ?_
        refine j_icmpn_ne_t (tgt := 85) C dX5_write_69 (by decide) (by omega) (by omega) (by omega) ?_
        refine j_iconst (v := (nI 0)) C dX5_write_85 rfl ?_
        refine j_callSr C (v := .int (nI 0)) (w := (mW E x0 x1 x2 x3 x4 x5 mo ou th re ak gv kn ro (LL ++ [q1]) (va_up ff q1 (.inl (E.2.1, 3, .inl (upd (upd (upd (fun _ => 0) 0 a) 1 v) 2 w)))))) (m_one_0 l E A) ok_X5_one w_956 (by omega) rfl rfl (Nat.le_of_ble_eq_true rfl) ⟨by omega, by omega⟩ dX5_write_86 ?_
        refine j_iadd (z := (nI 0)) C dX5_write_89 (nI_add _ _) ?_
        refine j_istore (lv' := [(7, .int (nI 0)), (6, .int (nI 0)), (8, .int (nI 1)), (5, .ref q1), (0, .ref mo), (1, .int x), (2, .int a), (3, .int v), (4, .int w)]) C dX5_write_90 (by decide) rfl ?_
        refine j_iinc (lv' := [(8, .int (nI 2)), (7, .int (nI 0)), (6, .int (nI 0)), (5, .ref q1), (0, .ref mo), (1, .int x), (2, .int a), (3, .int v), (4, .int w)]) C dX5_write_92 rfl (nI_1 _) (by decide) rfl ?_
        refine j_goto (tgt := 27) C dX5_write_95 (by decide) ?_
        refine j_iload C dX5_write_27 rfl ?_
        refine j_iconst (v := (nI 3)) C dX5_write_29 rfl ?_
        refine j_icmpn_ge_f (tgt := 98) C dX5_write_30 (by decide) (by omega) (by omega) (by omega) ?_
        refine j_iload C dX5_write_33 rfl ?_
        refine j_aload C dX5_write_35 rfl ?_
        refine j_iload C dX5_write_37 rfl ?_
        refine j_ialoadP (z := w) C 2 pool_newm pool_new rfl (by omega) (by omega) rfl dX5_write_39 ?_
        refine j_iconst (v := (-1)) C dX5_write_40 rfl ?_
        refine j_icmp_eq (tgt := 59) C dX5_write_41 (by decide) (fun hew => ?_) (fun hew => ?_)
        · skip
          refine j_iconst (v := (nI 0)) C dX5_write_59 rfl ?_
          refine j_ior (z := (nI 0)) C dX5_write_60 (by decide) ?_
          refine j_istore (lv' := [(6, .int (nI 0)), (8, .int (nI 2)), (7, .int (nI 0)), (5, .ref q1), (0, .ref mo), (1, .int x), (2, .int a), (3, .int v), (4, .int w)]) C dX5_write_61 (by decide) rfl ?_
          refine j_iload C dX5_write_63 rfl ?_
          refine j_iload C dX5_write_65 rfl ?_
          refine j_iload C dX5_write_67 rfl ?_
          refine j_icmpn_ne_t (tgt := 85) C dX5_write_69 (by decide) (by omega) (by omega) (by omega) ?_
          refine j_iconst (v := (nI 0)) C dX5_write_85 rfl ?_
          refine j_callSr C (v := .int (nI 0)) (w := (mW E x0 x1 x2 x3 x4 x5 mo ou th re ak gv kn ro (LL ++ [q1]) (va_up ff q1 (.inl (E.2.1, 3, .inl (upd (upd (upd (fun _ => 0) 0 a) 1 v) 2 w)))))) (m_one_0 l E A) ok_X5_one w_956 (by omega) rfl rfl (Nat.le_of_ble_eq_true rfl) ⟨by omega, by omega⟩ dX5_write_86 ?_
          refine j_iadd (z := (nI 0)) C dX5_write_89 (nI_add _ _) ?_
          refine j_istore (lv' := [(7, .int (nI 0)), (6, .int (nI 0)), (8, .int (nI 2)), (5, .ref q1), (0, .ref mo), (1, .int x), (2, .int a), (3, .int v), (4, .int w)]) C dX5_write_90 (by decide) rfl ?_
          refine j_iinc (lv' := [(8, .int (nI 3)), (7, .int (nI 0)), (6, .int (nI 0)), (5, .ref q1), (0, .ref mo), (1, .int x), (2, .int a), (3, .int v), (4, .int w)]) C dX5_write_92 rfl (nI_1 _) (by decide) rfl ?_
          refine j_goto (tgt := 27) C dX5_write_95 (by decide) ?_
          refine j_iload C dX5_write_27 rfl ?_
          refine j_iconst (v := (nI 3)) C dX5_write_29 rfl ?_
          refine j_icmpn_ge_t (tgt := 98) C dX5_write_30 (by decide) (by omega) (by omega) (by omega) ?_
          obtain rfl : W = 0 := hW.elim (fun q => q.1) (fun q => absurd ⟨Or.inl hea, Or.inr hsv, Or.inl hew⟩ q.2)
          obtain rfl : M = 0 := by
            rcases hM with ⟨q1, q⟩ | ⟨q1, q2, q⟩ | ⟨q1, q2, q3, q⟩ | ⟨q1, q2, q3, q⟩ <;> first | contradiction | exact q
          refine j_lv (lv' := [(7, .int (nI 0)), (6, .int (nI 0)), (5, .ref q1), (0, .ref mo), (1, .int x), (2, .int a), (3, .int v), (4, .int w)]) (by simp only [List.mem_cons, List.not_mem_nil, or_false, forall_eq_or_imp, forall_eq, true_or, or_true, and_self, Nat.add_zero]) ?_
          exact kk
        · skip
          refine j_aload C dX5_write_44 rfl ?_
          refine j_iload C dX5_write_46 rfl ?_
          refine j_ialoadP (z := w) C 2 pool_newm pool_new rfl (by omega) (by omega) rfl dX5_write_48 ?_
          rcases sg_cases w with hsw | hsw
          · skip
            refine j_callSr C (v := .int (nI 1)) (w := (mW E x0 x1 x2 x3 x4 x5 mo ou th re ak gv kn ro (LL ++ [q1]) (va_up ff q1 (.inl (E.2.1, 3, .inl (upd (upd (upd (fun _ => 0) 0 a) 1 v) 2 w)))))) (m_isSign_1 l E A hsw) ok_X5_isSign w_948 (by omega) rfl rfl (Nat.le_of_ble_eq_true rfl) ⟨by omega, by omega⟩ dX5_write_49 ?_
            refine j_ifn_ne_t (tgt := 59) C dX5_write_52 (by decide) (by omega) (by omega) ?_
            refine j_iconst (v := (nI 0)) C dX5_write_59 rfl ?_
            refine j_ior (z := (nI 0)) C dX5_write_60 (by decide) ?_
            refine j_istore (lv' := [(6, .int (nI 0)), (8, .int (nI 2)), (7, .int (nI 0)), (5, .ref q1), (0, .ref mo), (1, .int x), (2, .int a), (3, .int v), (4, .int w)]) C dX5_write_61 (by decide) rfl ?_
            refine j_iload C dX5_write_63 rfl ?_
            refine j_iload C dX5_write_65 rfl ?_
            refine j_iload C dX5_write_67 rfl ?_
            refine j_icmpn_ne_t (tgt := 85) C dX5_write_69 (by decide) (by omega) (by omega) (by omega) ?_
            refine j_iconst (v := (nI 0)) C dX5_write_85 rfl ?_
            refine j_callSr C (v := .int (nI 0)) (w := (mW E x0 x1 x2 x3 x4 x5 mo ou th re ak gv kn ro (LL ++ [q1]) (va_up ff q1 (.inl (E.2.1, 3, .inl (upd (upd (upd (fun _ => 0) 0 a) 1 v) 2 w)))))) (m_one_0 l E A) ok_X5_one w_956 (by omega) rfl rfl (Nat.le_of_ble_eq_true rfl) ⟨by omega, by omega⟩ dX5_write_86 ?_
            refine j_iadd (z := (nI 0)) C dX5_write_89 (nI_add _ _) ?_
            refine j_istore (lv' := [(7, .int (nI 0)), (6, .int (nI 0)), (8, .int (nI 2)), (5, .ref q1), (0, .ref mo), (1, .int x), (2, .int a), (3, .int v), (4, .int w)]) C dX5_write_90 (by decide) rfl ?_
            refine j_iinc (lv' := [(8, .int (nI 3)), (7, .int (nI 0)), (6, .int (nI 0)), (5, .ref q1), (0, .ref mo), (1, .int x), (2, .int a), (3, .int v), (4, .int w)]) C dX5_write_92 rfl (nI_1 _) (by decide) rfl ?_
            refine j_goto (tgt := 27) C dX5_write_95 (by decide) ?_
            refine j_iload C dX5_write_27 rfl ?_
            refine j_iconst (v := (nI 3)) C dX5_write_29 rfl ?_
            refine j_icmpn_ge_t (tgt := 98) C dX5_write_30 (by decide) (by omega) (by omega) (by omega) ?_
            obtain rfl : W = 0 := hW.elim (fun q => q.1) (fun q => absurd ⟨Or.inl hea, Or.inr hsv, Or.inr hsw⟩ q.2)
            obtain rfl : M = 0 := by
              rcases hM with ⟨q1, q⟩ | ⟨q1, q2, q⟩ | ⟨q1, q2, q3, q⟩ | ⟨q1, q2, q3, q⟩ <;> first | contradiction | exact q
            refine j_lv (lv' := [(7, .int (nI 0)), (6, .int (nI 0)), (5, .ref q1), (0, .ref mo), (1, .int x), (2, .int a), (3, .int v), (4, .int w)]) (by simp only [List.mem_cons, List.not_mem_nil, or_false, forall_eq_or_imp, forall_eq, true_or, or_true, and_self, Nat.add_zero]) ?_
            exact kk
          · skip
            refine j_callSr C (v := .int (nI 0)) (w := (mW E x0 x1 x2 x3 x4 x5 mo ou th re ak gv kn ro (LL ++ [q1]) (va_up ff q1 (.inl (E.2.1, 3, .inl (upd (upd (upd (fun _ => 0) 0 a) 1 v) 2 w)))))) (m_isSign_0 l E A hsw) ok_X5_isSign w_948 (by omega) rfl rfl (Nat.le_of_ble_eq_true rfl) ⟨by omega, by omega⟩ dX5_write_49 ?_
            refine j_ifn_ne_f (tgt := 59) C dX5_write_52 (by decide) (by omega) (by omega) ?_
            refine j_iconst (v := (nI 1)) C dX5_write_55 rfl ?_
            refine j_goto (tgt := 60) C dX5_write_56 (by decide) ?_
            refine j_ior (z := (nI 1)) C dX5_write_60 (by decide) ?_
            refine j_istore (lv' := [(6, .int (nI 1)), (8, .int (nI 2)), (7, .int (nI 0)), (5, .ref q1), (0, .ref mo), (1, .int x), (2, .int a), (3, .int v), (4, .int w)]) C dX5_write_61 (by decide) rfl ?_
            refine j_iload C dX5_write_63 rfl ?_
            refine j_iload C dX5_write_65 rfl ?_
            refine j_iload C dX5_write_67 rfl ?_
            refine j_icmpn_ne_t (tgt := 85) C dX5_write_69 (by decide) (by omega) (by omega) (by omega) ?_
            refine j_iconst (v := (nI 0)) C dX5_write_85 rfl ?_
            refine j_callSr C (v := .int (nI 0)) (w := (mW E x0 x1 x2 x3 x4 x5 mo ou th re ak gv kn ro (LL ++ [q1]) (va_up ff q1 (.inl (E.2.1, 3, .inl (upd (upd (upd (fun _ => 0) 0 a) 1 v) 2 w)))))) (m_one_0 l E A) ok_X5_one w_956 (by omega) rfl rfl (Nat.le_of_ble_eq_true rfl) ⟨by omega, by omega⟩ dX5_write_86 ?_
            refine j_iadd (z := (nI 0)) C dX5_write_89 (nI_add _ _) ?_
            refine j_istore (lv' := [(7, .int (nI 0)), (6, .int (nI 1)), (8, .int (nI 2)), (5, .ref q1), (0, .ref mo), (1, .int x), (2, .int a), (3, .int v), (4, .int w)]) C dX5_write_90 (by decide) rfl ?_
            refine j_iinc (lv' := [(8, .int (nI 3)), (7, .int (nI 0)), (6, .int (nI 1)), (5, .ref q1), (0, .ref mo), (1, .int x), (2, .int a), (3, .int v), (4, .int w)]) C dX5_write_92 rfl (nI_1 _) (by decide) rfl ?_
            refine j_goto (tgt := 27) C dX5_write_95 (by decide) ?_
            refine j_iload C dX5_write_27 rfl ?_
            refine j_iconst (v := (nI 3)) C dX5_write_29 rfl ?_
            refine j_icmpn_ge_t (tgt := 98) C dX5_write_30 (by decide) (by omega) (by omega) (by omega) ?_
            obtain rfl : W = 1 := hW.elim (fun q => absurd (show okS w from (fun q : okS a ∧ okS v ∧ okS w => q.2.2) q.2) (not_ok hew hsw)) (fun q => q.1)
            obtain rfl : M = 0 := by
              rcases hM with ⟨q1, q⟩ | ⟨q1, q2, q⟩ | ⟨q1, q2, q3, q⟩ | ⟨q1, q2, q3, q⟩ <;> first | contradiction | exact q
            refine j_lv (lv' := [(7, .int (nI 0)), (6, .int (nI 1)), (5, .ref q1), (0, .ref mo), (1, .int x), (2, .int a), (3, .int v), (4, .int w)]) (by simp only [List.mem_cons, List.not_mem_nil, or_false, forall_eq_or_imp, forall_eq, true_or, or_true, and_self, Nat.add_zero]) ?_
            exact kk
      · skip
        refine j_callSr C (v := .int (nI 0)) (w := (mW E x0 x1 x2 x3 x4 x5 mo ou th re ak gv kn ro (LL ++ [q1]) (va_up ff q1 (.inl (E.2.1, 3, .inl (upd (upd (upd (fun _ => 0) 0 a) 1 v) 2 w)))))) (m_isSign_0 l E A hsv) ok_X5_isSign w_948 (by omega) rfl rfl (Nat.le_of_ble_eq_true rfl) ⟨by omega, by omega⟩ dX5_write_49 ?_
        refine j_ifn_ne_f (tgt := 59) C dX5_write_52 (by decide) (by omega) (by omega) ?_
        refine j_iconst (v := (nI 1)) C dX5_write_55 rfl ?_
        refine j_goto (tgt := 60) C dX5_write_56 (by decide) ?_
        refine j_ior (z := (nI 1)) C dX5_write_60 (by decide) ?_
        refine j_istore (lv' := [(6, .int (nI 1)), (8, .int (nI 1)), (7, .int (nI 0)), (5, .ref q1), (0, .ref mo), (1, .int x), (2, .int a), (3, .int v), (4, .int w)]) C dX5_write_61 (by decide) rfl ?_
        refine j_iload C dX5_write_63 rfl ?_
        refine j_iload C dX5_write_65 rfl ?_
        refine j_iload C dX5_write_67 rfl ?_
        refine j_icmpn_ne_t (tgt := 85) C dX5_write_69 (by decide) (by omega) (by omega) (by omega) ?_
        refine j_iconst (v := (nI 0)) C dX5_write_85 rfl ?_
        refine j_callSr C (v := .int (nI 0)) (w := (mW E x0 x1 x2 x3 x4 x5 mo ou th re ak gv kn ro (LL ++ [q1]) (va_up ff q1 (.inl (E.2.1, 3, .inl (upd (upd (upd (fun _ => 0) 0 a) 1 v) 2 w)))))) (m_one_0 l E A) ok_X5_one w_956 (by omega) rfl rfl (Nat.le_of_ble_eq_true rfl) ⟨by omega, by omega⟩ dX5_write_86 ?_
        refine j_iadd (z := (nI 0)) C dX5_write_89 (nI_add _ _) ?_
        refine j_istore (lv' := [(7, .int (nI 0)), (6, .int (nI 1)), (8, .int (nI 1)), (5, .ref q1), (0, .ref mo), (1, .int x), (2, .int a), (3, .int v), (4, .int w)]) C dX5_write_90 (by decide) rfl ?_
        refine j_iinc (lv' := [(8, .int (nI 2)), (7, .int (nI 0)), (6, .int (nI 1)), (5, .ref q1), (0, .ref mo), (1, .int x), (2, .int a), (3, .int v), (4, .int w)]) C dX5_write_92 rfl (nI_1 _) (by decide) rfl ?_
        refine j_goto (tgt := 27) C dX5_write_95 (by decide) ?_
        refine j_iload C dX5_write_27 rfl ?_
        refine j_iconst (v := (nI 3)) C dX5_write_29 rfl ?_
        refine j_icmpn_ge_f (tgt := 98) C dX5_write_30 (by decide) (by omega) (by omega) (by omega) ?_
        refine j_iload C dX5_write_33 rfl ?_
        refine j_aload C dX5_write_35 rfl ?_
        refine j_iload C dX5_write_37 rfl ?_
        refine j_ialoadP (z := w) C 2 pool_newm pool_new rfl (by omega) (by omega) rfl dX5_write_39 ?_
        refine j_iconst (v := (-1)) C dX5_write_40 rfl ?_
        refine j_icmp_eq (tgt := 59) C dX5_write_41 (by decide) (fun hew => ?_) (fun hew => ?_)
        · skip
          refine j_iconst (v := (nI 0)) C dX5_write_59 rfl ?_
          refine j_ior (z := (nI 1)) C dX5_write_60 (by decide) ?_
          refine j_istore (lv' := [(6, .int (nI 1)), (8, .int (nI 2)), (7, .int (nI 0)), (5, .ref q1), (0, .ref mo), (1, .int x), (2, .int a), (3, .int v), (4, .int w)]) C dX5_write_61 (by decide) rfl ?_
          refine j_iload C dX5_write_63 rfl ?_
          refine j_iload C dX5_write_65 rfl ?_
          refine j_iload C dX5_write_67 rfl ?_
          refine j_icmpn_ne_t (tgt := 85) C dX5_write_69 (by decide) (by omega) (by omega) (by omega) ?_
          refine j_iconst (v := (nI 0)) C dX5_write_85 rfl ?_
          refine j_callSr C (v := .int (nI 0)) (w := (mW E x0 x1 x2 x3 x4 x5 mo ou th re ak gv kn ro (LL ++ [q1]) (va_up ff q1 (.inl (E.2.1, 3, .inl (upd (upd (upd (fun _ => 0) 0 a) 1 v) 2 w)))))) (m_one_0 l E A) ok_X5_one w_956 (by omega) rfl rfl (Nat.le_of_ble_eq_true rfl) ⟨by omega, by omega⟩ dX5_write_86 ?_
          refine j_iadd (z := (nI 0)) C dX5_write_89 (nI_add _ _) ?_
          refine j_istore (lv' := [(7, .int (nI 0)), (6, .int (nI 1)), (8, .int (nI 2)), (5, .ref q1), (0, .ref mo), (1, .int x), (2, .int a), (3, .int v), (4, .int w)]) C dX5_write_90 (by decide) rfl ?_
          refine j_iinc (lv' := [(8, .int (nI 3)), (7, .int (nI 0)), (6, .int (nI 1)), (5, .ref q1), (0, .ref mo), (1, .int x), (2, .int a), (3, .int v), (4, .int w)]) C dX5_write_92 rfl (nI_1 _) (by decide) rfl ?_
          refine j_goto (tgt := 27) C dX5_write_95 (by decide) ?_
          refine j_iload C dX5_write_27 rfl ?_
          refine j_iconst (v := (nI 3)) C dX5_write_29 rfl ?_
          refine j_icmpn_ge_t (tgt := 98) C dX5_write_30 (by decide) (by omega) (by omega) (by omega) ?_
          obtain rfl : W = 1 := hW.elim (fun q => absurd (show okS v from (fun q : okS a ∧ okS v ∧ okS w => q.2.1) q.2) (not_ok hev hsv)) (fun q => q.1)
          obtain rfl : M = 0 := by
            rcases hM with ⟨q1, q⟩ | ⟨q1, q2, q⟩ | ⟨q1, q2, q3, q⟩ | ⟨q1, q2, q3, q⟩ <;> first | contradiction | exact q
          refine j_lv (lv' := [(7, .int (nI 0)), (6, .int (nI 1)), (5, .ref q1), (0, .ref mo), (1, .int x), (2, .int a), (3, .int v), (4, .int w)]) (by simp only [List.mem_cons, List.not_mem_nil, or_false, forall_eq_or_imp, forall_eq, true_or, or_true, and_self, Nat.add_zero]) ?_
          exact kk
        · skip
          refine j_aload C dX5_write_44 rfl ?_
          refine j_iload C dX5_write_46 rfl ?_
          refine j_ialoadP (z := w) C 2 pool_newm pool_new rfl (by omega) (by omega) rfl dX5_write_48 ?_
          rcases sg_cases w with hsw | hsw
          · skip
            refine j_callSr C (v := .int (nI 1)) (w := (mW E x0 x1 x2 x3 x4 x5 mo ou th re ak gv kn ro (LL ++ [q1]) (va_up ff q1 (.inl (E.2.1, 3, .inl (upd (upd (upd (fun _ => 0) 0 a) 1 v) 2 w)))))) (m_isSign_1 l E A hsw) ok_X5_isSign w_948 (by omega) rfl rfl (Nat.le_of_ble_eq_true rfl) ⟨by omega, by omega⟩ dX5_write_49 ?_
            refine j_ifn_ne_t (tgt := 59) C dX5_write_52 (by decide) (by omega) (by omega) ?_
            refine j_iconst (v := (nI 0)) C dX5_write_59 rfl ?_
            refine j_ior (z := (nI 1)) C dX5_write_60 (by decide) ?_
            refine j_istore (lv' := [(6, .int (nI 1)), (8, .int (nI 2)), (7, .int (nI 0)), (5, .ref q1), (0, .ref mo), (1, .int x), (2, .int a), (3, .int v), (4, .int w)]) C dX5_write_61 (by decide) rfl ?_
            refine j_iload C dX5_write_63 rfl ?_
            refine j_iload C dX5_write_65 rfl ?_
            refine j_iload C dX5_write_67 rfl ?_
            refine j_icmpn_ne_t (tgt := 85) C dX5_write_69 (by decide) (by omega) (by omega) (by omega) ?_
            refine j_iconst (v := (nI 0)) C dX5_write_85 rfl ?_
            refine j_callSr C (v := .int (nI 0)) (w := (mW E x0 x1 x2 x3 x4 x5 mo ou th re ak gv kn ro (LL ++ [q1]) (va_up ff q1 (.inl (E.2.1, 3, .inl (upd (upd (upd (fun _ => 0) 0 a) 1 v) 2 w)))))) (m_one_0 l E A) ok_X5_one w_956 (by omega) rfl rfl (Nat.le_of_ble_eq_true rfl) ⟨by omega, by omega⟩ dX5_write_86 ?_
            refine j_iadd (z := (nI 0)) C dX5_write_89 (nI_add _ _) ?_
            refine j_istore (lv' := [(7, .int (nI 0)), (6, .int (nI 1)), (8, .int (nI 2)), (5, .ref q1), (0, .ref mo), (1, .int x), (2, .int a), (3, .int v), (4, .int w)]) C dX5_write_90 (by decide) rfl ?_
            refine j_iinc (lv' := [(8, .int (nI 3)), (7, .int (nI 0)), (6, .int (nI 1)), (5, .ref q1), (0, .ref mo), (1, .int x), (2, .int a), (3, .int v), (4, .int w)]) C dX5_write_92 rfl (nI_1 _) (by decide) rfl ?_
            refine j_goto (tgt := 27) C dX5_write_95 (by decide) ?_
            refine j_iload C dX5_write_27 rfl ?_
            refine j_iconst (v := (nI 3)) C dX5_write_29 rfl ?_
            refine j_icmpn_ge_t (tgt := 98) C dX5_write_30 (by decide) (by omega) (by omega) (by omega) ?_
            obtain rfl : W = 1 := hW.elim (fun q => absurd (show okS v from (fun q : okS a ∧ okS v ∧ okS w => q.2.1) q.2) (not_ok hev hsv)) (fun q => q.1)
            obtain rfl : M = 0 := by
              rcases hM with ⟨q1, q⟩ | ⟨q1, q2, q⟩ | ⟨q1, q2, q3, q⟩ | ⟨q1, q2, q3, q⟩ <;> first | contradiction | exact q
            refine j_lv (lv' := [(7, .int (nI 0)), (6, .int (nI 1)), (5, .ref q1), (0, .ref mo), (1, .int x), (2, .int a), (3, .int v), (4, .int w)]) (by simp only [List.mem_cons, List.not_mem_nil, or_false, forall_eq_or_imp, forall_eq, true_or, or_true, and_self, Nat.add_zero]) ?_
            exact kk
          · skip
            refine j_callSr C (v := .int (nI 0)) (w := (mW E x0 x1 x2 x3 x4 x5 mo ou th re ak gv kn ro (LL ++ [q1]) (va_up ff q1 (.inl (E.2.1, 3, .inl (upd (upd (upd (fun _ => 0) 0 a) 1 v) 2 w)))))) (m_isSign_0 l E A hsw) ok_X5_isSign w_948 (by omega) rfl rfl (Nat.le_of_ble_eq_true rfl) ⟨by omega, by omega⟩ dX5_write_49 ?_
            refine j_ifn_ne_f (tgt := 59) C dX5_write_52 (by decide) (by omega) (by omega) ?_
            refine j_iconst (v := (nI 1)) C dX5_write_55 rfl ?_
            refine j_goto (tgt := 60) C dX5_write_56 (by decide) ?_
            refine j_ior (z := (nI 1)) C dX5_write_60 (by decide) ?_
            refine j_istore (lv' := [(6, .int (nI 1)), (8, .int (nI 2)), (7, .int (nI 0)), (5, .ref q1), (0, .ref mo), (1, .int x), (2, .int a), (3, .int v), (4, .int w)]) C dX5_write_61 (by decide) rfl ?_
            refine j_iload C dX5_write_63 rfl ?_
            refine j_iload C dX5_write_65 rfl ?_
            refine j_iload C dX5_write_67 rfl ?_
            refine j_icmpn_ne_t (tgt := 85) C dX5_write_69 (by decide) (by omega) (by omega) (by omega) ?_
            refine j_iconst (v := (nI 0)) C dX5_write_85 rfl ?_
            refine j_callSr C (v := .int (nI 0)) (w := (mW E x0 x1 x2 x3 x4 x5 mo ou th re ak gv kn ro (LL ++ [q1]) (va_up ff q1 (.inl (E.2.1, 3, .inl (upd (upd (upd (fun _ => 0) 0 a) 1 v) 2 w)))))) (m_one_0 l E A) ok_X5_one w_956 (by omega) rfl rfl (Nat.le_of_ble_eq_true rfl) ⟨by omega, by omega⟩ dX5_write_86 ?_
            refine j_iadd (z := (nI 0)) C dX5_write_89 (nI_add _ _) ?_
            refine j_istore (lv' := [(7, .int (nI 0)), (6, .int (nI 1)), (8, .int (nI 2)), (5, .ref q1), (0, .ref mo), (1, .int x), (2, .int a), (3, .int v), (4, .int w)]) C dX5_write_90 (by decide) rfl ?_
            refine j_iinc (lv' := [(8, .int (nI 3)), (7, .int (nI 0)), (6, .int (nI 1)), (5, .ref q1), (0, .ref mo), (1, .int x), (2, .int a), (3, .int v), (4, .int w)]) C dX5_write_92 rfl (nI_1 _) (by decide) rfl ?_
            refine j_goto (tgt := 27) C dX5_write_95 (by decide) ?_
            refine j_iload C dX5_write_27 rfl ?_
            refine j_iconst (v := (nI 3)) C dX5_write_29 rfl ?_
            refine j_icmpn_ge_t (tgt := 98) C dX5_write_30 (by decide) (by omega) (by omega) (by omega) ?_
            obtain rfl : W = 1 := hW.elim (fun q => absurd (show okS v from (fun q : okS a ∧ okS v ∧ okS w => q.2.1) q.2) (not_ok hev hsv)) (fun q => q.1)
            obtain rfl : M = 0 := by
              rcases hM with ⟨q1, q⟩ | ⟨q1, q2, q⟩ | ⟨q1, q2, q3, q⟩ | ⟨q1, q2, q3, q⟩ <;> first | contradiction | exact q
            refine j_lv (lv' := [(7, .int (nI 0)), (6, .int (nI 1)), (5, .ref q1), (0, .ref mo), (1, .int x), (2, .int a), (3, .int v), (4, .int w)]) (by simp only [List.mem_cons, List.not_mem_nil, or_false, forall_eq_or_imp, forall_eq, true_or, or_true, and_self, Nat.add_zero]) ?_
            exact kk
  · skip
    refine j_aload C dX5_write_44 rfl ?_
    refine j_iload C dX5_write_46 rfl ?_
    refine j_ialoadP (z := a) C 0 pool_newm pool_new rfl (by omega) (by omega) rfl dX5_write_48 ?_
    rcases sg_cases a with hsa | hsa
    · skip
      refine j_callSr C (v := .int (nI 1)) (w := (mW E x0 x1 x2 x3 x4 x5 mo ou th re ak gv kn ro (LL ++ [q1]) (va_up ff q1 (.inl (E.2.1, 3, .inl (upd (upd (upd (fun _ => 0) 0 a) 1 v) 2 w)))))) (m_isSign_1 l E A hsa) ok_X5_isSign w_948 (by omega) rfl rfl (Nat.le_of_ble_eq_true rfl) ⟨by omega, by omega⟩ dX5_write_49 ?_
      refine j_ifn_ne_t (tgt := 59) C dX5_write_52 (by decide) (by omega) (by omega) ?_
      refine j_iconst (v := (nI 0)) C dX5_write_59 rfl ?_
      refine j_ior (z := (nI 0)) C dX5_write_60 (by decide) ?_
      refine j_istore (lv' := [(6, .int (nI 0)), (8, .int (nI 0)), (7, .int (nI 0)), (5, .ref q1), (0, .ref mo), (1, .int x), (2, .int a), (3, .int v), (4, .int w)]) C dX5_write_61 (by decide) rfl ?_
      refine j_iload C dX5_write_63 rfl ?_
      refine j_iload C dX5_write_65 rfl ?_
      refine j_iload C dX5_write_67 rfl ?_
      refine j_icmpn_ne_f (tgt := 85) C dX5_write_69 (by decide) (by omega) (by omega) (by omega) ?_
      refine j_aload C dX5_write_72 rfl ?_
      refine j_iload C dX5_write_74 rfl ?_
      refine j_ialoadP (z := a) C 0 pool_newm pool_new rfl (by omega) (by omega) rfl dX5_write_76 ?_
      refine j_iconst (v := (-1)) C dX5_write_77 rfl ?_
      refine j_icmp_eq_f (tgt := 85) C dX5_write_78 (by decide) hea ?_
      refine j_iconst (v := (nI 1)) C dX5_write_81 rfl ?_
      refine j_goto (tgt := 86) C dX5_write_82 (by decide) ?_
      refine j_callSr C (v := .int (nI 1)) (w := (mW E x0 x1 x2 x3 x4 x5 mo ou th re ak gv kn ro (LL ++ [q1]) (va_up ff q1 (.inl (E.2.1, 3, .inl (upd (upd (upd (fun _ => 0) 0 a) 1 v) 2 w)))))) (m_one_1 l E A) ok_X5_one w_956 (by omega) rfl rfl (Nat.le_of_ble_eq_true rfl) ⟨by omega, by omega⟩ dX5_write_86 ?_
      refine j_iadd (z := (nI 1)) C dX5_write_89 (nI_add _ _) ?_
      refine j_istore (lv' := [(7, .int (nI 1)), (6, .int (nI 0)), (8, .int (nI 0)), (5, .ref q1), (0, .ref mo), (1, .int x), (2, .int a), (3, .int v), (4, .int w)]) C dX5_write_90 (by decide) rfl ?_
      refine j_iinc (lv' := [(8, .int (nI 1)), (7, .int (nI 1)), (6, .int (nI 0)), (5, .ref q1), (0, .ref mo), (1, .int x), (2, .int a), (3, .int v), (4, .int w)]) C dX5_write_92 rfl (nI_1 _) (by decide) rfl ?_
      refine j_goto (tgt := 27) C dX5_write_95 (by decide) ?_
      refine j_iload C dX5_write_27 rfl ?_
      refine j_iconst (v := (nI 3)) C dX5_write_29 rfl ?_
      refine j_icmpn_ge_f (tgt := 98) C dX5_write_30 (by decide) (by omega) (by omega) (by omega) ?_
      refine j_iload C dX5_write_33 rfl ?_
      refine j_aload C dX5_write_35 rfl ?_
      refine j_iload C dX5_write_37 rfl ?_
      refine j_ialoadP (z := v) C 1 pool_newm pool_new rfl (by omega) (by omega) rfl dX5_write_39 ?_
      refine j_iconst (v := (-1)) C dX5_write_40 rfl ?_
      refine j_icmp_eq (tgt := 59) C dX5_write_41 (by decide) (fun hev => ?_) (fun hev => ?_)
      · skip
        refine j_iconst (v := (nI 0)) C dX5_write_59 rfl ?_
        refine j_ior (z := (nI 0)) C dX5_write_60 (by decide) ?_
        refine j_istore (lv' := [(6, .int (nI 0)), (8, .int (nI 1)), (7, .int (nI 1)), (5, .ref q1), (0, .ref mo), (1, .int x), (2, .int a), (3, .int v), (4, .int w)]) C dX5_write_61 (by decide) rfl ?_
        refine j_iload C dX5_write_63 rfl ?_
        refine j_iload C dX5_write_65 rfl ?_
        refine j_iload C dX5_write_67 rfl ?_
        refine j_icmpn_ne_f (tgt := 85) C dX5_write_69 (by decide) (by omega) (by omega) (by omega) ?_
        refine j_aload C dX5_write_72 rfl ?_
        refine j_iload C dX5_write_74 rfl ?_
        refine j_ialoadP (z := v) C 1 pool_newm pool_new rfl (by omega) (by omega) rfl dX5_write_76 ?_
        refine j_iconst (v := (-1)) C dX5_write_77 rfl ?_
        refine j_icmp_eq_t (tgt := 85) C dX5_write_78 (by decide) hev ?_
        refine j_iconst (v := (nI 0)) C dX5_write_85 rfl ?_
        refine j_callSr C (v := .int (nI 0)) (w := (mW E x0 x1 x2 x3 x4 x5 mo ou th re ak gv kn ro (LL ++ [q1]) (va_up ff q1 (.inl (E.2.1, 3, .inl (upd (upd (upd (fun _ => 0) 0 a) 1 v) 2 w)))))) (m_one_0 l E A) ok_X5_one w_956 (by omega) rfl rfl (Nat.le_of_ble_eq_true rfl) ⟨by omega, by omega⟩ dX5_write_86 ?_
        refine j_iadd (z := (nI 1)) C dX5_write_89 (nI_add _ _) ?_
        refine j_istore (lv' := [(7, .int (nI 1)), (6, .int (nI 0)), (8, .int (nI 1)), (5, .ref q1), (0, .ref mo), (1, .int x), (2, .int a), (3, .int v), (4, .int w)]) C dX5_write_90 (by decide) rfl ?_
        refine j_iinc (lv' := [(8, .int (nI 2)), (7, .int (nI 1)), (6, .int (nI 0)), (5, .ref q1), (0, .ref mo), (1, .int x), (2, .int a), (3, .int v), (4, .int w)]) C dX5_write_92 rfl (nI_1 _) (by decide) rfl ?_
        refine j_goto (tgt := 27) C dX5_write_95 (by decide) ?_
        refine j_iload C dX5_write_27 rfl ?_
        refine j_iconst (v := (nI 3)) C dX5_write_29 rfl ?_
        refine j_icmpn_ge_f (tgt := 98) C dX5_write_30 (by decide) (by omega) (by omega) (by omega) ?_
        refine j_iload C dX5_write_33 rfl ?_
        refine j_aload C dX5_write_35 rfl ?_
        refine j_iload C dX5_write_37 rfl ?_
        refine j_ialoadP (z := w) C 2 pool_newm pool_new rfl (by omega) (by omega) rfl dX5_write_39 ?_
        refine j_iconst (v := (-1)) C dX5_write_40 rfl ?_
        refine j_icmp_eq (tgt := 59) C dX5_write_41 (by decide) (fun hew => ?_) (fun hew => ?_)
        · skip
          refine j_iconst (v := (nI 0)) C dX5_write_59 rfl ?_
          refine j_ior (z := (nI 0)) C dX5_write_60 (by decide) ?_
          refine j_istore (lv' := [(6, .int (nI 0)), (8, .int (nI 2)), (7, .int (nI 1)), (5, .ref q1), (0, .ref mo), (1, .int x), (2, .int a), (3, .int v), (4, .int w)]) C dX5_write_61 (by decide) rfl ?_
          refine j_iload C dX5_write_63 rfl ?_
          refine j_iload C dX5_write_65 rfl ?_
          refine j_iload C dX5_write_67 rfl ?_
          refine j_icmpn_ne_t (tgt := 85) C dX5_write_69 (by decide) (by omega) (by omega) (by omega) ?_
          refine j_iconst (v := (nI 0)) C dX5_write_85 rfl ?_
          refine j_callSr C (v := .int (nI 0)) (w := (mW E x0 x1 x2 x3 x4 x5 mo ou th re ak gv kn ro (LL ++ [q1]) (va_up ff q1 (.inl (E.2.1, 3, .inl (upd (upd (upd (fun _ => 0) 0 a) 1 v) 2 w)))))) (m_one_0 l E A) ok_X5_one w_956 (by omega) rfl rfl (Nat.le_of_ble_eq_true rfl) ⟨by omega, by omega⟩ dX5_write_86 ?_
          refine j_iadd (z := (nI 1)) C dX5_write_89 (nI_add _ _) ?_
          refine j_istore (lv' := [(7, .int (nI 1)), (6, .int (nI 0)), (8, .int (nI 2)), (5, .ref q1), (0, .ref mo), (1, .int x), (2, .int a), (3, .int v), (4, .int w)]) C dX5_write_90 (by decide) rfl ?_
          refine j_iinc (lv' := [(8, .int (nI 3)), (7, .int (nI 1)), (6, .int (nI 0)), (5, .ref q1), (0, .ref mo), (1, .int x), (2, .int a), (3, .int v), (4, .int w)]) C dX5_write_92 rfl (nI_1 _) (by decide) rfl ?_
          refine j_goto (tgt := 27) C dX5_write_95 (by decide) ?_
          refine j_iload C dX5_write_27 rfl ?_
          refine j_iconst (v := (nI 3)) C dX5_write_29 rfl ?_
          refine j_icmpn_ge_t (tgt := 98) C dX5_write_30 (by decide) (by omega) (by omega) (by omega) ?_
          obtain rfl : W = 0 := hW.elim (fun q => q.1) (fun q => absurd ⟨Or.inr hsa, Or.inl hev, Or.inl hew⟩ q.2)
          obtain rfl : M = 1 := by
            rcases hM with ⟨q1, q⟩ | ⟨q1, q2, q⟩ | ⟨q1, q2, q3, q⟩ | ⟨q1, q2, q3, q⟩ <;> first | contradiction | exact q
          refine j_lv (lv' := [(7, .int (nI 1)), (6, .int (nI 0)), (5, .ref q1), (0, .ref mo), (1, .int x), (2, .int a), (3, .int v), (4, .int w)]) (by simp only [List.mem_cons, List.not_mem_nil, or_false, forall_eq_or_imp, forall_eq, true_or, or_true, and_self, Nat.add_zero]) ?_
          exact kk
        · skip
          refine j_aload C dX5_write_44 rfl ?_
          refine j_iload C dX5_write_46 rfl ?_
          refine j_ialoadP (z := w) C 2 pool_newm pool_new rfl (by omega) (by omega) rfl dX5_write_48 ?_
          rcases sg_cases w with hsw | hsw
          · skip
            refine j_callSr C (v := .int (nI 1)) (w := (mW E x0 x1 x2 x3 x4 x5 mo ou th re ak gv kn ro (LL ++ [q1]) (va_up ff q1 (.inl (E.2.1, 3, .inl (upd (upd (upd (fun _ => 0) 0 a) 1 v) 2 w)))))) (m_isSign_1 l E A hsw) ok_X5_isSign w_948 (by omega) rfl rfl (Nat.le_of_ble_eq_true rfl) ⟨by omega, by omega⟩ dX5_write_49 ?_
            refine j_ifn_ne_t (tgt := 59) C dX5_write_52 (by decide) (by omega) (by omega) ?_
            refine j_iconst (v := (nI 0)) C dX5_write_59 rfl ?_
            refine j_ior (z := (nI 0)) C dX5_write_60 (by decide) ?_
            refine j_istore (lv' := [(6, .int (nI 0)), (8, .int (nI 2)), (7, .int (nI 1)), (5, .ref q1), (0, .ref mo), (1, .int x), (2, .int a), (3, .int v), (4, .int w)]) C dX5_write_61 (by decide) rfl ?_
            refine j_iload C dX5_write_63 rfl ?_
            refine j_iload C dX5_write_65 rfl ?_
            refine j_iload C dX5_write_67 rfl ?_
            refine j_icmpn_ne_t (tgt := 85) C dX5_write_69 (by decide) (by omega) (by omega) (by omega) ?_
            refine j_iconst (v := (nI 0)) C dX5_write_85 rfl ?_
            refine j_callSr C (v := .int (nI 0)) (w := (mW E x0 x1 x2 x3 x4 x5 mo ou th re ak gv kn ro (LL ++ [q1]) (va_up ff q1 (.inl (E.2.1, 3, .inl (upd (upd (upd (fun _ => 0) 0 a) 1 v) 2 w)))))) (m_one_0 l E A) ok_X5_one w_956 (by omega) rfl rfl (Nat.le_of_ble_eq_true rfl) ⟨by omega, by omega⟩ dX5_write_86 ?_
            refine j_iadd (z := (nI 1)) C dX5_write_89 (nI_add _ _) ?_
            refine j_istore (lv' := [(7, .int (nI 1)), (6, .int (nI 0)), (8, .int (nI 2)), (5, .ref q1), (0, .ref mo), (1, .int x), (2, .int a), (3, .int v), (4, .int w)]) C dX5_write_90 (by decide) rfl ?_
            refine j_iinc (lv' := [(8, .int (nI 3)), (7, .int (nI 1)), (6, .int (nI 0)), (5, .ref q1), (0, .ref mo), (1, .int x), (2, .int a), (3, .int v), (4, .int w)]) C dX5_write_92 rfl (nI_1 _) (by decide) rfl ?_
            refine j_goto (tgt := 27) C dX5_write_95 (by decide) ?_
            refine j_iload C dX5_write_27 rfl ?_
            refine j_iconst (v := (nI 3)) C dX5_write_29 rfl ?_
            refine j_icmpn_ge_t (tgt := 98) C dX5_write_30 (by decide) (by omega) (by omega) (by omega) ?_
            obtain rfl : W = 0 := hW.elim (fun q => q.1) (fun q => absurd ⟨Or.inr hsa, Or.inl hev, Or.inr hsw⟩ q.2)
            obtain rfl : M = 1 := by
              rcases hM with ⟨q1, q⟩ | ⟨q1, q2, q⟩ | ⟨q1, q2, q3, q⟩ | ⟨q1, q2, q3, q⟩ <;> first | contradiction | exact q
            refine j_lv (lv' := [(7, .int (nI 1)), (6, .int (nI 0)), (5, .ref q1), (0, .ref mo), (1, .int x), (2, .int a), (3, .int v), (4, .int w)]) (by simp only [List.mem_cons, List.not_mem_nil, or_false, forall_eq_or_imp, forall_eq, true_or, or_true, and_self, Nat.add_zero]) ?_
            exact kk
          · skip
            refine j_callSr C (v := .int (nI 0)) (w := (mW E x0 x1 x2 x3 x4 x5 mo ou th re ak gv kn ro (LL ++ [q1]) (va_up ff q1 (.inl (E.2.1, 3, .inl (upd (upd (upd (fun _ => 0) 0 a) 1 v) 2 w)))))) (m_isSign_0 l E A hsw) ok_X5_isSign w_948 (by omega) rfl rfl (Nat.le_of_ble_eq_true rfl) ⟨by omega, by omega⟩ dX5_write_49 ?_
            refine j_ifn_ne_f (tgt := 59) C dX5_write_52 (by decide) (by omega) (by omega) ?_
            refine j_iconst (v := (nI 1)) C dX5_write_55 rfl ?_
            refine j_goto (tgt := 60) C dX5_write_56 (by decide) ?_
            refine j_ior (z := (nI 1)) C dX5_write_60 (by decide) ?_
            refine j_istore (lv' := [(6, .int (nI 1)), (8, .int (nI 2)), (7, .int (nI 1)), (5, .ref q1), (0, .ref mo), (1, .int x), (2, .int a), (3, .int v), (4, .int w)]) C dX5_write_61 (by decide) rfl ?_
            refine j_iload C dX5_write_63 rfl ?_
            refine j_iload C dX5_write_65 rfl ?_
            refine j_iload C dX5_write_67 rfl ?_
            refine j_icmpn_ne_t (tgt := 85) C dX5_write_69 (by decide) (by omega) (by omega) (by omega) ?_
            refine j_iconst (v := (nI 0)) C dX5_write_85 rfl ?_
            refine j_callSr C (v := .int (nI 0)) (w := (mW E x0 x1 x2 x3 x4 x5 mo ou th re ak gv kn ro (LL ++ [q1]) (va_up ff q1 (.inl (E.2.1, 3, .inl (upd (upd (upd (fun _ => 0) 0 a) 1 v) 2 w)))))) (m_one_0 l E A) ok_X5_one w_956 (by omega) rfl rfl (Nat.le_of_ble_eq_true rfl) ⟨by omega, by omega⟩ dX5_write_86 ?_
            refine j_iadd (z := (nI 1)) C dX5_write_89 (nI_add _ _) ?_
            refine j_istore (lv' := [(7, .int (nI 1)), (6, .int (nI 1)), (8, .int (nI 2)), (5, .ref q1), (0, .ref mo), (1, .int x), (2, .int a), (3, .int v), (4, .int w)]) C dX5_write_90 (by decide) rfl ?_
            refine j_iinc (lv' := [(8, .int (nI 3)), (7, .int (nI 1)), (6, .int (nI 1)), (5, .ref q1), (0, .ref mo), (1, .int x), (2, .int a), (3, .int v), (4, .int w)]) C dX5_write_92 rfl (nI_1 _) (by decide) rfl ?_
            refine j_goto (tgt := 27) C dX5_write_95 (by decide) ?_
            refine j_iload C dX5_write_27 rfl ?_
            refine j_iconst (v := (nI 3)) C dX5_write_29 rfl ?_
            refine j_icmpn_ge_t (tgt := 98) C dX5_write_30 (by decide) (by omega) (by omega) (by omega) ?_
            obtain rfl : W = 1 := hW.elim (fun q => absurd (show okS w from (fun q : okS a ∧ okS v ∧ okS w => q.2.2) q.2) (not_ok hew hsw)) (fun q => q.1)
            obtain rfl : M = 1 := by
              rcases hM with ⟨q1, q⟩ | ⟨q1, q2, q⟩ | ⟨q1, q2, q3, q⟩ | ⟨q1, q2, q3, q⟩ <;> first | contradiction | exact q
            refine j_lv (lv' := [(7, .int (nI 1)), (6, .int (nI 1)), (5, .ref q1), (0, .ref mo), (1, .int x), (2, .int a), (3, .int v), (4, .int w)]) (by simp only [List.mem_cons, List.not_mem_nil, or_false, forall_eq_or_imp, forall_eq, true_or, or_true, and_self, Nat.add_zero]) ?_
            exact kk
      · skip
        refine j_aload C dX5_write_44 rfl ?_
        refine j_iload C dX5_write_46 rfl ?_
        refine j_ialoadP (z := v) C 1 pool_newm pool_new rfl (by omega) (by omega) rfl dX5_write_48 ?_
        rcases sg_cases v with hsv | hsv
        · skip
          refine j_callSr C (v := .int (nI 1)) (w := (mW E x0 x1 x2 x3 x4 x5 mo ou th re ak gv kn ro (LL ++ [q1]) (va_up ff q1 (.inl (E.2.1, 3, .inl (upd (upd (upd (fun _ => 0) 0 a) 1 v) 2 w)))))) (m_isSign_1 l E A hsv) ok_X5_isSign w_948 (by omega) rfl rfl (Nat.le_of_ble_eq_true rfl) ⟨by omega, by omega⟩ dX5_write_49 ?_
          refine j_ifn_ne_t (tgt := 59) C dX5_write_52 (by decide) (by omega) (by omega) ?_
          refine j_iconst (v := (nI 0)) C dX5_write_59 rfl ?_
          refine j_ior (z := (nI 0)) C dX5_write_60 (by decide) ?_
          refine j_istore (lv' := [(6, .int (nI 0)), (8, .int (nI 1)), (7, .int (nI 1)), (5, .ref q1), (0, .ref mo), (1, .int x), (2, .int a), (3, .int v), (4, .int w)]) C dX5_write_61 (by decide) rfl ?_
          refine j_iload C dX5_write_63 rfl ?_
          refine j_iload C dX5_write_65 rfl ?_
          refine j_iload C dX5_write_67 rfl ?_
          refine j_icmpn_ne_f (tgt := 85) C dX5_write_69 (by decide) (by omega) (by omega) (by omega) ?_
          refine j_aload C dX5_write_72 rfl ?_
          refine j_iload C dX5_write_74 rfl ?_
          refine j_ialoadP (z := v) C 1 pool_newm pool_new rfl (by omega) (by omega) rfl dX5_write_76 ?_
          refine j_iconst (v := (-1)) C dX5_write_77 rfl ?_
          refine j_icmp_eq_f (tgt := 85) C dX5_write_78 (by decide) hev ?_
          refine j_iconst (v := (nI 1)) C dX5_write_81 rfl ?_
          refine j_goto (tgt := 86) C dX5_write_82 (by decide) ?_
          refine j_callSr C (v := .int (nI 1)) (w := (mW E x0 x1 x2 x3 x4 x5 mo ou th re ak gv kn ro (LL ++ [q1]) (va_up ff q1 (.inl (E.2.1, 3, .inl (upd (upd (upd (fun _ => 0) 0 a) 1 v) 2 w)))))) (m_one_1 l E A) ok_X5_one w_956 (by omega) rfl rfl (Nat.le_of_ble_eq_true rfl) ⟨by omega, by omega⟩ dX5_write_86 ?_
          refine j_iadd (z := (nI 2)) C dX5_write_89 (nI_add _ _) ?_
          refine j_istore (lv' := [(7, .int (nI 2)), (6, .int (nI 0)), (8, .int (nI 1)), (5, .ref q1), (0, .ref mo), (1, .int x), (2, .int a), (3, .int v), (4, .int w)]) C dX5_write_90 (by decide) rfl ?_
          refine j_iinc (lv' := [(8, .int (nI 2)), (7, .int (nI 2)), (6, .int (nI 0)), (5, .ref q1), (0, .ref mo), (1, .int x), (2, .int a), (3, .int v), (4, .int w)]) C dX5_write_92 rfl (nI_1 _) (by decide) rfl ?_
          refine j_goto (tgt := 27) C dX5_write_95 (by decide) ?_
          refine j_iload C dX5_write_27 rfl ?_
          refine j_iconst (v := (nI 3)) C dX5_write_29 rfl ?_
          refine j_icmpn_ge_f (tgt := 98) C dX5_write_30 (by decide) (by omega) (by omega) (by omega) ?_
          refine j_iload C dX5_write_33 rfl ?_
          refine j_aload C dX5_write_35 rfl ?_
          refine j_iload C dX5_write_37 rfl ?_
          refine j_ialoadP (z := w) C 2 pool_newm pool_new rfl (by omega) (by omega) rfl dX5_write_39 ?_
          refine j_iconst (v := (-1)) C dX5_write_40 rfl ?_
          refine j_icmp_eq (tgt := 59) C dX5_write_41 (by decide) (fun hew => ?_) (fun hew => ?_)
          · skip
            refine j_iconst (v := (nI 0)) C dX5_write_59 rfl ?_
            refine j_ior (z := (nI 0)) C dX5_write_60 (by decide) ?_
            refine j_istore (lv' := [(6, .int (nI 0)), (8, .int (nI 2)), (7, .int (nI 2)), (5, .ref q1), (0, .ref mo), (1, .int x), (2, .int a), (3, .int v), (4, .int w)]) C dX5_write_61 (by decide) rfl ?_
            refine j_iload C dX5_write_63 rfl ?_
            refine j_iload C dX5_write_65 rfl ?_
            refine j_iload C dX5_write_67 rfl ?_
            refine j_icmpn_ne_f (tgt := 85) C dX5_write_69 (by decide) (by omega) (by omega) (by omega) ?_
            refine j_aload C dX5_write_72 rfl ?_
            refine j_iload C dX5_write_74 rfl ?_
            refine j_ialoadP (z := w) C 2 pool_newm pool_new rfl (by omega) (by omega) rfl dX5_write_76 ?_
            refine j_iconst (v := (-1)) C dX5_write_77 rfl ?_
            refine j_icmp_eq_t (tgt := 85) C dX5_write_78 (by decide) hew ?_
            refine j_iconst (v := (nI 0)) C dX5_write_85 rfl ?_
            refine j_callSr C (v := .int (nI 0)) (w := (mW E x0 x1 x2 x3 x4 x5 mo ou th re ak gv kn ro (LL ++ [q1]) (va_up ff q1 (.inl (E.2.1, 3, .inl (upd (upd (upd (fun _ => 0) 0 a) 1 v) 2 w)))))) (m_one_0 l E A) ok_X5_one w_956 (by omega) rfl rfl (Nat.le_of_ble_eq_true rfl) ⟨by omega, by omega⟩ dX5_write_86 ?_
            refine j_iadd (z := (nI 2)) C dX5_write_89 (nI_add _ _) ?_
            refine j_istore (lv' := [(7, .int (nI 2)), (6, .int (nI 0)), (8, .int (nI 2)), (5, .ref q1), (0, .ref mo), (1, .int x), (2, .int a), (3, .int v), (4, .int w)]) C dX5_write_90 (by decide) rfl ?_
            refine j_iinc (lv' := [(8, .int (nI 3)), (7, .int (nI 2)), (6, .int (nI 0)), (5, .ref q1), (0, .ref mo), (1, .int x), (2, .int a), (3, .int v), (4, .int w)]) C dX5_write_92 rfl (nI_1 _) (by decide) rfl ?_
            refine j_goto (tgt := 27) C dX5_write_95 (by decide) ?_
            refine j_iload C dX5_write_27 rfl ?_
            refine j_iconst (v := (nI 3)) C dX5_write_29 rfl ?_
            refine j_icmpn_ge_t (tgt := 98) C dX5_write_30 (by decide) (by omega) (by omega) (by omega) ?_
            obtain rfl : W = 0 := hW.elim (fun q => q.1) (fun q => absurd ⟨Or.inr hsa, Or.inr hsv, Or.inl hew⟩ q.2)
            obtain rfl : M = 2 := by
              rcases hM with ⟨q1, q⟩ | ⟨q1, q2, q⟩ | ⟨q1, q2, q3, q⟩ | ⟨q1, q2, q3, q⟩ <;> first | contradiction | exact q
            refine j_lv (lv' := [(7, .int (nI 2)), (6, .int (nI 0)), (5, .ref q1), (0, .ref mo), (1, .int x), (2, .int a), (3, .int v), (4, .int w)]) (by simp only [List.mem_cons, List.not_mem_nil, or_false, forall_eq_or_imp, forall_eq, true_or, or_true, and_self, Nat.add_zero]) ?_
            exact kk
          · skip
            refine j_aload C dX5_write_44 rfl ?_
            refine j_iload C dX5_write_46 rfl ?_
            refine j_ialoadP (z := w) C 2 pool_newm pool_new rfl (by omega) (by omega) rfl dX5_write_48 ?_
            rcases sg_cases w with hsw | hsw
            · skip
              refine j_callSr C (v := .int (nI 1)) (w := (mW E x0 x1 x2 x3 x4 x5 mo ou th re ak gv kn ro (LL ++ [q1]) (va_up ff q1 (.inl (E.2.1, 3, .inl (upd (upd (upd (fun _ => 0) 0 a) 1 v) 2 w)))))) (m_isSign_1 l E A hsw) ok_X5_isSign w_948 (by omega) rfl rfl (Nat.le_of_ble_eq_true rfl) ⟨by omega, by omega⟩ dX5_write_49 ?_
              refine j_ifn_ne_t (tgt := 59) C dX5_write_52 (by decide) (by omega) (by omega) ?_
              refine j_iconst (v := (nI 0)) C dX5_write_59 rfl ?_
              refine j_ior (z := (nI 0)) C dX5_write_60 (by decide) ?_
              refine j_istore (lv' := [(6, .int (nI 0)), (8, .int (nI 2)), (7, .int (nI 2)), (5, .ref q1), (0, .ref mo), (1, .int x), (2, .int a), (3, .int v), (4, .int w)]) C dX5_write_61 (by decide) rfl ?_
              refine j_iload C dX5_write_63 rfl ?_
              refine j_iload C dX5_write_65 rfl ?_
              refine j_iload C dX5_write_67 rfl ?_
              refine j_icmpn_ne_f (tgt := 85) C dX5_write_69 (by decide) (by omega) (by omega) (by omega) ?_
              refine j_aload C dX5_write_72 rfl ?_
              refine j_iload C dX5_write_74 rfl ?_
              refine j_ialoadP (z := w) C 2 pool_newm pool_new rfl (by omega) (by omega) rfl dX5_write_76 ?_
              refine j_iconst (v := (-1)) C dX5_write_77 rfl ?_
              refine j_icmp_eq_f (tgt := 85) C dX5_write_78 (by decide) hew ?_
              refine j_iconst (v := (nI 1)) C dX5_write_81 rfl ?_
              refine j_goto (tgt := 86) C dX5_write_82 (by decide) ?_
              refine j_callSr C (v := .int (nI 1)) (w := (mW E x0 x1 x2 x3 x4 x5 mo ou th re ak gv kn ro (LL ++ [q1]) (va_up ff q1 (.inl (E.2.1, 3, .inl (upd (upd (upd (fun _ => 0) 0 a) 1 v) 2 w)))))) (m_one_1 l E A) ok_X5_one w_956 (by omega) rfl rfl (Nat.le_of_ble_eq_true rfl) ⟨by omega, by omega⟩ dX5_write_86 ?_
              refine j_iadd (z := (nI 3)) C dX5_write_89 (nI_add _ _) ?_
              refine j_istore (lv' := [(7, .int (nI 3)), (6, .int (nI 0)), (8, .int (nI 2)), (5, .ref q1), (0, .ref mo), (1, .int x), (2, .int a), (3, .int v), (4, .int w)]) C dX5_write_90 (by decide) rfl ?_
              refine j_iinc (lv' := [(8, .int (nI 3)), (7, .int (nI 3)), (6, .int (nI 0)), (5, .ref q1), (0, .ref mo), (1, .int x), (2, .int a), (3, .int v), (4, .int w)]) C dX5_write_92 rfl (nI_1 _) (by decide) rfl ?_
              refine j_goto (tgt := 27) C dX5_write_95 (by decide) ?_
              refine j_iload C dX5_write_27 rfl ?_
              refine j_iconst (v := (nI 3)) C dX5_write_29 rfl ?_
              refine j_icmpn_ge_t (tgt := 98) C dX5_write_30 (by decide) (by omega) (by omega) (by omega) ?_
              obtain rfl : W = 0 := hW.elim (fun q => q.1) (fun q => absurd ⟨Or.inr hsa, Or.inr hsv, Or.inr hsw⟩ q.2)
              obtain rfl : M = 3 := by
                rcases hM with ⟨q1, q⟩ | ⟨q1, q2, q⟩ | ⟨q1, q2, q3, q⟩ | ⟨q1, q2, q3, q⟩ <;> first | contradiction | exact q
              refine j_lv (lv' := [(7, .int (nI 3)), (6, .int (nI 0)), (5, .ref q1), (0, .ref mo), (1, .int x), (2, .int a), (3, .int v), (4, .int w)]) (by simp only [List.mem_cons, List.not_mem_nil, or_false, forall_eq_or_imp, forall_eq, true_or, or_true, and_self, Nat.add_zero]) ?_
              exact kk
            · skip
              refine j_callSr C (v := .int (nI 0)) (w := (mW E x0 x1 x2 x3 x4 x5 mo ou th re ak gv kn ro (LL ++ [q1]) (va_up ff q1 (.inl (E.2.1, 3, .inl (upd (upd (upd (fun _ => 0) 0 a) 1 v) 2 w)))))) (m_isSign_0 l E A hsw) ok_X5_isSign w_948 (by omega) rfl rfl (Nat.le_of_ble_eq_true rfl) ⟨by omega, by omega⟩ dX5_write_49 ?_
              refine j_ifn_ne_f (tgt := 59) C dX5_write_52 (by decide) (by omega) (by omega) ?_
              refine j_iconst (v := (nI 1)) C dX5_write_55 rfl ?_
              refine j_goto (tgt := 60) C dX5_write_56 (by decide) ?_
              refine j_ior (z := (nI 1)) C dX5_write_60 (by decide) ?_
              refine j_istore (lv' := [(6, .int (nI 1)), (8, .int (nI 2)), (7, .int (nI 2)), (5, .ref q1), (0, .ref mo), (1, .int x), (2, .int a), (3, .int v), (4, .int w)]) C dX5_write_61 (by decide) rfl ?_
              refine j_iload C dX5_write_63 rfl ?_
              refine j_iload C dX5_write_65 rfl ?_
              refine j_iload C dX5_write_67 rfl ?_
              refine j_icmpn_ne_f (tgt := 85) C dX5_write_69 (by decide) (by omega) (by omega) (by omega) ?_
              refine j_aload C dX5_write_72 rfl ?_
              refine j_iload C dX5_write_74 rfl ?_
              refine j_ialoadP (z := w) C 2 pool_newm pool_new rfl (by omega) (by omega) rfl dX5_write_76 ?_
              refine j_iconst (v := (-1)) C dX5_write_77 rfl ?_
              refine j_icmp_eq_f (tgt := 85) C dX5_write_78 (by decide) hew ?_
              refine j_iconst (v := (nI 1)) C dX5_write_81 rfl ?_
              refine j_goto (tgt := 86) C dX5_write_82 (by decide) ?_
              refine j_callSr C (v := .int (nI 1)) (w := (mW E x0 x1 x2 x3 x4 x5 mo ou th re ak gv kn ro (LL ++ [q1]) (va_up ff q1 (.inl (E.2.1, 3, .inl (upd (upd (upd (fun _ => 0) 0 a) 1 v) 2 w)))))) (m_one_1 l E A) ok_X5_one w_956 (by omega) rfl rfl (Nat.le_of_ble_eq_true rfl) ⟨by omega, by omega⟩ dX5_write_86 ?_
              refine j_iadd (z := (nI 3)) C dX5_write_89 (nI_add _ _) ?_
              refine j_istore (lv' := [(7, .int (nI 3)), (6, .int (nI 1)), (8, .int (nI 2)), (5, .ref q1), (0, .ref mo), (1, .int x), (2, .int a), (3, .int v), (4, .int w)]) C dX5_write_90 (by decide) rfl ?_
              refine j_iinc (lv' := [(8, .int (nI 3)), (7, .int (nI 3)), (6, .int (nI 1)), (5, .ref q1), (0, .ref mo), (1, .int x), (2, .int a), (3, .int v), (4, .int w)]) C dX5_write_92 rfl (nI_1 _) (by decide) rfl ?_
              refine j_goto (tgt := 27) C dX5_write_95 (by decide) ?_
              refine j_iload C dX5_write_27 rfl ?_
              refine j_iconst (v := (nI 3)) C dX5_write_29 rfl ?_
              refine j_icmpn_ge_t (tgt := 98) C dX5_write_30 (by decide) (by omega) (by omega) (by omega) ?_
              obtain rfl : W = 1 := hW.elim (fun q => absurd (show okS w from (fun q : okS a ∧ okS v ∧ okS w => q.2.2) q.2) (not_ok hew hsw)) (fun q => q.1)
              obtain rfl : M = 3 := by
                rcases hM with ⟨q1, q⟩ | ⟨q1, q2, q⟩ | ⟨q1, q2, q3, q⟩ | ⟨q1, q2, q3, q⟩ <;> first | contradiction | exact q
              refine j_lv (lv' := [(7, .int (nI 3)), (6, .int (nI 1)), (5, .ref q1), (0, .ref mo), (1, .int x), (2, .int a), (3, .int v), (4, .int w)]) (by simp only [List.mem_cons, List.not_mem_nil, or_false, forall_eq_or_imp, forall_eq, true_or, or_true, and_self, Nat.add_zero]) ?_
              exact kk
        · skip
          refine j_callSr C (v := .int (nI 0)) (w := (mW E x0 x1 x2 x3 x4 x5 mo ou th re ak gv kn ro (LL ++ [q1]) (va_up ff q1 (.inl (E.2.1, 3, .inl (upd (upd (upd (fun _ => 0) 0 a) 1 v) 2 w)))))) (m_isSign_0 l E A hsv) ok_X5_isSign w_948 (by omega) rfl rfl (Nat.le_of_ble_eq_true rfl) ⟨by omega, by omega⟩ dX5_write_49 ?_
          refine j_ifn_ne_f (tgt := 59) C dX5_write_52 (by decide) (by omega) (by omega) ?_
          refine j_iconst (v := (nI 1)) C dX5_write_55 rfl ?_
          refine j_goto (tgt := 60) C dX5_write_56 (by decide) ?_
          refine j_ior (z := (nI 1)) C dX5_write_60 (by decide) ?_
          refine j_istore (lv' := [(6, .int (nI 1)), (8, .int (nI 1)), (7, .int (nI 1)), (5, .ref q1), (0, .ref mo), (1, .int x), (2, .int a), (3, .int v), (4, .int w)]) C dX5_write_61 (by decide) rfl ?_
          refine j_iload C dX5_write_63 rfl ?_
          refine j_iload C dX5_write_65 rfl ?_
          refine j_iload C dX5_write_67 rfl ?_
          refine j_icmpn_ne_f (tgt := 85) C dX5_write_69 (by decide) (by omega) (by omega) (by omega) ?_
          refine j_aload C dX5_write_72 rfl ?_
          refine j_iload C dX5_write_74 rfl ?_
          refine j_ialoadP (z := v) C 1 pool_newm pool_new rfl (by omega) (by omega) rfl dX5_write_76 ?_
          refine j_iconst (v := (-1)) C dX5_write_77 rfl ?_
          refine j_icmp_eq_f (tgt := 85) C dX5_write_78 (by decide) hev ?_
          refine j_iconst (v := (nI 1)) C dX5_write_81 rfl ?_
          refine j_goto (tgt := 86) C dX5_write_82 (by decide) ?_
          refine j_callSr C (v := .int (nI 1)) (w := (mW E x0 x1 x2 x3 x4 x5 mo ou th re ak gv kn ro (LL ++ [q1]) (va_up ff q1 (.inl (E.2.1, 3, .inl (upd (upd (upd (fun _ => 0) 0 a) 1 v) 2 w)))))) (m_one_1 l E A) ok_X5_one w_956 (by omega) rfl rfl (Nat.le_of_ble_eq_true rfl) ⟨by omega, by omega⟩ dX5_write_86 ?_
          refine j_iadd (z := (nI 2)) C dX5_write_89 (nI_add _ _) ?_
          refine j_istore (lv' := [(7, .int (nI 2)), (6, .int (nI 1)), (8, .int (nI 1)), (5, .ref q1), (0, .ref mo), (1, .int x), (2, .int a), (3, .int v), (4, .int w)]) C dX5_write_90 (by decide) rfl ?_
          refine j_iinc (lv' := [(8, .int (nI 2)), (7, .int (nI 2)), (6, .int (nI 1)), (5, .ref q1), (0, .ref mo), (1, .int x), (2, .int a), (3, .int v), (4, .int w)]) C dX5_write_92 rfl (nI_1 _) (by decide) rfl ?_
          refine j_goto (tgt := 27) C dX5_write_95 (by decide) ?_
          refine j_iload C dX5_write_27 rfl ?_
          refine j_iconst (v := (nI 3)) C dX5_write_29 rfl ?_
          refine j_icmpn_ge_f (tgt := 98) C dX5_write_30 (by decide) (by omega) (by omega) (by omega) ?_
          refine j_iload C dX5_write_33 rfl ?_
          refine j_aload C dX5_write_35 rfl ?_
          refine j_iload C dX5_write_37 rfl ?_
          refine j_ialoadP (z := w) C 2 pool_newm pool_new rfl (by omega) (by omega) rfl dX5_write_39 ?_
          refine j_iconst (v := (-1)) C dX5_write_40 rfl ?_
          refine j_icmp_eq (tgt := 59) C dX5_write_41 (by decide) (fun hew => ?_) (fun hew => ?_)
          · skip
            refine j_iconst (v := (nI 0)) C dX5_write_59 rfl ?_
            refine j_ior (z := (nI 1)) C dX5_write_60 (by decide) ?_
            refine j_istore (lv' := [(6, .int (nI 1)), (8, .int (nI 2)), (7, .int (nI 2)), (5, .ref q1), (0, .ref mo), (1, .int x), (2, .int a), (3, .int v), (4, .int w)]) C dX5_write_61 (by decide) rfl ?_
            refine j_iload C dX5_write_63 rfl ?_
            refine j_iload C dX5_write_65 rfl ?_
            refine j_iload C dX5_write_67 rfl ?_
            refine j_icmpn_ne_f (tgt := 85) C dX5_write_69 (by decide) (by omega) (by omega) (by omega) ?_
            refine j_aload C dX5_write_72 rfl ?_
            refine j_iload C dX5_write_74 rfl ?_
            refine j_ialoadP (z := w) C 2 pool_newm pool_new rfl (by omega) (by omega) rfl dX5_write_76 ?_
            refine j_iconst (v := (-1)) C dX5_write_77 rfl ?_
            refine j_icmp_eq_t (tgt := 85) C dX5_write_78 (by decide) hew ?_
            refine j_iconst (v := (nI 0)) C dX5_write_85 rfl ?_
            refine j_callSr C (v := .int (nI 0)) (w := (mW E x0 x1 x2 x3 x4 x5 mo ou th re ak gv kn ro (LL ++ [q1]) (va_up ff q1 (.inl (E.2.1, 3, .inl (upd (upd (upd (fun _ => 0) 0 a) 1 v) 2 w)))))) (m_one_0 l E A) ok_X5_one w_956 (by omega) rfl rfl (Nat.le_of_ble_eq_true rfl) ⟨by omega, by omega⟩ dX5_write_86 ?_
            refine j_iadd (z := (nI 2)) C dX5_write_89 (nI_add _ _) ?_
            refine j_istore (lv' := [(7, .int (nI 2)), (6, .int (nI 1)), (8, .int (nI 2)), (5, .ref q1), (0, .ref mo), (1, .int x), (2, .int a), (3, .int v), (4, .int w)]) C dX5_write_90 (by decide) rfl ?_
            refine j_iinc (lv' := [(8, .int (nI 3)), (7, .int (nI 2)), (6, .int (nI 1)), (5, .ref q1), (0, .ref mo), (1, .int x), (2, .int a), (3, .int v), (4, .int w)]) C dX5_write_92 rfl (nI_1 _) (by decide) rfl ?_
            refine j_goto (tgt := 27) C dX5_write_95 (by decide) ?_
            refine j_iload C dX5_write_27 rfl ?_
            refine j_iconst (v := (nI 3)) C dX5_write_29 rfl ?_
            refine j_icmpn_ge_t (tgt := 98) C dX5_write_30 (by decide) (by omega) (by omega) (by omega) ?_
            obtain rfl : W = 1 := hW.elim (fun q => absurd (show okS v from (fun q : okS a ∧ okS v ∧ okS w => q.2.1) q.2) (not_ok hev hsv)) (fun q => q.1)
            obtain rfl : M = 2 := by
              rcases hM with ⟨q1, q⟩ | ⟨q1, q2, q⟩ | ⟨q1, q2, q3, q⟩ | ⟨q1, q2, q3, q⟩ <;> first | contradiction | exact q
            refine j_lv (lv' := [(7, .int (nI 2)), (6, .int (nI 1)), (5, .ref q1), (0, .ref mo), (1, .int x), (2, .int a), (3, .int v), (4, .int w)]) (by simp only [List.mem_cons, List.not_mem_nil, or_false, forall_eq_or_imp, forall_eq, true_or, or_true, and_self, Nat.add_zero]) ?_
            exact kk
          · skip
            refine j_aload C dX5_write_44 rfl ?_
            refine j_iload C dX5_write_46 rfl ?_
            refine j_ialoadP (z := w) C 2 pool_newm pool_new rfl (by omega) (by omega) rfl dX5_write_48 ?_
            rcases sg_cases w with hsw | hsw
            · skip
              refine j_callSr C (v := .int (nI 1)) (w := (mW E x0 x1 x2 x3 x4 x5 mo ou th re ak gv kn ro (LL ++ [q1]) (va_up ff q1 (.inl (E.2.1, 3, .inl (upd (upd (upd (fun _ => 0) 0 a) 1 v) 2 w)))))) (m_isSign_1 l E A hsw) ok_X5_isSign w_948 (by omega) rfl rfl (Nat.le_of_ble_eq_true rfl) ⟨by omega, by omega⟩ dX5_write_49 ?_
              refine j_ifn_ne_t (tgt := 59) C dX5_write_52 (by decide) (by omega) (by omega) ?_
              refine j_iconst (v := (nI 0)) C dX5_write_59 rfl ?_
              refine j_ior (z := (nI 1)) C dX5_write_60 (by decide) ?_
              refine j_istore (lv' := [(6, .int (nI 1)), (8, .int (nI 2)), (7, .int (nI 2)), (5, .ref q1), (0, .ref mo), (1, .int x), (2, .int a), (3, .int v), (4, .int w)]) C dX5_write_61 (by decide) rfl ?_
              refine j_iload C dX5_write_63 rfl ?_
              refine j_iload C dX5_write_65 rfl ?_
              refine j_iload C dX5_write_67 rfl ?_
              refine j_icmpn_ne_f (tgt := 85) C dX5_write_69 (by decide) (by omega) (by omega) (by omega) ?_
              refine j_aload C dX5_write_72 rfl ?_
              refine j_iload C dX5_write_74 rfl ?_
              refine j_ialoadP (z := w) C 2 pool_newm pool_new rfl (by omega) (by omega) rfl dX5_write_76 ?_
              refine j_iconst (v := (-1)) C dX5_write_77 rfl ?_
              refine j_icmp_eq_f (tgt := 85) C dX5_write_78 (by decide) hew ?_
              refine j_iconst (v := (nI 1)) C dX5_write_81 rfl ?_
              refine j_goto (tgt := 86) C dX5_write_82 (by decide) ?_
              refine j_callSr C (v := .int (nI 1)) (w := (mW E x0 x1 x2 x3 x4 x5 mo ou th re ak gv kn ro (LL ++ [q1]) (va_up ff q1 (.inl (E.2.1, 3, .inl (upd (upd (upd (fun _ => 0) 0 a) 1 v) 2 w)))))) (m_one_1 l E A) ok_X5_one w_956 (by omega) rfl rfl (Nat.le_of_ble_eq_true rfl) ⟨by omega, by omega⟩ dX5_write_86 ?_
              refine j_iadd (z := (nI 3)) C dX5_write_89 (nI_add _ _) ?_
              refine j_istore (lv' := [(7, .int (nI 3)), (6, .int (nI 1)), (8, .int (nI 2)), (5, .ref q1), (0, .ref mo), (1, .int x), (2, .int a), (3, .int v), (4, .int w)]) C dX5_write_90 (by decide) rfl ?_
              refine j_iinc (lv' := [(8, .int (nI 3)), (7, .int (nI 3)), (6, .int (nI 1)), (5, .ref q1), (0, .ref mo), (1, .int x), (2, .int a), (3, .int v), (4, .int w)]) C dX5_write_92 rfl (nI_1 _) (by decide) rfl ?_
              refine j_goto (tgt := 27) C dX5_write_95 (by decide) ?_
              refine j_iload C dX5_write_27 rfl ?_
              refine j_iconst (v := (nI 3)) C dX5_write_29 rfl ?_
              refine j_icmpn_ge_t (tgt := 98) C dX5_write_30 (by decide) (by omega) (by omega) (by omega) ?_
              obtain rfl : W = 1 := hW.elim (fun q => absurd (show okS v from (fun q : okS a ∧ okS v ∧ okS w => q.2.1) q.2) (not_ok hev hsv)) (fun q => q.1)
              obtain rfl : M = 3 := by
                rcases hM with ⟨q1, q⟩ | ⟨q1, q2, q⟩ | ⟨q1, q2, q3, q⟩ | ⟨q1, q2, q3, q⟩ <;> first | contradiction | exact q
              refine j_lv (lv' := [(7, .int (nI 3)), (6, .int (nI 1)), (5, .ref q1), (0, .ref mo), (1, .int x), (2, .int a), (3, .int v), (4, .int w)]) (by simp only [List.mem_cons, List.not_mem_nil, or_false, forall_eq_or_imp, forall_eq, true_or, or_true, and_self, Nat.add_zero]) ?_
              exact kk
            · skip
              refine j_callSr C (v := .int (nI 0)) (w := (mW E x0 x1 x2 x3 x4 x5 mo ou th re ak gv kn ro (LL ++ [q1]) (va_up ff q1 (.inl (E.2.1, 3, .inl (upd (upd (upd (fun _ => 0) 0 a) 1 v) 2 w)))))) (m_isSign_0 l E A hsw) ok_X5_isSign w_948 (by omega) rfl rfl (Nat.le_of_ble_eq_true rfl) ⟨by omega, by omega⟩ dX5_write_49 ?_
              refine j_ifn_ne_f (tgt := 59) C dX5_write_52 (by decide) (by omega) (by omega) ?_
              refine j_iconst (v := (nI 1)) C dX5_write_55 rfl ?_
              refine j_goto (tgt := 60) C dX5_write_56 (by decide) ?_
              refine j_ior (z := (nI 1)) C dX5_write_60 (by decide) ?_
              refine j_istore (lv' := [(6, .int (nI 1)), (8, .int (nI 2)), (7, .int (nI 2)), (5, .ref q1), (0, .ref mo), (1, .int x), (2, .int a), (3, .int v), (4, .int w)]) C dX5_write_61 (by decide) rfl ?_
              refine j_iload C dX5_write_63 rfl ?_
              refine j_iload C dX5_write_65 rfl ?_
              refine j_iload C dX5_write_67 rfl ?_
              refine j_icmpn_ne_f (tgt := 85) C dX5_write_69 (by decide) (by omega) (by omega) (by omega) ?_
              refine j_aload C dX5_write_72 rfl ?_
              refine j_iload C dX5_write_74 rfl ?_
              refine j_ialoadP (z := w) C 2 pool_newm pool_new rfl (by omega) (by omega) rfl dX5_write_76 ?_
              refine j_iconst (v := (-1)) C dX5_write_77 rfl ?_
              refine j_icmp_eq_f (tgt := 85) C dX5_write_78 (by decide) hew ?_
              refine j_iconst (v := (nI 1)) C dX5_write_81 rfl ?_
              refine j_goto (tgt := 86) C dX5_write_82 (by decide) ?_
              refine j_callSr C (v := .int (nI 1)) (w := (mW E x0 x1 x2 x3 x4 x5 mo ou th re ak gv kn ro (LL ++ [q1]) (va_up ff q1 (.inl (E.2.1, 3, .inl (upd (upd (upd (fun _ => 0) 0 a) 1 v) 2 w)))))) (m_one_1 l E A) ok_X5_one w_956 (by omega) rfl rfl (Nat.le_of_ble_eq_true rfl) ⟨by omega, by omega⟩ dX5_write_86 ?_
              refine j_iadd (z := (nI 3)) C dX5_write_89 (nI_add _ _) ?_
              refine j_istore (lv' := [(7, .int (nI 3)), (6, .int (nI 1)), (8, .int (nI 2)), (5, .ref q1), (0, .ref mo), (1, .int x), (2, .int a), (3, .int v), (4, .int w)]) C dX5_write_90 (by decide) rfl ?_
              refine j_iinc (lv' := [(8, .int (nI 3)), (7, .int (nI 3)), (6, .int (nI 1)), (5, .ref q1), (0, .ref mo), (1, .int x), (2, .int a), (3, .int v), (4, .int w)]) C dX5_write_92 rfl (nI_1 _) (by decide) rfl ?_
              refine j_goto (tgt := 27) C dX5_write_95 (by decide) ?_
              refine j_iload C dX5_write_27 rfl ?_
              refine j_iconst (v := (nI 3)) C dX5_write_29 rfl ?_
              refine j_icmpn_ge_t (tgt := 98) C dX5_write_30 (by decide) (by omega) (by omega) (by omega) ?_
              obtain rfl : W = 1 := hW.elim (fun q => absurd (show okS v from (fun q : okS a ∧ okS v ∧ okS w => q.2.1) q.2) (not_ok hev hsv)) (fun q => q.1)
              obtain rfl : M = 3 := by
                rcases hM with ⟨q1, q⟩ | ⟨q1, q2, q⟩ | ⟨q1, q2, q3, q⟩ | ⟨q1, q2, q3, q⟩ <;> first | contradiction | exact q
              refine j_lv (lv' := [(7, .int (nI 3)), (6, .int (nI 1)), (5, .ref q1), (0, .ref mo), (1, .int x), (2, .int a), (3, .int v), (4, .int w)]) (by simp only [List.mem_cons, List.not_mem_nil, or_false, forall_eq_or_imp, forall_eq, true_or, or_true, and_self, Nat.add_zero]) ?_
              exact kk
    · skip
      refine j_callSr C (v := .int (nI 0)) (w := (mW E x0 x1 x2 x3 x4 x5 mo ou th re ak gv kn ro (LL ++ [q1]) (va_up ff q1 (.inl (E.2.1, 3, .inl (upd (upd (upd (fun _ => 0) 0 a) 1 v) 2 w)))))) (m_isSign_0 l E A hsa) ok_X5_isSign w_948 (by omega) rfl rfl (Nat.le_of_ble_eq_true rfl) ⟨by omega, by omega⟩ dX5_write_49 ?_
      refine j_ifn_ne_f (tgt := 59) C dX5_write_52 (by decide) (by omega) (by omega) ?_
      refine j_iconst (v := (nI 1)) C dX5_write_55 rfl ?_
      refine j_goto (tgt := 60) C dX5_write_56 (by decide) ?_
      refine j_ior (z := (nI 1)) C dX5_write_60 (by decide) ?_
      refine j_istore (lv' := [(6, .int (nI 1)), (8, .int (nI 0)), (7, .int (nI 0)), (5, .ref q1), (0, .ref mo), (1, .int x), (2, .int a), (3, .int v), (4, .int w)]) C dX5_write_61 (by decide) rfl ?_
      refine j_iload C dX5_write_63 rfl ?_
      refine j_iload C dX5_write_65 rfl ?_
      refine j_iload C dX5_write_67 rfl ?_
      refine j_icmpn_ne_f (tgt := 85) C dX5_write_69 (by decide) (by omega) (by omega) (by omega) ?_
      refine j_aload C dX5_write_72 rfl ?_
      refine j_iload C dX5_write_74 rfl ?_
      refine j_ialoadP (z := a) C 0 pool_newm pool_new rfl (by omega) (by omega) rfl dX5_write_76 ?_
      refine j_iconst (v := (-1)) C dX5_write_77 rfl ?_
      refine j_icmp_eq_f (tgt := 85) C dX5_write_78 (by decide) hea ?_
      refine j_iconst (v := (nI 1)) C dX5_write_81 rfl ?_
      refine j_goto (tgt := 86) C dX5_write_82 (by decide) ?_
      refine j_callSr C (v := .int (nI 1)) (w := (mW E x0 x1 x2 x3 x4 x5 mo ou th re ak gv kn ro (LL ++ [q1]) (va_up ff q1 (.inl (E.2.1, 3, .inl (upd (upd (upd (fun _ => 0) 0 a) 1 v) 2 w)))))) (m_one_1 l E A) ok_X5_one w_956 (by omega) rfl rfl (Nat.le_of_ble_eq_true rfl) ⟨by omega, by omega⟩ dX5_write_86 ?_
      refine j_iadd (z := (nI 1)) C dX5_write_89 (nI_add _ _) ?_
      refine j_istore (lv' := [(7, .int (nI 1)), (6, .int (nI 1)), (8, .int (nI 0)), (5, .ref q1), (0, .ref mo), (1, .int x), (2, .int a), (3, .int v), (4, .int w)]) C dX5_write_90 (by decide) rfl ?_
      refine j_iinc (lv' := [(8, .int (nI 1)), (7, .int (nI 1)), (6, .int (nI 1)), (5, .ref q1), (0, .ref mo), (1, .int x), (2, .int a), (3, .int v), (4, .int w)]) C dX5_write_92 rfl (nI_1 _) (by decide) rfl ?_
      refine j_goto (tgt := 27) C dX5_write_95 (by decide) ?_
      refine j_iload C dX5_write_27 rfl ?_
      refine j_iconst (v := (nI 3)) C dX5_write_29 rfl ?_
      refine j_icmpn_ge_f (tgt := 98) C dX5_write_30 (by decide) (by omega) (by omega) (by omega) ?_
      refine j_iload C dX5_write_33 rfl ?_
      refine j_aload C dX5_write_35 rfl ?_
      refine j_iload C dX5_write_37 rfl ?_
      refine j_ialoadP (z := v) C 1 pool_newm pool_new rfl (by omega) (by omega) rfl dX5_write_39 ?_
      refine j_iconst (v := (-1)) C dX5_write_40 rfl ?_
      refine j_icmp_eq (tgt := 59) C dX5_write_41 (by decide) (fun hev => ?_) (fun hev => ?_)
      · skip
        refine j_iconst (v := (nI 0)) C dX5_write_59 rfl ?_
        refine j_ior (z := (nI 1)) C dX5_write_60 (by decide) ?_
        refine j_istore (lv' := [(6, .int (nI 1)), (8, .int (nI 1)), (7, .int (nI 1)), (5, .ref q1), (0, .ref mo), (1, .int x), (2, .int a), (3, .int v), (4, .int w)]) C dX5_write_61 (by decide) rfl ?_
        refine j_iload C dX5_write_63 rfl ?_
        refine j_iload C dX5_write_65 rfl ?_
        refine j_iload C dX5_write_67 rfl ?_
        refine j_icmpn_ne_f (tgt := 85) C dX5_write_69 (by decide) (by omega) (by omega) (by omega) ?_
        refine j_aload C dX5_write_72 rfl ?_
        refine j_iload C dX5_write_74 rfl ?_
        refine j_ialoadP (z := v) C 1 pool_newm pool_new rfl (by omega) (by omega) rfl dX5_write_76 ?_
        refine j_iconst (v := (-1)) C dX5_write_77 rfl ?_
        refine j_icmp_eq_t (tgt := 85) C dX5_write_78 (by decide) hev ?_
        refine j_iconst (v := (nI 0)) C dX5_write_85 rfl ?_
        refine j_callSr C (v := .int (nI 0)) (w := (mW E x0 x1 x2 x3 x4 x5 mo ou th re ak gv kn ro (LL ++ [q1]) (va_up ff q1 (.inl (E.2.1, 3, .inl (upd (upd (upd (fun _ => 0) 0 a) 1 v) 2 w)))))) (m_one_0 l E A) ok_X5_one w_956 (by omega) rfl rfl (Nat.le_of_ble_eq_true rfl) ⟨by omega, by omega⟩ dX5_write_86 ?_
        refine j_iadd (z := (nI 1)) C dX5_write_89 (nI_add _ _) ?_
        refine j_istore (lv' := [(7, .int (nI 1)), (6, .int (nI 1)), (8, .int (nI 1)), (5, .ref q1), (0, .ref mo), (1, .int x), (2, .int a), (3, .int v), (4, .int w)]) C dX5_write_90 (by decide) rfl ?_
        refine j_iinc (lv' := [(8, .int (nI 2)), (7, .int (nI 1)), (6, .int (nI 1)), (5, .ref q1), (0, .ref mo), (1, .int x), (2, .int a), (3, .int v), (4, .int w)]) C dX5_write_92 rfl (nI_1 _) (by decide) rfl ?_
        refine j_goto (tgt := 27) C dX5_write_95 (by decide) ?_
        refine j_iload C dX5_write_27 rfl ?_
        refine j_iconst (v := (nI 3)) C dX5_write_29 rfl ?_
        refine j_icmpn_ge_f (tgt := 98) C dX5_write_30 (by decide) (by omega) (by omega) (by omega) ?_
        refine j_iload C dX5_write_33 rfl ?_
        refine j_aload C dX5_write_35 rfl ?_
        refine j_iload C dX5_write_37 rfl ?_
        refine j_ialoadP (z := w) C 2 pool_newm pool_new rfl (by omega) (by omega) rfl dX5_write_39 ?_
        refine j_iconst (v := (-1)) C dX5_write_40 rfl ?_
        refine j_icmp_eq (tgt := 59) C dX5_write_41 (by decide) (fun hew => ?_) (fun hew => ?_)
        · skip
          refine j_iconst (v := (nI 0)) C dX5_write_59 rfl ?_
          refine j_ior (z := (nI 1)) C dX5_write_60 (by decide) ?_
          refine j_istore (lv' := [(6, .int (nI 1)), (8, .int (nI 2)), (7, .int (nI 1)), (5, .ref q1), (0, .ref mo), (1, .int x), (2, .int a), (3, .int v), (4, .int w)]) C dX5_write_61 (by decide) rfl ?_
          refine j_iload C dX5_write_63 rfl ?_
          refine j_iload C dX5_write_65 rfl ?_
          refine j_iload C dX5_write_67 rfl ?_
          refine j_icmpn_ne_t (tgt := 85) C dX5_write_69 (by decide) (by omega) (by omega) (by omega) ?_
          refine j_iconst (v := (nI 0)) C dX5_write_85 rfl ?_
          refine j_callSr C (v := .int (nI 0)) (w := (mW E x0 x1 x2 x3 x4 x5 mo ou th re ak gv kn ro (LL ++ [q1]) (va_up ff q1 (.inl (E.2.1, 3, .inl (upd (upd (upd (fun _ => 0) 0 a) 1 v) 2 w)))))) (m_one_0 l E A) ok_X5_one w_956 (by omega) rfl rfl (Nat.le_of_ble_eq_true rfl) ⟨by omega, by omega⟩ dX5_write_86 ?_
          refine j_iadd (z := (nI 1)) C dX5_write_89 (nI_add _ _) ?_
          refine j_istore (lv' := [(7, .int (nI 1)), (6, .int (nI 1)), (8, .int (nI 2)), (5, .ref q1), (0, .ref mo), (1, .int x), (2, .int a), (3, .int v), (4, .int w)]) C dX5_write_90 (by decide) rfl ?_
          refine j_iinc (lv' := [(8, .int (nI 3)), (7, .int (nI 1)), (6, .int (nI 1)), (5, .ref q1), (0, .ref mo), (1, .int x), (2, .int a), (3, .int v), (4, .int w)]) C dX5_write_92 rfl (nI_1 _) (by decide) rfl ?_
          refine j_goto (tgt := 27) C dX5_write_95 (by decide) ?_
          refine j_iload C dX5_write_27 rfl ?_
          refine j_iconst (v := (nI 3)) C dX5_write_29 rfl ?_
          refine j_icmpn_ge_t (tgt := 98) C dX5_write_30 (by decide) (by omega) (by omega) (by omega) ?_
          obtain rfl : W = 1 := hW.elim (fun q => absurd (show okS a from (fun q : okS a ∧ okS v ∧ okS w => q.1) q.2) (not_ok hea hsa)) (fun q => q.1)
          obtain rfl : M = 1 := by
            rcases hM with ⟨q1, q⟩ | ⟨q1, q2, q⟩ | ⟨q1, q2, q3, q⟩ | ⟨q1, q2, q3, q⟩ <;> first | contradiction | exact q
          refine j_lv (lv' := [(7, .int (nI 1)), (6, .int (nI 1)), (5, .ref q1), (0, .ref mo), (1, .int x), (2, .int a), (3, .int v), (4, .int w)]) (by simp only [List.mem_cons, List.not_mem_nil, or_false, forall_eq_or_imp, forall_eq, true_or, or_true, and_self, Nat.add_zero]) ?_
          exact kk
        · skip
          refine j_aload C dX5_write_44 rfl ?_
          refine j_iload C dX5_write_46 rfl ?_
          refine j_ialoadP (z := w) C 2 pool_newm pool_new rfl (by omega) (by omega) rfl dX5_write_48 ?_
          rcases sg_cases w with hsw | hsw
          · skip
            refine j_callSr C (v := .int (nI 1)) (w := (mW E x0 x1 x2 x3 x4 x5 mo ou th re ak gv kn ro (LL ++ [q1]) (va_up ff q1 (.inl (E.2.1, 3, .inl (upd (upd (upd (fun _ => 0) 0 a) 1 v) 2 w)))))) (m_isSign_1 l E A hsw) ok_X5_isSign w_948 (by omega) rfl rfl (Nat.le_of_ble_eq_true rfl) ⟨by omega, by omega⟩ dX5_write_49 ?_
            refine j_ifn_ne_t (tgt := 59) C dX5_write_52 (by decide) (by omega) (by omega) ?_
            refine j_iconst (v := (nI 0)) C dX5_write_59 rfl ?_
            refine j_ior (z := (nI 1)) C dX5_write_60 (by decide) ?_
            refine j_istore (lv' := [(6, .int (nI 1)), (8, .int (nI 2)), (7, .int (nI 1)), (5, .ref q1), (0, .ref mo), (1, .int x), (2, .int a), (3, .int v), (4, .int w)]) C dX5_write_61 (by decide) rfl ?_
            refine j_iload C dX5_write_63 rfl ?_
            refine j_iload C dX5_write_65 rfl ?_
            refine j_iload C dX5_write_67 rfl ?_
            refine j_icmpn_ne_t (tgt := 85) C dX5_write_69 (by decide) (by omega) (by omega) (by omega) ?_
            refine j_iconst (v := (nI 0)) C dX5_write_85 rfl ?_
            refine j_callSr C (v := .int (nI 0)) (w := (mW E x0 x1 x2 x3 x4 x5 mo ou th re ak gv kn ro (LL ++ [q1]) (va_up ff q1 (.inl (E.2.1, 3, .inl (upd (upd (upd (fun _ => 0) 0 a) 1 v) 2 w)))))) (m_one_0 l E A) ok_X5_one w_956 (by omega) rfl rfl (Nat.le_of_ble_eq_true rfl) ⟨by omega, by omega⟩ dX5_write_86 ?_
            refine j_iadd (z := (nI 1)) C dX5_write_89 (nI_add _ _) ?_
            refine j_istore (lv' := [(7, .int (nI 1)), (6, .int (nI 1)), (8, .int (nI 2)), (5, .ref q1), (0, .ref mo), (1, .int x), (2, .int a), (3, .int v), (4, .int w)]) C dX5_write_90 (by decide) rfl ?_
            refine j_iinc (lv' := [(8, .int (nI 3)), (7, .int (nI 1)), (6, .int (nI 1)), (5, .ref q1), (0, .ref mo), (1, .int x), (2, .int a), (3, .int v), (4, .int w)]) C dX5_write_92 rfl (nI_1 _) (by decide) rfl ?_
            refine j_goto (tgt := 27) C dX5_write_95 (by decide) ?_
            refine j_iload C dX5_write_27 rfl ?_
            refine j_iconst (v := (nI 3)) C dX5_write_29 rfl ?_
            refine j_icmpn_ge_t (tgt := 98) C dX5_write_30 (by decide) (by omega) (by omega) (by omega) ?_
            obtain rfl : W = 1 := hW.elim (fun q => absurd (show okS a from (fun q : okS a ∧ okS v ∧ okS w => q.1) q.2) (not_ok hea hsa)) (fun q => q.1)
            obtain rfl : M = 1 := by
              rcases hM with ⟨q1, q⟩ | ⟨q1, q2, q⟩ | ⟨q1, q2, q3, q⟩ | ⟨q1, q2, q3, q⟩ <;> first | contradiction | exact q
            refine j_lv (lv' := [(7, .int (nI 1)), (6, .int (nI 1)), (5, .ref q1), (0, .ref mo), (1, .int x), (2, .int a), (3, .int v), (4, .int w)]) (by simp only [List.mem_cons, List.not_mem_nil, or_false, forall_eq_or_imp, forall_eq, true_or, or_true, and_self, Nat.add_zero]) ?_
            exact kk
          · skip
            refine j_callSr C (v := .int (nI 0)) (w := (mW E x0 x1 x2 x3 x4 x5 mo ou th re ak gv kn ro (LL ++ [q1]) (va_up ff q1 (.inl (E.2.1, 3, .inl (upd (upd (upd (fun _ => 0) 0 a) 1 v) 2 w)))))) (m_isSign_0 l E A hsw) ok_X5_isSign w_948 (by omega) rfl rfl (Nat.le_of_ble_eq_true rfl) ⟨by omega, by omega⟩ dX5_write_49 ?_
            refine j_ifn_ne_f (tgt := 59) C dX5_write_52 (by decide) (by omega) (by omega) ?_
            refine j_iconst (v := (nI 1)) C dX5_write_55 rfl ?_
            refine j_goto (tgt := 60) C dX5_write_56 (by decide) ?_
            refine j_ior (z := (nI 1)) C dX5_write_60 (by decide) ?_
            refine j_istore (lv' := [(6, .int (nI 1)), (8, .int (nI 2)), (7, .int (nI 1)), (5, .ref q1), (0, .ref mo), (1, .int x), (2, .int a), (3, .int v), (4, .int w)]) C dX5_write_61 (by decide) rfl ?_
            refine j_iload C dX5_write_63 rfl ?_
            refine j_iload C dX5_write_65 rfl ?_
            refine j_iload C dX5_write_67 rfl ?_
            refine j_icmpn_ne_t (tgt := 85) C dX5_write_69 (by decide) (by omega) (by omega) (by omega) ?_
            refine j_iconst (v := (nI 0)) C dX5_write_85 rfl ?_
            refine j_callSr C (v := .int (nI 0)) (w := (mW E x0 x1 x2 x3 x4 x5 mo ou th re ak gv kn ro (LL ++ [q1]) (va_up ff q1 (.inl (E.2.1, 3, .inl (upd (upd (upd (fun _ => 0) 0 a) 1 v) 2 w)))))) (m_one_0 l E A) ok_X5_one w_956 (by omega) rfl rfl (Nat.le_of_ble_eq_true rfl) ⟨by omega, by omega⟩ dX5_write_86 ?_
            refine j_iadd (z := (nI 1)) C dX5_write_89 (nI_add _ _) ?_
            refine j_istore (lv' := [(7, .int (nI 1)), (6, .int (nI 1)), (8, .int (nI 2)), (5, .ref q1), (0, .ref mo), (1, .int x), (2, .int a), (3, .int v), (4, .int w)]) C dX5_write_90 (by decide) rfl ?_
            refine j_iinc (lv' := [(8, .int (nI 3)), (7, .int (nI 1)), (6, .int (nI 1)), (5, .ref q1), (0, .ref mo), (1, .int x), (2, .int a), (3, .int v), (4, .int w)]) C dX5_write_92 rfl (nI_1 _) (by decide) rfl ?_
            refine j_goto (tgt := 27) C dX5_write_95 (by decide) ?_
            refine j_iload C dX5_write_27 rfl ?_
            refine j_iconst (v := (nI 3)) C dX5_write_29 rfl ?_
            refine j_icmpn_ge_t (tgt := 98) C dX5_write_30 (by decide) (by omega) (by omega) (by omega) ?_
            obtain rfl : W = 1 := hW.elim (fun q => absurd (show okS a from (fun q : okS a ∧ okS v ∧ okS w => q.1) q.2) (not_ok hea hsa)) (fun q => q.1)
            obtain rfl : M = 1 := by
              rcases hM with ⟨q1, q⟩ | ⟨q1, q2, q⟩ | ⟨q1, q2, q3, q⟩ | ⟨q1, q2, q3, q⟩ <;> first | contradiction | exact q
            refine j_lv (lv' := [(7, .int (nI 1)), (6, .int (nI 1)), (5, .ref q1), (0, .ref mo), (1, .int x), (2, .int a), (3, .int v), (4, .int w)]) (by simp only [List.mem_cons, List.not_mem_nil, or_false, forall_eq_or_imp, forall_eq, true_or, or_true, and_self, Nat.add_zero]) ?_
            exact kk
      · skip
        refine j_aload C dX5_write_44 rfl ?_
        refine j_iload C dX5_write_46 rfl ?_
        refine j_ialoadP (z := v) C 1 pool_newm pool_new rfl (by omega) (by omega) rfl dX5_write_48 ?_
        rcases sg_cases v with hsv | hsv
        · skip
          refine j_callSr C (v := .int (nI 1)) (w := (mW E x0 x1 x2 x3 x4 x5 mo ou th re ak gv kn ro (LL ++ [q1]) (va_up ff q1 (.inl (E.2.1, 3, .inl (upd (upd (upd (fun _ => 0) 0 a) 1 v) 2 w)))))) (m_isSign_1 l E A hsv) ok_X5_isSign w_948 (by omega) rfl rfl (Nat.le_of_ble_eq_true rfl) ⟨by omega, by omega⟩ dX5_write_49 ?_
          refine j_ifn_ne_t (tgt := 59) C dX5_write_52 (by decide) (by omega) (by omega) ?_
          refine j_iconst (v := (nI 0)) C dX5_write_59 rfl ?_
          refine j_ior (z := (nI 1)) C dX5_write_60 (by decide) ?_
          refine j_istore (lv' := [(6, .int (nI 1)), (8, .int (nI 1)), (7, .int (nI 1)), (5, .ref q1), (0, .ref mo), (1, .int x), (2, .int a), (3, .int v), (4, .int w)]) C dX5_write_61 (by decide) rfl ?_
          refine j_iload C dX5_write_63 rfl ?_
          refine j_iload C dX5_write_65 rfl ?_
          refine j_iload C dX5_write_67 rfl ?_
          refine j_icmpn_ne_f (tgt := 85) C dX5_write_69 (by decide) (by omega) (by omega) (by omega) ?_
          refine j_aload C dX5_write_72 rfl ?_
          refine j_iload C dX5_write_74 rfl ?_
          refine j_ialoadP (z := v) C 1 pool_newm pool_new rfl (by omega) (by omega) rfl dX5_write_76 ?_
          refine j_iconst (v := (-1)) C dX5_write_77 rfl ?_
          refine j_icmp_eq_f (tgt := 85) C dX5_write_78 (by decide) hev ?_
          refine j_iconst (v := (nI 1)) C dX5_write_81 rfl ?_
          refine j_goto (tgt := 86) C dX5_write_82 (by decide) ?_
          refine j_callSr C (v := .int (nI 1)) (w := (mW E x0 x1 x2 x3 x4 x5 mo ou th re ak gv kn ro (LL ++ [q1]) (va_up ff q1 (.inl (E.2.1, 3, .inl (upd (upd (upd (fun _ => 0) 0 a) 1 v) 2 w)))))) (m_one_1 l E A) ok_X5_one w_956 (by omega) rfl rfl (Nat.le_of_ble_eq_true rfl) ⟨by omega, by omega⟩ dX5_write_86 ?_
          refine j_iadd (z := (nI 2)) C dX5_write_89 (nI_add _ _) ?_
          refine j_istore (lv' := [(7, .int (nI 2)), (6, .int (nI 1)), (8, .int (nI 1)), (5, .ref q1), (0, .ref mo), (1, .int x), (2, .int a), (3, .int v), (4, .int w)]) C dX5_write_90 (by decide) rfl ?_
          refine j_iinc (lv' := [(8, .int (nI 2)), (7, .int (nI 2)), (6, .int (nI 1)), (5, .ref q1), (0, .ref mo), (1, .int x), (2, .int a), (3, .int v), (4, .int w)]) C dX5_write_92 rfl (nI_1 _) (by decide) rfl ?_
          refine j_goto (tgt := 27) C dX5_write_95 (by decide) ?_
          refine j_iload C dX5_write_27 rfl ?_
          refine j_iconst (v := (nI 3)) C dX5_write_29 rfl ?_
          refine j_icmpn_ge_f (tgt := 98) C dX5_write_30 (by decide) (by omega) (by omega) (by omega) ?_
          refine j_iload C dX5_write_33 rfl ?_
          refine j_aload C dX5_write_35 rfl ?_
          refine j_iload C dX5_write_37 rfl ?_
          refine j_ialoadP (z := w) C 2 pool_newm pool_new rfl (by omega) (by omega) rfl dX5_write_39 ?_
          refine j_iconst (v := (-1)) C dX5_write_40 rfl ?_
          refine j_icmp_eq (tgt := 59) C dX5_write_41 (by decide) (fun hew => ?_) (fun hew => ?_)
          · skip
            refine j_iconst (v := (nI 0)) C dX5_write_59 rfl ?_
            refine j_ior (z := (nI 1)) C dX5_write_60 (by decide) ?_
            refine j_istore (lv' := [(6, .int (nI 1)), (8, .int (nI 2)), (7, .int (nI 2)), (5, .ref q1), (0, .ref mo), (1, .int x), (2, .int a), (3, .int v), (4, .int w)]) C dX5_write_61 (by decide) rfl ?_
            refine j_iload C dX5_write_63 rfl ?_
            refine j_iload C dX5_write_65 rfl ?_
            refine j_iload C dX5_write_67 rfl ?_
            refine j_icmpn_ne_f (tgt := 85) C dX5_write_69 (by decide) (by omega) (by omega) (by omega) ?_
            refine j_aload C dX5_write_72 rfl ?_
            refine j_iload C dX5_write_74 rfl ?_
            refine j_ialoadP (z := w) C 2 pool_newm pool_new rfl (by omega) (by omega) rfl dX5_write_76 ?_
            refine j_iconst (v := (-1)) C dX5_write_77 rfl ?_
            refine j_icmp_eq_t (tgt := 85) C dX5_write_78 (by decide) hew ?_
            refine j_iconst (v := (nI 0)) C dX5_write_85 rfl ?_
            refine j_callSr C (v := .int (nI 0)) (w := (mW E x0 x1 x2 x3 x4 x5 mo ou th re ak gv kn ro (LL ++ [q1]) (va_up ff q1 (.inl (E.2.1, 3, .inl (upd (upd (upd (fun _ => 0) 0 a) 1 v) 2 w)))))) (m_one_0 l E A) ok_X5_one w_956 (by omega) rfl rfl (Nat.le_of_ble_eq_true rfl) ⟨by omega, by omega⟩ dX5_write_86 ?_
            refine j_iadd (z := (nI 2)) C dX5_write_89 (nI_add _ _) ?_
            refine j_istore (lv' := [(7, .int (nI 2)), (6, .int (nI 1)), (8, .int (nI 2)), (5, .ref q1), (0, .ref mo), (1, .int x), (2, .int a), (3, .int v), (4, .int w)]) C dX5_write_90 (by decide) rfl ?_
            refine j_iinc (lv' := [(8, .int (nI 3)), (7, .int (nI 2)), (6, .int (nI 1)), (5, .ref q1), (0, .ref mo), (1, .int x), (2, .int a), (3, .int v), (4, .int w)]) C dX5_write_92 rfl (nI_1 _) (by decide) rfl ?_
            refine j_goto (tgt := 27) C dX5_write_95 (by decide) ?_
            refine j_iload C dX5_write_27 rfl ?_
            refine j_iconst (v := (nI 3)) C dX5_write_29 rfl ?_
            refine j_icmpn_ge_t (tgt := 98) C dX5_write_30 (by decide) (by omega) (by omega) (by omega) ?_
            obtain rfl : W = 1 := hW.elim (fun q => absurd (show okS a from (fun q : okS a ∧ okS v ∧ okS w => q.1) q.2) (not_ok hea hsa)) (fun q => q.1)
            obtain rfl : M = 2 := by
              rcases hM with ⟨q1, q⟩ | ⟨q1, q2, q⟩ | ⟨q1, q2, q3, q⟩ | ⟨q1, q2, q3, q⟩ <;> first | contradiction | exact q
            refine j_lv (lv' := [(7, .int (nI 2)), (6, .int (nI 1)), (5, .ref q1), (0, .ref mo), (1, .int x), (2, .int a), (3, .int v), (4, .int w)]) (by simp only [List.mem_cons, List.not_mem_nil, or_false, forall_eq_or_imp, forall_eq, true_or, or_true, and_self, Nat.add_zero]) ?_
            exact kk
          · skip
            refine j_aload C dX5_write_44 rfl ?_
            refine j_iload C dX5_write_46 rfl ?_
            refine j_ialoadP (z := w) C 2 pool_newm pool_new rfl (by omega) (by omega) rfl dX5_write_48 ?_
            rcases sg_cases w with hsw | hsw
            · skip
              refine j_callSr C (v := .int (nI 1)) (w := (mW E x0 x1 x2 x3 x4 x5 mo ou th re ak gv kn ro (LL ++ [q1]) (va_up ff q1 (.inl (E.2.1, 3, .inl (upd (upd (upd (fun _ => 0) 0 a) 1 v) 2 w)))))) (m_isSign_1 l E A hsw) ok_X5_isSign w_948 (by omega) rfl rfl (Nat.le_of_ble_eq_true rfl) ⟨by omega, by omega⟩ dX5_write_49 ?_
              refine j_ifn_ne_t (tgt := 59) C dX5_write_52 (by decide) (by omega) (by omega) ?_
              refine j_iconst (v := (nI 0)) C dX5_write_59 rfl ?_
              refine j_ior (z := (nI 1)) C dX5_write_60 (by decide) ?_
              refine j_istore (lv' := [(6, .int (nI 1)), (8, .int (nI 2)), (7, .int (nI 2)), (5, .ref q1), (0, .ref mo), (1, .int x), (2, .int a), (3, .int v), (4, .int w)]) C dX5_write_61 (by decide) rfl ?_
              refine j_iload C dX5_write_63 rfl ?_
              refine j_iload C dX5_write_65 rfl ?_
              refine j_iload C dX5_write_67 rfl ?_
              refine j_icmpn_ne_f (tgt := 85) C dX5_write_69 (by decide) (by omega) (by omega) (by omega) ?_
              refine j_aload C dX5_write_72 rfl ?_
              refine j_iload C dX5_write_74 rfl ?_
              refine j_ialoadP (z := w) C 2 pool_newm pool_new rfl (by omega) (by omega) rfl dX5_write_76 ?_
              refine j_iconst (v := (-1)) C dX5_write_77 rfl ?_
              refine j_icmp_eq_f (tgt := 85) C dX5_write_78 (by decide) hew ?_
              refine j_iconst (v := (nI 1)) C dX5_write_81 rfl ?_
              refine j_goto (tgt := 86) C dX5_write_82 (by decide) ?_
              refine j_callSr C (v := .int (nI 1)) (w := (mW E x0 x1 x2 x3 x4 x5 mo ou th re ak gv kn ro (LL ++ [q1]) (va_up ff q1 (.inl (E.2.1, 3, .inl (upd (upd (upd (fun _ => 0) 0 a) 1 v) 2 w)))))) (m_one_1 l E A) ok_X5_one w_956 (by omega) rfl rfl (Nat.le_of_ble_eq_true rfl) ⟨by omega, by omega⟩ dX5_write_86 ?_
              refine j_iadd (z := (nI 3)) C dX5_write_89 (nI_add _ _) ?_
              refine j_istore (lv' := [(7, .int (nI 3)), (6, .int (nI 1)), (8, .int (nI 2)), (5, .ref q1), (0, .ref mo), (1, .int x), (2, .int a), (3, .int v), (4, .int w)]) C dX5_write_90 (by decide) rfl ?_
              refine j_iinc (lv' := [(8, .int (nI 3)), (7, .int (nI 3)), (6, .int (nI 1)), (5, .ref q1), (0, .ref mo), (1, .int x), (2, .int a), (3, .int v), (4, .int w)]) C dX5_write_92 rfl (nI_1 _) (by decide) rfl ?_
              refine j_goto (tgt := 27) C dX5_write_95 (by decide) ?_
              refine j_iload C dX5_write_27 rfl ?_
              refine j_iconst (v := (nI 3)) C dX5_write_29 rfl ?_
              refine j_icmpn_ge_t (tgt := 98) C dX5_write_30 (by decide) (by omega) (by omega) (by omega) ?_
              obtain rfl : W = 1 := hW.elim (fun q => absurd (show okS a from (fun q : okS a ∧ okS v ∧ okS w => q.1) q.2) (not_ok hea hsa)) (fun q => q.1)
              obtain rfl : M = 3 := by
                rcases hM with ⟨q1, q⟩ | ⟨q1, q2, q⟩ | ⟨q1, q2, q3, q⟩ | ⟨q1, q2, q3, q⟩ <;> first | contradiction | exact q
              refine j_lv (lv' := [(7, .int (nI 3)), (6, .int (nI 1)), (5, .ref q1), (0, .ref mo), (1, .int x), (2, .int a), (3, .int v), (4, .int w)]) (by simp only [List.mem_cons, List.not_mem_nil, or_false, forall_eq_or_imp, forall_eq, true_or, or_true, and_self, Nat.add_zero]) ?_
              exact kk
            · skip
              refine j_callSr C (v := .int (nI 0)) (w := (mW E x0 x1 x2 x3 x4 x5 mo ou th re ak gv kn ro (LL ++ [q1]) (va_up ff q1 (.inl (E.2.1, 3, .inl (upd (upd (upd (fun _ => 0) 0 a) 1 v) 2 w)))))) (m_isSign_0 l E A hsw) ok_X5_isSign w_948 (by omega) rfl rfl (Nat.le_of_ble_eq_true rfl) ⟨by omega, by omega⟩ dX5_write_49 ?_
              refine j_ifn_ne_f (tgt := 59) C dX5_write_52 (by decide) (by omega) (by omega) ?_
              refine j_iconst (v := (nI 1)) C dX5_write_55 rfl ?_
              refine j_goto (tgt := 60) C dX5_write_56 (by decide) ?_
              refine j_ior (z := (nI 1)) C dX5_write_60 (by decide) ?_
              refine j_istore (lv' := [(6, .int (nI 1)), (8, .int (nI 2)), (7, .int (nI 2)), (5, .ref q1), (0, .ref mo), (1, .int x), (2, .int a), (3, .int v), (4, .int w)]) C dX5_write_61 (by decide) rfl ?_
              refine j_iload C dX5_write_63 rfl ?_
              refine j_iload C dX5_write_65 rfl ?_
              refine j_iload C dX5_write_67 rfl ?_
              refine j_icmpn_ne_f (tgt := 85) C dX5_write_69 (by decide) (by omega) (by omega) (by omega) ?_
              refine j_aload C dX5_write_72 rfl ?_
              refine j_iload C dX5_write_74 rfl ?_
              refine j_ialoadP (z := w) C 2 pool_newm pool_new rfl (by omega) (by omega) rfl dX5_write_76 ?_
              refine j_iconst (v := (-1)) C dX5_write_77 rfl ?_
              refine j_icmp_eq_f (tgt := 85) C dX5_write_78 (by decide) hew ?_
              refine j_iconst (v := (nI 1)) C dX5_write_81 rfl ?_
              refine j_goto (tgt := 86) C dX5_write_82 (by decide) ?_
              refine j_callSr C (v := .int (nI 1)) (w := (mW E x0 x1 x2 x3 x4 x5 mo ou th re ak gv kn ro (LL ++ [q1]) (va_up ff q1 (.inl (E.2.1, 3, .inl (upd (upd (upd (fun _ => 0) 0 a) 1 v) 2 w)))))) (m_one_1 l E A) ok_X5_one w_956 (by omega) rfl rfl (Nat.le_of_ble_eq_true rfl) ⟨by omega, by omega⟩ dX5_write_86 ?_
              refine j_iadd (z := (nI 3)) C dX5_write_89 (nI_add _ _) ?_
              refine j_istore (lv' := [(7, .int (nI 3)), (6, .int (nI 1)), (8, .int (nI 2)), (5, .ref q1), (0, .ref mo), (1, .int x), (2, .int a), (3, .int v), (4, .int w)]) C dX5_write_90 (by decide) rfl ?_
              refine j_iinc (lv' := [(8, .int (nI 3)), (7, .int (nI 3)), (6, .int (nI 1)), (5, .ref q1), (0, .ref mo), (1, .int x), (2, .int a), (3, .int v), (4, .int w)]) C dX5_write_92 rfl (nI_1 _) (by decide) rfl ?_
              refine j_goto (tgt := 27) C dX5_write_95 (by decide) ?_
              refine j_iload C dX5_write_27 rfl ?_
              refine j_iconst (v := (nI 3)) C dX5_write_29 rfl ?_
              refine j_icmpn_ge_t (tgt := 98) C dX5_write_30 (by decide) (by omega) (by omega) (by omega) ?_
              obtain rfl : W = 1 := hW.elim (fun q => absurd (show okS a from (fun q : okS a ∧ okS v ∧ okS w => q.1) q.2) (not_ok hea hsa)) (fun q => q.1)
              obtain rfl : M = 3 := by
                rcases hM with ⟨q1, q⟩ | ⟨q1, q2, q⟩ | ⟨q1, q2, q3, q⟩ | ⟨q1, q2, q3, q⟩ <;> first | contradiction | exact q
              refine j_lv (lv' := [(7, .int (nI 3)), (6, .int (nI 1)), (5, .ref q1), (0, .ref mo), (1, .int x), (2, .int a), (3, .int v), (4, .int w)]) (by simp only [List.mem_cons, List.not_mem_nil, or_false, forall_eq_or_imp, forall_eq, true_or, or_true, and_self, Nat.add_zero]) ?_
              exact kk
        · skip
          refine j_callSr C (v := .int (nI 0)) (w := (mW E x0 x1 x2 x3 x4 x5 mo ou th re ak gv kn ro (LL ++ [q1]) (va_up ff q1 (.inl (E.2.1, 3, .inl (upd (upd (upd (fun _ => 0) 0 a) 1 v) 2 w)))))) (m_isSign_0 l E A hsv) ok_X5_isSign w_948 (by omega) rfl rfl (Nat.le_of_ble_eq_true rfl) ⟨by omega, by omega⟩ dX5_write_49 ?_
          refine j_ifn_ne_f (tgt := 59) C dX5_write_52 (by decide) (by omega) (by omega) ?_
          refine j_iconst (v := (nI 1)) C dX5_write_55 rfl ?_
          refine j_goto (tgt := 60) C dX5_write_56 (by decide) ?_
          refine j_ior (z := (nI 1)) C dX5_write_60 (by decide) ?_
          refine j_istore (lv' := [(6, .int (nI 1)), (8, .int (nI 1)), (7, .int (nI 1)), (5, .ref q1), (0, .ref mo), (1, .int x), (2, .int a), (3, .int v), (4, .int w)]) C dX5_write_61 (by decide) rfl ?_
          refine j_iload C dX5_write_63 rfl ?_
          refine j_iload C dX5_write_65 rfl ?_
          refine j_iload C dX5_write_67 rfl ?_
          refine j_icmpn_ne_f (tgt := 85) C dX5_write_69 (by decide) (by omega) (by omega) (by omega) ?_
          refine j_aload C dX5_write_72 rfl ?_
          refine j_iload C dX5_write_74 rfl ?_
          refine j_ialoadP (z := v) C 1 pool_newm pool_new rfl (by omega) (by omega) rfl dX5_write_76 ?_
          refine j_iconst (v := (-1)) C dX5_write_77 rfl ?_
          refine j_icmp_eq_f (tgt := 85) C dX5_write_78 (by decide) hev ?_
          refine j_iconst (v := (nI 1)) C dX5_write_81 rfl ?_
          refine j_goto (tgt := 86) C dX5_write_82 (by decide) ?_
          refine j_callSr C (v := .int (nI 1)) (w := (mW E x0 x1 x2 x3 x4 x5 mo ou th re ak gv kn ro (LL ++ [q1]) (va_up ff q1 (.inl (E.2.1, 3, .inl (upd (upd (upd (fun _ => 0) 0 a) 1 v) 2 w)))))) (m_one_1 l E A) ok_X5_one w_956 (by omega) rfl rfl (Nat.le_of_ble_eq_true rfl) ⟨by omega, by omega⟩ dX5_write_86 ?_
          refine j_iadd (z := (nI 2)) C dX5_write_89 (nI_add _ _) ?_
          refine j_istore (lv' := [(7, .int (nI 2)), (6, .int (nI 1)), (8, .int (nI 1)), (5, .ref q1), (0, .ref mo), (1, .int x), (2, .int a), (3, .int v), (4, .int w)]) C dX5_write_90 (by decide) rfl ?_
          refine j_iinc (lv' := [(8, .int (nI 2)), (7, .int (nI 2)), (6, .int (nI 1)), (5, .ref q1), (0, .ref mo), (1, .int x), (2, .int a), (3, .int v), (4, .int w)]) C dX5_write_92 rfl (nI_1 _) (by decide) rfl ?_
          refine j_goto (tgt := 27) C dX5_write_95 (by decide) ?_
          refine j_iload C dX5_write_27 rfl ?_
          refine j_iconst (v := (nI 3)) C dX5_write_29 rfl ?_
          refine j_icmpn_ge_f (tgt := 98) C dX5_write_30 (by decide) (by omega) (by omega) (by omega) ?_
          refine j_iload C dX5_write_33 rfl ?_
          refine j_aload C dX5_write_35 rfl ?_
          refine j_iload C dX5_write_37 rfl ?_
          refine j_ialoadP (z := w) C 2 pool_newm pool_new rfl (by omega) (by omega) rfl dX5_write_39 ?_
          refine j_iconst (v := (-1)) C dX5_write_40 rfl ?_
          refine j_icmp_eq (tgt := 59) C dX5_write_41 (by decide) (fun hew => ?_) (fun hew => ?_)
          · skip
            refine j_iconst (v := (nI 0)) C dX5_write_59 rfl ?_
            refine j_ior (z := (nI 1)) C dX5_write_60 (by decide) ?_
            refine j_istore (lv' := [(6, .int (nI 1)), (8, .int (nI 2)), (7, .int (nI 2)), (5, .ref q1), (0, .ref mo), (1, .int x), (2, .int a), (3, .int v), (4, .int w)]) C dX5_write_61 (by decide) rfl ?_
            refine j_iload C dX5_write_63 rfl ?_
            refine j_iload C dX5_write_65 rfl ?_
            refine j_iload C dX5_write_67 rfl ?_
            refine j_icmpn_ne_f (tgt := 85) C dX5_write_69 (by decide) (by omega) (by omega) (by omega) ?_
            refine j_aload C dX5_write_72 rfl ?_
            refine j_iload C dX5_write_74 rfl ?_
            refine j_ialoadP (z := w) C 2 pool_newm pool_new rfl (by omega) (by omega) rfl dX5_write_76 ?_
            refine j_iconst (v := (-1)) C dX5_write_77 rfl ?_
            refine j_icmp_eq_t (tgt := 85) C dX5_write_78 (by decide) hew ?_
            refine j_iconst (v := (nI 0)) C dX5_write_85 rfl ?_
            refine j_callSr C (v := .int (nI 0)) (w := (mW E x0 x1 x2 x3 x4 x5 mo ou th re ak gv kn ro (LL ++ [q1]) (va_up ff q1 (.inl (E.2.1, 3, .inl (upd (upd (upd (fun _ => 0) 0 a) 1 v) 2 w)))))) (m_one_0 l E A) ok_X5_one w_956 (by omega) rfl rfl (Nat.le_of_ble_eq_true rfl) ⟨by omega, by omega⟩ dX5_write_86 ?_
            refine j_iadd (z := (nI 2)) C dX5_write_89 (nI_add _ _) ?_
            refine j_istore (lv' := [(7, .int (nI 2)), (6, .int (nI 1)), (8, .int (nI 2)), (5, .ref q1), (0, .ref mo), (1, .int x), (2, .int a), (3, .int v), (4, .int w)]) C dX5_write_90 (by decide) rfl ?_
            refine j_iinc (lv' := [(8, .int (nI 3)), (7, .int (nI 2)), (6, .int (nI 1)), (5, .ref q1), (0, .ref mo), (1, .int x), (2, .int a), (3, .int v), (4, .int w)]) C dX5_write_92 rfl (nI_1 _) (by decide) rfl ?_
            refine j_goto (tgt := 27) C dX5_write_95 (by decide) ?_
            refine j_iload C dX5_write_27 rfl ?_
            refine j_iconst (v := (nI 3)) C dX5_write_29 rfl ?_
            refine j_icmpn_ge_t (tgt := 98) C dX5_write_30 (by decide) (by omega) (by omega) (by omega) ?_
            obtain rfl : W = 1 := hW.elim (fun q => absurd (show okS a from (fun q : okS a ∧ okS v ∧ okS w => q.1) q.2) (not_ok hea hsa)) (fun q => q.1)
            obtain rfl : M = 2 := by
              rcases hM with ⟨q1, q⟩ | ⟨q1, q2, q⟩ | ⟨q1, q2, q3, q⟩ | ⟨q1, q2, q3, q⟩ <;> first | contradiction | exact q
            refine j_lv (lv' := [(7, .int (nI 2)), (6, .int (nI 1)), (5, .ref q1), (0, .ref mo), (1, .int x), (2, .int a), (3, .int v), (4, .int w)]) (by simp only [List.mem_cons, List.not_mem_nil, or_false, forall_eq_or_imp, forall_eq, true_or, or_true, and_self, Nat.add_zero]) ?_
            exact kk
          · skip
            refine j_aload C dX5_write_44 rfl ?_
            refine j_iload C dX5_write_46 rfl ?_
            refine j_ialoadP (z := w) C 2 pool_newm pool_new rfl (by omega) (by omega) rfl dX5_write_48 ?_
            rcases sg_cases w with hsw | hsw
            · skip
              refine j_callSr C (v := .int (nI 1)) (w := (mW E x0 x1 x2 x3 x4 x5 mo ou th re ak gv kn ro (LL ++ [q1]) (va_up ff q1 (.inl (E.2.1, 3, .inl (upd (upd (upd (fun _ => 0) 0 a) 1 v) 2 w)))))) (m_isSign_1 l E A hsw) ok_X5_isSign w_948 (by omega) rfl rfl (Nat.le_of_ble_eq_true rfl) ⟨by omega, by omega⟩ dX5_write_49 ?_
              refine j_ifn_ne_t (tgt := 59) C dX5_write_52 (by decide) (by omega) (by omega) ?_
              refine j_iconst (v := (nI 0)) C dX5_write_59 rfl ?_
              refine j_ior (z := (nI 1)) C dX5_write_60 (by decide) ?_
              refine j_istore (lv' := [(6, .int (nI 1)), (8, .int (nI 2)), (7, .int (nI 2)), (5, .ref q1), (0, .ref mo), (1, .int x), (2, .int a), (3, .int v), (4, .int w)]) C dX5_write_61 (by decide) rfl ?_
              refine j_iload C dX5_write_63 rfl ?_
              refine j_iload C dX5_write_65 rfl ?_
              refine j_iload C dX5_write_67 rfl ?_
              refine j_icmpn_ne_f (tgt := 85) C dX5_write_69 (by decide) (by omega) (by omega) (by omega) ?_
              refine j_aload C dX5_write_72 rfl ?_
              refine j_iload C dX5_write_74 rfl ?_
              refine j_ialoadP (z := w) C 2 pool_newm pool_new rfl (by omega) (by omega) rfl dX5_write_76 ?_
              refine j_iconst (v := (-1)) C dX5_write_77 rfl ?_
              refine j_icmp_eq_f (tgt := 85) C dX5_write_78 (by decide) hew ?_
              refine j_iconst (v := (nI 1)) C dX5_write_81 rfl ?_
              refine j_goto (tgt := 86) C dX5_write_82 (by decide) ?_
              refine j_callSr C (v := .int (nI 1)) (w := (mW E x0 x1 x2 x3 x4 x5 mo ou th re ak gv kn ro (LL ++ [q1]) (va_up ff q1 (.inl (E.2.1, 3, .inl (upd (upd (upd (fun _ => 0) 0 a) 1 v) 2 w)))))) (m_one_1 l E A) ok_X5_one w_956 (by omega) rfl rfl (Nat.le_of_ble_eq_true rfl) ⟨by omega, by omega⟩ dX5_write_86 ?_
              refine j_iadd (z := (nI 3)) C dX5_write_89 (nI_add _ _) ?_
              refine j_istore (lv' := [(7, .int (nI 3)), (6, .int (nI 1)), (8, .int (nI 2)), (5, .ref q1), (0, .ref mo), (1, .int x), (2, .int a), (3, .int v), (4, .int w)]) C dX5_write_90 (by decide) rfl ?_
              refine j_iinc (lv' := [(8, .int (nI 3)), (7, .int (nI 3)), (6, .int (nI 1)), (5, .ref q1), (0, .ref mo), (1, .int x), (2, .int a), (3, .int v), (4, .int w)]) C dX5_write_92 rfl (nI_1 _) (by decide) rfl ?_
              refine j_goto (tgt := 27) C dX5_write_95 (by decide) ?_
              refine j_iload C dX5_write_27 rfl ?_
              refine j_iconst (v := (nI 3)) C dX5_write_29 rfl ?_
              refine j_icmpn_ge_t (tgt := 98) C dX5_write_30 (by decide) (by omega) (by omega) (by omega) ?_
              obtain rfl : W = 1 := hW.elim (fun q => absurd (show okS a from (fun q : okS a ∧ okS v ∧ okS w => q.1) q.2) (not_ok hea hsa)) (fun q => q.1)
              obtain rfl : M = 3 := by
                rcases hM with ⟨q1, q⟩ | ⟨q1, q2, q⟩ | ⟨q1, q2, q3, q⟩ | ⟨q1, q2, q3, q⟩ <;> first | contradiction | exact q
              refine j_lv (lv' := [(7, .int (nI 3)), (6, .int (nI 1)), (5, .ref q1), (0, .ref mo), (1, .int x), (2, .int a), (3, .int v), (4, .int w)]) (by simp only [List.mem_cons, List.not_mem_nil, or_false, forall_eq_or_imp, forall_eq, true_or, or_true, and_self, Nat.add_zero]) ?_
              exact kk
            · skip
              refine j_callSr C (v := .int (nI 0)) (w := (mW E x0 x1 x2 x3 x4 x5 mo ou th re ak gv kn ro (LL ++ [q1]) (va_up ff q1 (.inl (E.2.1, 3, .inl (upd (upd (upd (fun _ => 0) 0 a) 1 v) 2 w)))))) (m_isSign_0 l E A hsw) ok_X5_isSign w_948 (by omega) rfl rfl (Nat.le_of_ble_eq_true rfl) ⟨by omega, by omega⟩ dX5_write_49 ?_
              refine j_ifn_ne_f (tgt := 59) C dX5_write_52 (by decide) (by omega) (by omega) ?_
              refine j_iconst (v := (nI 1)) C dX5_write_55 rfl ?_
              refine j_goto (tgt := 60) C dX5_write_56 (by decide) ?_
              refine j_ior (z := (nI 1)) C dX5_write_60 (by decide) ?_
              refine j_istore (lv' := [(6, .int (nI 1)), (8, .int (nI 2)), (7, .int (nI 2)), (5, .ref q1), (0, .ref mo), (1, .int x), (2, .int a), (3, .int v), (4, .int w)]) C dX5_write_61 (by decide) rfl ?_
              refine j_iload C dX5_write_63 rfl ?_
              refine j_iload C dX5_write_65 rfl ?_
              refine j_iload C dX5_write_67 rfl ?_
              refine j_icmpn_ne_f (tgt := 85) C dX5_write_69 (by decide) (by omega) (by omega) (by omega) ?_
              refine j_aload C dX5_write_72 rfl ?_
              refine j_iload C dX5_write_74 rfl ?_
              refine j_ialoadP (z := w) C 2 pool_newm pool_new rfl (by omega) (by omega) rfl dX5_write_76 ?_
              refine j_iconst (v := (-1)) C dX5_write_77 rfl ?_
              refine j_icmp_eq_f (tgt := 85) C dX5_write_78 (by decide) hew ?_
              refine j_iconst (v := (nI 1)) C dX5_write_81 rfl ?_
              refine j_goto (tgt := 86) C dX5_write_82 (by decide) ?_
              refine j_callSr C (v := .int (nI 1)) (w := (mW E x0 x1 x2 x3 x4 x5 mo ou th re ak gv kn ro (LL ++ [q1]) (va_up ff q1 (.inl (E.2.1, 3, .inl (upd (upd (upd (fun _ => 0) 0 a) 1 v) 2 w)))))) (m_one_1 l E A) ok_X5_one w_956 (by omega) rfl rfl (Nat.le_of_ble_eq_true rfl) ⟨by omega, by omega⟩ dX5_write_86 ?_
              refine j_iadd (z := (nI 3)) C dX5_write_89 (nI_add _ _) ?_
              refine j_istore (lv' := [(7, .int (nI 3)), (6, .int (nI 1)), (8, .int (nI 2)), (5, .ref q1), (0, .ref mo), (1, .int x), (2, .int a), (3, .int v), (4, .int w)]) C dX5_write_90 (by decide) rfl ?_
              refine j_iinc (lv' := [(8, .int (nI 3)), (7, .int (nI 3)), (6, .int (nI 1)), (5, .ref q1), (0, .ref mo), (1, .int x), (2, .int a), (3, .int v), (4, .int w)]) C dX5_write_92 rfl (nI_1 _) (by decide) rfl ?_
              refine j_goto (tgt := 27) C dX5_write_95 (by decide) ?_
              refine j_iload C dX5_write_27 rfl ?_
              refine j_iconst (v := (nI 3)) C dX5_write_29 rfl ?_
              refine j_icmpn_ge_t (tgt := 98) C dX5_write_30 (by decide) (by omega) (by omega) (by omega) ?_
              obtain rfl : W = 1 := hW.elim (fun q => absurd (show okS a from (fun q : okS a ∧ okS v ∧ okS w => q.1) q.2) (not_ok hea hsa)) (fun q => q.1)
              obtain rfl : M = 3 := by
                rcases hM with ⟨q1, q⟩ | ⟨q1, q2, q⟩ | ⟨q1, q2, q3, q⟩ | ⟨q1, q2, q3, q⟩ <;> first | contradiction | exact q
              refine j_lv (lv' := [(7, .int (nI 3)), (6, .int (nI 1)), (5, .ref q1), (0, .ref mo), (1, .int x), (2, .int a), (3, .int v), (4, .int w)]) (by simp only [List.mem_cons, List.not_mem_nil, or_false, forall_eq_or_imp, forall_eq, true_or, or_true, and_self, Nat.add_zero]) ?_
              exact kk
set_option maxHeartbeats 4000000 in
set_option maxRecDepth 100000 in
theorem g_write_b (l : Launch) (E : jE) (A : Nat → Prop) {x0 x1 x2 x3 x4 x5 : Nat × va_E} {mo ou : Nat} {th re ak gv kn : Int32} {ro : Nat → Option Nat} {LL : List Nat} {ff : Nat → va_E} {x a v w : Int32} {W M : Nat} (hW : wrW a v w W) (hM : wrM a v w M) (hbx : x < 0 ∨ nI 9 ≤ x)  : jMet l yX5_write cX5_write 9 (some .int) 5 1 3 E A [.ref mo, .int x, .int a, .int v, .int w] (mW E x0 x1 x2 x3 x4 x5 mo ou th re ak gv kn ro LL ff) (fun vv ww => ∃ (q : Nat) (hh : Nat → Int32), q ∉ LL ∧ vv = some (.int (nI 0)) ∧ ww = mW E x0 x1 x2 x3 x4 x5 mo ou (nI 1) re ak gv kn ro (LL ++ [q]) (va_up ff q (.inl (E.2.1, 3, .inl hh)))) jNo := by
  refine jMet.intro' [(0, .ref mo), (1, .int x), (2, .int a), (3, .int v), (4, .int w)] (by decide) (Nat.le_of_ble_eq_true rfl) rfl ?_
  intro p e R s m args below meth c Q C hQ
  refine j_iconst (v := (nI 3)) C dX5_write_0 rfl ?_
  refine j_newIP C 3 w_72 rfl (by omega) (by omega) (by omega) dX5_write_1 (fun q1 hq1 => ?_)
  refine j_dup C dX5_write_3 rfl ?_
  refine j_iconst (v := (nI 0)) C dX5_write_4 rfl ?_
  refine j_iload_n C dX5_write_5 rfl ?_
  refine j_iastoreP (h' := upd (fun _ => 0) 0 a) C 0 pool_newm pool_new rfl (by omega) (by omega) dX5_write_6 rfl ?_
  refine j_eq (ws' := (mW E x0 x1 x2 x3 x4 x5 mo ou th re ak gv kn ro (LL ++ [q1]) (va_up ff q1 (.inl (E.2.1, 3, .inl (upd (fun _ => 0) 0 a)))))) rfl rfl (by rw [pool_up2]) ?_
  refine j_dup C dX5_write_7 rfl ?_
  refine j_iconst (v := (nI 1)) C dX5_write_8 rfl ?_
  refine j_iload_n C dX5_write_9 rfl ?_
  refine j_iastoreP (h' := upd (upd (fun _ => 0) 0 a) 1 v) C 1 pool_newm pool_new rfl (by omega) (by omega) dX5_write_10 rfl ?_
  refine j_eq (ws' := (mW E x0 x1 x2 x3 x4 x5 mo ou th re ak gv kn ro (LL ++ [q1]) (va_up ff q1 (.inl (E.2.1, 3, .inl (upd (upd (fun _ => 0) 0 a) 1 v)))))) rfl rfl (by rw [pool_up2]) ?_
  refine j_dup C dX5_write_11 rfl ?_
  refine j_iconst (v := (nI 2)) C dX5_write_12 rfl ?_
  refine j_iload C dX5_write_13 rfl ?_
  refine j_iastoreP (h' := upd (upd (upd (fun _ => 0) 0 a) 1 v) 2 w) C 2 pool_newm pool_new rfl (by omega) (by omega) dX5_write_15 rfl ?_
  refine j_eq (ws' := (mW E x0 x1 x2 x3 x4 x5 mo ou th re ak gv kn ro (LL ++ [q1]) (va_up ff q1 (.inl (E.2.1, 3, .inl (upd (upd (upd (fun _ => 0) 0 a) 1 v) 2 w)))))) rfl rfl (by rw [pool_up2]) ?_
  refine j_astore (lv' := [(5, .ref q1), (0, .ref mo), (1, .int x), (2, .int a), (3, .int v), (4, .int w)]) C dX5_write_16 (by decide) rfl ?_
  refine g_write_seg (W := W) (M := M) (by decide) C (by decide) (by decide) hW hM ?_
  refine j_aload_n C dX5_write_98 rfl ?_
  refine j_iload_n C dX5_write_99 rfl ?_
  refine j_callSr C (v := .int (nI 1)) (w := (mW E x0 x1 x2 x3 x4 x5 mo ou th re ak gv kn ro (LL ++ [q1]) (va_up ff q1 (.inl (E.2.1, 3, .inl (upd (upd (upd (fun _ => 0) 0 a) 1 v) 2 w)))))) (m_isNo_1 l E A hbx) ok_X5_isNo w_959 (by decide) rfl rfl (Nat.le_of_ble_eq_true rfl) ⟨Nat.le_of_ble_eq_true rfl, Nat.le_of_ble_eq_true rfl⟩ dX5_write_100 ?_
  refine j_iconst (v := (nI 1)) C dX5_write_103 rfl ?_
  refine j_callVr C 6 (v := .int (nI 1)) (w := (mW E x0 x1 x2 x3 x4 x5 mo ou (nI 1) re ak gv kn ro (LL ++ [q1]) (va_up ff q1 (.inl (E.2.1, 3, .inl (upd (upd (upd (fun _ => 0) 0 a) 1 v) 2 w)))))) (m_start_1 l E A (by decide) (by decide)) ok_X5_start w_962 (by decide) rfl rfl (Nat.le_of_ble_eq_true rfl) rfl rfl ⟨Nat.le_of_ble_eq_true rfl, Nat.le_of_ble_eq_true rfl⟩ dX5_write_104 ?_
  refine j_ifn_ne_t (tgt := 155) C dX5_write_107 (by decide) (by omega) (by omega) ?_
  refine j_iconst (v := (nI 0)) C dX5_write_155 rfl ?_
  exact j_iret C hQ rfl dX5_write_156 ⟨Nat.le_of_ble_eq_true rfl, Nat.le_of_ble_eq_true rfl⟩ ⟨q1, _, hq1, rfl, rfl⟩
set_option maxHeartbeats 4000000 in
set_option maxRecDepth 100000 in
theorem g_write_a (l : Launch) (E : jE) (A : Nat → Prop) {x0 x1 x2 x3 x4 x5 : Nat × va_E} {mo ou : Nat} {th re ak gv kn : Int32} {ro : Nat → Option Nat} {LL : List Nat} {ff : Nat → va_E} {i : Nat} (hi : i < 9) {a v w : Int32} {M : Nat} (hW : wrW a v w 1) (hM : wrM a v w M)  : jMet l yX5_write cX5_write 9 (some .int) 5 1 3 E A [.ref mo, .int (nI i), .int a, .int v, .int w] (mW E x0 x1 x2 x3 x4 x5 mo ou th re ak gv kn ro LL ff) (fun vv ww => ∃ (q : Nat) (hh : Nat → Int32), q ∉ LL ∧ vv = some (.int (nI 0)) ∧ ww = mW E x0 x1 x2 x3 x4 x5 mo ou (nI 2) re ak gv kn ro (LL ++ [q]) (va_up ff q (.inl (E.2.1, 3, .inl hh)))) jNo := by
  refine jMet.intro' [(0, .ref mo), (1, .int (nI i)), (2, .int a), (3, .int v), (4, .int w)] (by decide) (Nat.le_of_ble_eq_true rfl) rfl ?_
  intro p e R s m args below meth c Q C hQ
  refine j_iconst (v := (nI 3)) C dX5_write_0 rfl ?_
  refine j_newIP C 3 w_72 rfl (by omega) (by omega) (by omega) dX5_write_1 (fun q1 hq1 => ?_)
  refine j_dup C dX5_write_3 rfl ?_
  refine j_iconst (v := (nI 0)) C dX5_write_4 rfl ?_
  refine j_iload_n C dX5_write_5 rfl ?_
  refine j_iastoreP (h' := upd (fun _ => 0) 0 a) C 0 pool_newm pool_new rfl (by omega) (by omega) dX5_write_6 rfl ?_
  refine j_eq (ws' := (mW E x0 x1 x2 x3 x4 x5 mo ou th re ak gv kn ro (LL ++ [q1]) (va_up ff q1 (.inl (E.2.1, 3, .inl (upd (fun _ => 0) 0 a)))))) rfl rfl (by rw [pool_up2]) ?_
  refine j_dup C dX5_write_7 rfl ?_
  refine j_iconst (v := (nI 1)) C dX5_write_8 rfl ?_
  refine j_iload_n C dX5_write_9 rfl ?_
  refine j_iastoreP (h' := upd (upd (fun _ => 0) 0 a) 1 v) C 1 pool_newm pool_new rfl (by omega) (by omega) dX5_write_10 rfl ?_
  refine j_eq (ws' := (mW E x0 x1 x2 x3 x4 x5 mo ou th re ak gv kn ro (LL ++ [q1]) (va_up ff q1 (.inl (E.2.1, 3, .inl (upd (upd (fun _ => 0) 0 a) 1 v)))))) rfl rfl (by rw [pool_up2]) ?_
  refine j_dup C dX5_write_11 rfl ?_
  refine j_iconst (v := (nI 2)) C dX5_write_12 rfl ?_
  refine j_iload C dX5_write_13 rfl ?_
  refine j_iastoreP (h' := upd (upd (upd (fun _ => 0) 0 a) 1 v) 2 w) C 2 pool_newm pool_new rfl (by omega) (by omega) dX5_write_15 rfl ?_
  refine j_eq (ws' := (mW E x0 x1 x2 x3 x4 x5 mo ou th re ak gv kn ro (LL ++ [q1]) (va_up ff q1 (.inl (E.2.1, 3, .inl (upd (upd (upd (fun _ => 0) 0 a) 1 v) 2 w)))))) rfl rfl (by rw [pool_up2]) ?_
  refine j_astore (lv' := [(5, .ref q1), (0, .ref mo), (1, .int (nI i)), (2, .int a), (3, .int v), (4, .int w)]) C dX5_write_16 (by decide) rfl ?_
  refine g_write_seg (W := 1) (M := M) (by decide) C (by decide) (by decide) hW hM ?_
  refine j_aload_n C dX5_write_98 rfl ?_
  refine j_iload_n C dX5_write_99 rfl ?_
  refine j_callSr C (v := .int (nI 0)) (w := (mW E x0 x1 x2 x3 x4 x5 mo ou th re ak gv kn ro (LL ++ [q1]) (va_up ff q1 (.inl (E.2.1, 3, .inl (upd (upd (upd (fun _ => 0) 0 a) 1 v) 2 w)))))) (m_isNo_0 l E A (by omega)) ok_X5_isNo w_959 (by decide) rfl rfl (Nat.le_of_ble_eq_true rfl) ⟨Nat.le_of_ble_eq_true rfl, Nat.le_of_ble_eq_true rfl⟩ dX5_write_100 ?_
  refine j_iconst (v := (nI 1)) C dX5_write_103 rfl ?_
  refine j_callVr C 6 (v := .int (nI 0)) (w := (mW E x0 x1 x2 x3 x4 x5 mo ou (nI 0) re ak gv kn ro (LL ++ [q1]) (va_up ff q1 (.inl (E.2.1, 3, .inl (upd (upd (upd (fun _ => 0) 0 a) 1 v) 2 w)))))) (m_start_0 l E A) ok_X5_start w_962 (by decide) rfl rfl (Nat.le_of_ble_eq_true rfl) rfl rfl ⟨Nat.le_of_ble_eq_true rfl, Nat.le_of_ble_eq_true rfl⟩ dX5_write_104 ?_
  refine j_ifn_ne_f (tgt := 155) C dX5_write_107 (by decide) (by omega) (by omega) ?_
  refine j_aload_n C dX5_write_110 rfl ?_
  refine j_iload C dX5_write_111 rfl ?_
  refine j_iconst (v := (nI 2)) C dX5_write_113 rfl ?_
  refine j_callVr C 6 (v := .int (nI 1)) (w := (mW E x0 x1 x2 x3 x4 x5 mo ou (nI 2) re ak gv kn ro (LL ++ [q1]) (va_up ff q1 (.inl (E.2.1, 3, .inl (upd (upd (upd (fun _ => 0) 0 a) 1 v) 2 w)))))) (m_refuse_1 l E A (by decide) (by decide)) ok_X5_refuse w_966 (by decide) rfl rfl (Nat.le_of_ble_eq_true rfl) rfl rfl ⟨Nat.le_of_ble_eq_true rfl, Nat.le_of_ble_eq_true rfl⟩ dX5_write_114 ?_
  refine j_ifn_ne_t (tgt := 155) C dX5_write_117 (by decide) (by omega) (by omega) ?_
  refine j_iconst (v := (nI 0)) C dX5_write_155 rfl ?_
  exact j_iret C hQ rfl dX5_write_156 ⟨Nat.le_of_ble_eq_true rfl, Nat.le_of_ble_eq_true rfl⟩ ⟨q1, _, hq1, rfl, rfl⟩
set_option maxHeartbeats 4000000 in
set_option maxRecDepth 100000 in
theorem g_write_m (l : Launch) (E : jE) (A : Nat → Prop) {x0 x1 x2 x3 x4 x5 : Nat × va_E} {mo ou : Nat} {th re ak gv kn : Int32} {ro : Nat → Option Nat} {LL : List Nat} {ff : Nat → va_E} {i : Nat} (hi : i < 9) (hri : ro i = none) {a v w : Int32} {M : Nat} (hW : wrW a v w 0) (hM : wrM a v w M)  : jMet l yX5_write cX5_write 9 (some .int) 5 1 3 E A [.ref mo, .int (nI i), .int a, .int v, .int w] (mW E x0 x1 x2 x3 x4 x5 mo ou th re ak gv kn ro LL ff) (fun vv ww => ∃ (q : Nat) (hh : Nat → Int32), q ∉ LL ∧ vv = some (.int (nI 0)) ∧ ww = mW E x0 x1 x2 x3 x4 x5 mo ou (nI 3) re ak gv kn ro (LL ++ [q]) (va_up ff q (.inl (E.2.1, 3, .inl hh)))) jNo := by
  refine jMet.intro' [(0, .ref mo), (1, .int (nI i)), (2, .int a), (3, .int v), (4, .int w)] (by decide) (Nat.le_of_ble_eq_true rfl) rfl ?_
  intro p e R s m args below meth c Q C hQ
  refine j_iconst (v := (nI 3)) C dX5_write_0 rfl ?_
  refine j_newIP C 3 w_72 rfl (by omega) (by omega) (by omega) dX5_write_1 (fun q1 hq1 => ?_)
  refine j_dup C dX5_write_3 rfl ?_
  refine j_iconst (v := (nI 0)) C dX5_write_4 rfl ?_
  refine j_iload_n C dX5_write_5 rfl ?_
  refine j_iastoreP (h' := upd (fun _ => 0) 0 a) C 0 pool_newm pool_new rfl (by omega) (by omega) dX5_write_6 rfl ?_
  refine j_eq (ws' := (mW E x0 x1 x2 x3 x4 x5 mo ou th re ak gv kn ro (LL ++ [q1]) (va_up ff q1 (.inl (E.2.1, 3, .inl (upd (fun _ => 0) 0 a)))))) rfl rfl (by rw [pool_up2]) ?_
  refine j_dup C dX5_write_7 rfl ?_
  refine j_iconst (v := (nI 1)) C dX5_write_8 rfl ?_
  refine j_iload_n C dX5_write_9 rfl ?_
  refine j_iastoreP (h' := upd (upd (fun _ => 0) 0 a) 1 v) C 1 pool_newm pool_new rfl (by omega) (by omega) dX5_write_10 rfl ?_
  refine j_eq (ws' := (mW E x0 x1 x2 x3 x4 x5 mo ou th re ak gv kn ro (LL ++ [q1]) (va_up ff q1 (.inl (E.2.1, 3, .inl (upd (upd (fun _ => 0) 0 a) 1 v)))))) rfl rfl (by rw [pool_up2]) ?_
  refine j_dup C dX5_write_11 rfl ?_
  refine j_iconst (v := (nI 2)) C dX5_write_12 rfl ?_
  refine j_iload C dX5_write_13 rfl ?_
  refine j_iastoreP (h' := upd (upd (upd (fun _ => 0) 0 a) 1 v) 2 w) C 2 pool_newm pool_new rfl (by omega) (by omega) dX5_write_15 rfl ?_
  refine j_eq (ws' := (mW E x0 x1 x2 x3 x4 x5 mo ou th re ak gv kn ro (LL ++ [q1]) (va_up ff q1 (.inl (E.2.1, 3, .inl (upd (upd (upd (fun _ => 0) 0 a) 1 v) 2 w)))))) rfl rfl (by rw [pool_up2]) ?_
  refine j_astore (lv' := [(5, .ref q1), (0, .ref mo), (1, .int (nI i)), (2, .int a), (3, .int v), (4, .int w)]) C dX5_write_16 (by decide) rfl ?_
  refine g_write_seg (W := 0) (M := M) (by decide) C (by decide) (by decide) hW hM ?_
  refine j_aload_n C dX5_write_98 rfl ?_
  refine j_iload_n C dX5_write_99 rfl ?_
  refine j_callSr C (v := .int (nI 0)) (w := (mW E x0 x1 x2 x3 x4 x5 mo ou th re ak gv kn ro (LL ++ [q1]) (va_up ff q1 (.inl (E.2.1, 3, .inl (upd (upd (upd (fun _ => 0) 0 a) 1 v) 2 w)))))) (m_isNo_0 l E A (by omega)) ok_X5_isNo w_959 (by decide) rfl rfl (Nat.le_of_ble_eq_true rfl) ⟨Nat.le_of_ble_eq_true rfl, Nat.le_of_ble_eq_true rfl⟩ dX5_write_100 ?_
  refine j_iconst (v := (nI 1)) C dX5_write_103 rfl ?_
  refine j_callVr C 6 (v := .int (nI 0)) (w := (mW E x0 x1 x2 x3 x4 x5 mo ou (nI 0) re ak gv kn ro (LL ++ [q1]) (va_up ff q1 (.inl (E.2.1, 3, .inl (upd (upd (upd (fun _ => 0) 0 a) 1 v) 2 w)))))) (m_start_0 l E A) ok_X5_start w_962 (by decide) rfl rfl (Nat.le_of_ble_eq_true rfl) rfl rfl ⟨Nat.le_of_ble_eq_true rfl, Nat.le_of_ble_eq_true rfl⟩ dX5_write_104 ?_
  refine j_ifn_ne_f (tgt := 155) C dX5_write_107 (by decide) (by omega) (by omega) ?_
  refine j_aload_n C dX5_write_110 rfl ?_
  refine j_iload C dX5_write_111 rfl ?_
  refine j_iconst (v := (nI 2)) C dX5_write_113 rfl ?_
  refine j_callVr C 6 (v := .int (nI 0)) (w := (mW E x0 x1 x2 x3 x4 x5 mo ou (nI 0) re ak gv kn ro (LL ++ [q1]) (va_up ff q1 (.inl (E.2.1, 3, .inl (upd (upd (upd (fun _ => 0) 0 a) 1 v) 2 w)))))) (m_refuse_0 l E A) ok_X5_refuse w_966 (by decide) rfl rfl (Nat.le_of_ble_eq_true rfl) rfl rfl ⟨Nat.le_of_ble_eq_true rfl, Nat.le_of_ble_eq_true rfl⟩ dX5_write_114 ?_
  refine j_ifn_ne_f (tgt := 155) C dX5_write_117 (by decide) (by omega) (by omega) ?_
  refine j_aload_n C dX5_write_120 rfl ?_
  refine j_aload_n C dX5_write_121 rfl ?_
  refine j_get C 6 rfl inj_X5 rfl 1 (by decide) w_922 rfl dX5_write_122 ?_
  refine j_iload_n C dX5_write_125 rfl ?_
  refine j_aaload (v := .null) C 7 i rfl rfl (by omega) (by decide) (by rw [show ro i = none from hri]; rfl) dX5_write_126 ?_
  refine j_ifnull_t (tgt := 143) C dX5_write_127 (by decide) ?_
  refine j_iconst (v := (nI 1)) C dX5_write_143 rfl ?_
  refine j_goto (tgt := 148) C dX5_write_144 (by decide) ?_
  refine j_iconst (v := (nI 3)) C dX5_write_148 rfl ?_
  refine j_callVr C 6 (v := .int (nI 1)) (w := (mW E x0 x1 x2 x3 x4 x5 mo ou (nI 3) re ak gv kn ro (LL ++ [q1]) (va_up ff q1 (.inl (E.2.1, 3, .inl (upd (upd (upd (fun _ => 0) 0 a) 1 v) 2 w)))))) (m_refuse_1 l E A (by decide) (by decide)) ok_X5_refuse w_966 (by decide) rfl rfl (Nat.le_of_ble_eq_true rfl) rfl rfl ⟨Nat.le_of_ble_eq_true rfl, Nat.le_of_ble_eq_true rfl⟩ dX5_write_149 ?_
  refine j_ifn_eq_f (tgt := 157) C dX5_write_152 (by decide) (by omega) (by omega) ?_
  refine j_iconst (v := (nI 0)) C dX5_write_155 rfl ?_
  exact j_iret C hQ rfl dX5_write_156 ⟨Nat.le_of_ble_eq_true rfl, Nat.le_of_ble_eq_true rfl⟩ ⟨q1, _, hq1, rfl, rfl⟩
set_option maxHeartbeats 4000000 in
set_option maxRecDepth 100000 in
theorem g_write_f (l : Launch) (E : jE) (A : Nat → Prop) {x0 x1 x2 x3 x4 x5 : Nat × va_E} {mo ou : Nat} {th re ak gv kn : Int32} {ro : Nat → Option Nat} {LL : List Nat} {ff : Nat → va_E} {i : Nat} (hi : i < 9) {ai n : Nat} {h : Nat → Int32} (hrai : ro i = some ai) (hmai : ai ∈ LL) (hfai : ff ai = .inl (E.2.1, n, .inl h)) (hnai : n ≤ 24) {a v w : Int32} {M : Nat} (hW : wrW a v w 0) (hM : wrM a v w M) (hM3 : M ≤ 3) (ho : ¬ n + M ≤ 24) : jMet l yX5_write cX5_write 9 (some .int) 5 1 3 E A [.ref mo, .int (nI i), .int a, .int v, .int w] (mW E x0 x1 x2 x3 x4 x5 mo ou th re ak gv kn ro LL ff) (fun vv ww => ∃ (q : Nat) (hh : Nat → Int32), q ∉ LL ∧ vv = some (.int (nI 0)) ∧ ww = mW E x0 x1 x2 x3 x4 x5 mo ou (nI 3) re ak gv kn ro (LL ++ [q]) (va_up ff q (.inl (E.2.1, 3, .inl hh)))) jNo := by
  refine jMet.intro' [(0, .ref mo), (1, .int (nI i)), (2, .int a), (3, .int v), (4, .int w)] (by decide) (Nat.le_of_ble_eq_true rfl) rfl ?_
  intro p e R s m args below meth c Q C hQ
  refine j_iconst (v := (nI 3)) C dX5_write_0 rfl ?_
  refine j_newIP C 3 w_72 rfl (by omega) (by omega) (by omega) dX5_write_1 (fun q1 hq1 => ?_)
  refine j_dup C dX5_write_3 rfl ?_
  refine j_iconst (v := (nI 0)) C dX5_write_4 rfl ?_
  refine j_iload_n C dX5_write_5 rfl ?_
  refine j_iastoreP (h' := upd (fun _ => 0) 0 a) C 0 pool_newm pool_new rfl (by omega) (by omega) dX5_write_6 rfl ?_
  refine j_eq (ws' := (mW E x0 x1 x2 x3 x4 x5 mo ou th re ak gv kn ro (LL ++ [q1]) (va_up ff q1 (.inl (E.2.1, 3, .inl (upd (fun _ => 0) 0 a)))))) rfl rfl (by rw [pool_up2]) ?_
  refine j_dup C dX5_write_7 rfl ?_
  refine j_iconst (v := (nI 1)) C dX5_write_8 rfl ?_
  refine j_iload_n C dX5_write_9 rfl ?_
  refine j_iastoreP (h' := upd (upd (fun _ => 0) 0 a) 1 v) C 1 pool_newm pool_new rfl (by omega) (by omega) dX5_write_10 rfl ?_
  refine j_eq (ws' := (mW E x0 x1 x2 x3 x4 x5 mo ou th re ak gv kn ro (LL ++ [q1]) (va_up ff q1 (.inl (E.2.1, 3, .inl (upd (upd (fun _ => 0) 0 a) 1 v)))))) rfl rfl (by rw [pool_up2]) ?_
  refine j_dup C dX5_write_11 rfl ?_
  refine j_iconst (v := (nI 2)) C dX5_write_12 rfl ?_
  refine j_iload C dX5_write_13 rfl ?_
  refine j_iastoreP (h' := upd (upd (upd (fun _ => 0) 0 a) 1 v) 2 w) C 2 pool_newm pool_new rfl (by omega) (by omega) dX5_write_15 rfl ?_
  refine j_eq (ws' := (mW E x0 x1 x2 x3 x4 x5 mo ou th re ak gv kn ro (LL ++ [q1]) (va_up ff q1 (.inl (E.2.1, 3, .inl (upd (upd (upd (fun _ => 0) 0 a) 1 v) 2 w)))))) rfl rfl (by rw [pool_up2]) ?_
  refine j_astore (lv' := [(5, .ref q1), (0, .ref mo), (1, .int (nI i)), (2, .int a), (3, .int v), (4, .int w)]) C dX5_write_16 (by decide) rfl ?_
  refine g_write_seg (W := 0) (M := M) (by decide) C (by decide) (by decide) hW hM ?_
  refine j_aload_n C dX5_write_98 rfl ?_
  refine j_iload_n C dX5_write_99 rfl ?_
  refine j_callSr C (v := .int (nI 0)) (w := (mW E x0 x1 x2 x3 x4 x5 mo ou th re ak gv kn ro (LL ++ [q1]) (va_up ff q1 (.inl (E.2.1, 3, .inl (upd (upd (upd (fun _ => 0) 0 a) 1 v) 2 w)))))) (m_isNo_0 l E A (by omega)) ok_X5_isNo w_959 (by decide) rfl rfl (Nat.le_of_ble_eq_true rfl) ⟨Nat.le_of_ble_eq_true rfl, Nat.le_of_ble_eq_true rfl⟩ dX5_write_100 ?_
  refine j_iconst (v := (nI 1)) C dX5_write_103 rfl ?_
  refine j_callVr C 6 (v := .int (nI 0)) (w := (mW E x0 x1 x2 x3 x4 x5 mo ou (nI 0) re ak gv kn ro (LL ++ [q1]) (va_up ff q1 (.inl (E.2.1, 3, .inl (upd (upd (upd (fun _ => 0) 0 a) 1 v) 2 w)))))) (m_start_0 l E A) ok_X5_start w_962 (by decide) rfl rfl (Nat.le_of_ble_eq_true rfl) rfl rfl ⟨Nat.le_of_ble_eq_true rfl, Nat.le_of_ble_eq_true rfl⟩ dX5_write_104 ?_
  refine j_ifn_ne_f (tgt := 155) C dX5_write_107 (by decide) (by omega) (by omega) ?_
  refine j_aload_n C dX5_write_110 rfl ?_
  refine j_iload C dX5_write_111 rfl ?_
  refine j_iconst (v := (nI 2)) C dX5_write_113 rfl ?_
  refine j_callVr C 6 (v := .int (nI 0)) (w := (mW E x0 x1 x2 x3 x4 x5 mo ou (nI 0) re ak gv kn ro (LL ++ [q1]) (va_up ff q1 (.inl (E.2.1, 3, .inl (upd (upd (upd (fun _ => 0) 0 a) 1 v) 2 w)))))) (m_refuse_0 l E A) ok_X5_refuse w_966 (by decide) rfl rfl (Nat.le_of_ble_eq_true rfl) rfl rfl ⟨Nat.le_of_ble_eq_true rfl, Nat.le_of_ble_eq_true rfl⟩ dX5_write_114 ?_
  refine j_ifn_ne_f (tgt := 155) C dX5_write_117 (by decide) (by omega) (by omega) ?_
  refine j_aload_n C dX5_write_120 rfl ?_
  refine j_aload_n C dX5_write_121 rfl ?_
  refine j_get C 6 rfl inj_X5 rfl 1 (by decide) w_922 rfl dX5_write_122 ?_
  refine j_iload_n C dX5_write_125 rfl ?_
  refine j_aaload (v := .ref ai) C 7 i rfl rfl (by omega) (by decide) (by rw [show ro i = some ai from hrai]; rfl) dX5_write_126 ?_
  refine j_ifnull_f C dX5_write_127 ?_
  refine j_aload_n C dX5_write_130 rfl ?_
  refine j_iload_n C dX5_write_131 rfl ?_
  refine j_callVr C 6 (v := .int (nI n)) (w := (mW E x0 x1 x2 x3 x4 x5 mo ou (nI 0) re ak gv kn ro (LL ++ [q1]) (va_up ff q1 (.inl (E.2.1, 3, .inl (upd (upd (upd (fun _ => 0) 0 a) 1 v) 2 w)))))) (m_many_k l E A (by omega) hrai (pool_old hmai) (pool_keep hmai hq1 hfai) (by omega)) ok_X5_many w_970 (by decide) rfl rfl (Nat.le_of_ble_eq_true rfl) rfl rfl ⟨Nat.le_of_ble_eq_true rfl, Nat.le_of_ble_eq_true rfl⟩ dX5_write_132 ?_
  refine j_iload C dX5_write_135 rfl ?_
  refine j_iadd (z := (nI (n + M))) C dX5_write_137 (nI_add _ _) ?_
  refine j_bipush (v := (nI 24)) C dX5_write_138 rfl ?_
  refine j_icmpn_le_f (tgt := 147) C dX5_write_140 (by decide) (by omega) (by omega) (by omega) ?_
  refine j_iconst (v := (nI 1)) C dX5_write_143 rfl ?_
  refine j_goto (tgt := 148) C dX5_write_144 (by decide) ?_
  refine j_iconst (v := (nI 3)) C dX5_write_148 rfl ?_
  refine j_callVr C 6 (v := .int (nI 1)) (w := (mW E x0 x1 x2 x3 x4 x5 mo ou (nI 3) re ak gv kn ro (LL ++ [q1]) (va_up ff q1 (.inl (E.2.1, 3, .inl (upd (upd (upd (fun _ => 0) 0 a) 1 v) 2 w)))))) (m_refuse_1 l E A (by decide) (by decide)) ok_X5_refuse w_966 (by decide) rfl rfl (Nat.le_of_ble_eq_true rfl) rfl rfl ⟨Nat.le_of_ble_eq_true rfl, Nat.le_of_ble_eq_true rfl⟩ dX5_write_149 ?_
  refine j_ifn_eq_f (tgt := 157) C dX5_write_152 (by decide) (by omega) (by omega) ?_
  refine j_iconst (v := (nI 0)) C dX5_write_155 rfl ?_
  exact j_iret C hQ rfl dX5_write_156 ⟨Nat.le_of_ble_eq_true rfl, Nat.le_of_ble_eq_true rfl⟩ ⟨q1, _, hq1, rfl, rfl⟩
set_option maxHeartbeats 4000000 in
set_option maxRecDepth 100000 in
theorem g_write_k0 (l : Launch) (E : jE) (A : Nat → Prop) {x0 x1 x2 x3 x4 x5 : Nat × va_E} {mo ou : Nat} {th re ak gv kn : Int32} {ro : Nat → Option Nat} {LL : List Nat} {ff : Nat → va_E} {i : Nat} (hi : i < 9) {ai n : Nat} {h : Nat → Int32} (hrai : ro i = some ai) (hmai : ai ∈ LL) (hfai : ff ai = .inl (E.2.1, n, .inl h)) (hnai : n ≤ 24) {a v w : Int32} (hW : wrW a v w 0) (hM : wrM a v w 0) (ho : n + 0 ≤ 24) : jMet l yX5_write cX5_write 9 (some .int) 5 1 3 E A [.ref mo, .int (nI i), .int a, .int v, .int w] (mW E x0 x1 x2 x3 x4 x5 mo ou th re ak gv kn ro LL ff) (fun vv ww => ∃ (q  : Nat) (hh : Nat → Int32), q ∉ LL ∧ vv = some (.int (nI (n))) ∧ ww = (mW E x0 x1 x2 x3 x4 x5 mo ou (nI 0) re ak gv kn ro (LL ++ [q]) (va_up ff q (.inl (E.2.1, 3, .inl hh))))) jNo := by
  refine jMet.intro' [(0, .ref mo), (1, .int (nI i)), (2, .int a), (3, .int v), (4, .int w)] (by decide) (Nat.le_of_ble_eq_true rfl) rfl ?_
  intro p e R s m args below meth c Q C hQ
  refine j_iconst (v := (nI 3)) C dX5_write_0 rfl ?_
  refine j_newIP C 3 w_72 rfl (by omega) (by omega) (by omega) dX5_write_1 (fun q1 hq1 => ?_)
  refine j_dup C dX5_write_3 rfl ?_
  refine j_iconst (v := (nI 0)) C dX5_write_4 rfl ?_
  refine j_iload_n C dX5_write_5 rfl ?_
  refine j_iastoreP (h' := upd (fun _ => 0) 0 a) C 0 pool_newm pool_new rfl (by omega) (by omega) dX5_write_6 rfl ?_
  refine j_eq (ws' := (mW E x0 x1 x2 x3 x4 x5 mo ou th re ak gv kn ro (LL ++ [q1]) (va_up ff q1 (.inl (E.2.1, 3, .inl (upd (fun _ => 0) 0 a)))))) rfl rfl (by rw [pool_up2]) ?_
  refine j_dup C dX5_write_7 rfl ?_
  refine j_iconst (v := (nI 1)) C dX5_write_8 rfl ?_
  refine j_iload_n C dX5_write_9 rfl ?_
  refine j_iastoreP (h' := upd (upd (fun _ => 0) 0 a) 1 v) C 1 pool_newm pool_new rfl (by omega) (by omega) dX5_write_10 rfl ?_
  refine j_eq (ws' := (mW E x0 x1 x2 x3 x4 x5 mo ou th re ak gv kn ro (LL ++ [q1]) (va_up ff q1 (.inl (E.2.1, 3, .inl (upd (upd (fun _ => 0) 0 a) 1 v)))))) rfl rfl (by rw [pool_up2]) ?_
  refine j_dup C dX5_write_11 rfl ?_
  refine j_iconst (v := (nI 2)) C dX5_write_12 rfl ?_
  refine j_iload C dX5_write_13 rfl ?_
  refine j_iastoreP (h' := upd (upd (upd (fun _ => 0) 0 a) 1 v) 2 w) C 2 pool_newm pool_new rfl (by omega) (by omega) dX5_write_15 rfl ?_
  refine j_eq (ws' := (mW E x0 x1 x2 x3 x4 x5 mo ou th re ak gv kn ro (LL ++ [q1]) (va_up ff q1 (.inl (E.2.1, 3, .inl (upd (upd (upd (fun _ => 0) 0 a) 1 v) 2 w)))))) rfl rfl (by rw [pool_up2]) ?_
  refine j_astore (lv' := [(5, .ref q1), (0, .ref mo), (1, .int (nI i)), (2, .int a), (3, .int v), (4, .int w)]) C dX5_write_16 (by decide) rfl ?_
  refine g_write_seg (W := 0) (M := 0) (by decide) C (by decide) (by decide) hW hM ?_
  refine j_aload_n C dX5_write_98 rfl ?_
  refine j_iload_n C dX5_write_99 rfl ?_
  refine j_callSr C (v := .int (nI 0)) (w := (mW E x0 x1 x2 x3 x4 x5 mo ou th re ak gv kn ro (LL ++ [q1]) (va_up ff q1 (.inl (E.2.1, 3, .inl (upd (upd (upd (fun _ => 0) 0 a) 1 v) 2 w)))))) (m_isNo_0 l E A (by omega)) ok_X5_isNo w_959 (by decide) rfl rfl (Nat.le_of_ble_eq_true rfl) ⟨Nat.le_of_ble_eq_true rfl, Nat.le_of_ble_eq_true rfl⟩ dX5_write_100 ?_
  refine j_iconst (v := (nI 1)) C dX5_write_103 rfl ?_
  refine j_callVr C 6 (v := .int (nI 0)) (w := (mW E x0 x1 x2 x3 x4 x5 mo ou (nI 0) re ak gv kn ro (LL ++ [q1]) (va_up ff q1 (.inl (E.2.1, 3, .inl (upd (upd (upd (fun _ => 0) 0 a) 1 v) 2 w)))))) (m_start_0 l E A) ok_X5_start w_962 (by decide) rfl rfl (Nat.le_of_ble_eq_true rfl) rfl rfl ⟨Nat.le_of_ble_eq_true rfl, Nat.le_of_ble_eq_true rfl⟩ dX5_write_104 ?_
  refine j_ifn_ne_f (tgt := 155) C dX5_write_107 (by decide) (by omega) (by omega) ?_
  refine j_aload_n C dX5_write_110 rfl ?_
  refine j_iload C dX5_write_111 rfl ?_
  refine j_iconst (v := (nI 2)) C dX5_write_113 rfl ?_
  refine j_callVr C 6 (v := .int (nI 0)) (w := (mW E x0 x1 x2 x3 x4 x5 mo ou (nI 0) re ak gv kn ro (LL ++ [q1]) (va_up ff q1 (.inl (E.2.1, 3, .inl (upd (upd (upd (fun _ => 0) 0 a) 1 v) 2 w)))))) (m_refuse_0 l E A) ok_X5_refuse w_966 (by decide) rfl rfl (Nat.le_of_ble_eq_true rfl) rfl rfl ⟨Nat.le_of_ble_eq_true rfl, Nat.le_of_ble_eq_true rfl⟩ dX5_write_114 ?_
  refine j_ifn_ne_f (tgt := 155) C dX5_write_117 (by decide) (by omega) (by omega) ?_
  refine j_aload_n C dX5_write_120 rfl ?_
  refine j_aload_n C dX5_write_121 rfl ?_
  refine j_get C 6 rfl inj_X5 rfl 1 (by decide) w_922 rfl dX5_write_122 ?_
  refine j_iload_n C dX5_write_125 rfl ?_
  refine j_aaload (v := .ref ai) C 7 i rfl rfl (by omega) (by decide) (by rw [show ro i = some ai from hrai]; rfl) dX5_write_126 ?_
  refine j_ifnull_f C dX5_write_127 ?_
  refine j_aload_n C dX5_write_130 rfl ?_
  refine j_iload_n C dX5_write_131 rfl ?_
  refine j_callVr C 6 (v := .int (nI n)) (w := (mW E x0 x1 x2 x3 x4 x5 mo ou (nI 0) re ak gv kn ro (LL ++ [q1]) (va_up ff q1 (.inl (E.2.1, 3, .inl (upd (upd (upd (fun _ => 0) 0 a) 1 v) 2 w)))))) (m_many_k l E A (by omega) hrai (pool_old hmai) (pool_keep hmai hq1 hfai) (by omega)) ok_X5_many w_970 (by decide) rfl rfl (Nat.le_of_ble_eq_true rfl) rfl rfl ⟨Nat.le_of_ble_eq_true rfl, Nat.le_of_ble_eq_true rfl⟩ dX5_write_132 ?_
  refine j_iload C dX5_write_135 rfl ?_
  refine j_iadd (z := (nI (n + 0))) C dX5_write_137 (nI_add _ _) ?_
  refine j_bipush (v := (nI 24)) C dX5_write_138 rfl ?_
  refine j_icmpn_le_t (tgt := 147) C dX5_write_140 (by decide) (by omega) (by omega) (by omega) ?_
  refine j_iconst (v := (nI 0)) C dX5_write_147 rfl ?_
  refine j_iconst (v := (nI 3)) C dX5_write_148 rfl ?_
  refine j_callVr C 6 (v := .int (nI 0)) (w := (mW E x0 x1 x2 x3 x4 x5 mo ou (nI 0) re ak gv kn ro (LL ++ [q1]) (va_up ff q1 (.inl (E.2.1, 3, .inl (upd (upd (upd (fun _ => 0) 0 a) 1 v) 2 w)))))) (m_refuse_0 l E A) ok_X5_refuse w_966 (by decide) rfl rfl (Nat.le_of_ble_eq_true rfl) rfl rfl ⟨Nat.le_of_ble_eq_true rfl, Nat.le_of_ble_eq_true rfl⟩ dX5_write_149 ?_
  refine j_ifn_eq_t (tgt := 157) C dX5_write_152 (by decide) (by omega) (by omega) ?_
  refine j_iconst (v := (nI 0)) C dX5_write_157 rfl ?_
  refine j_istore (lv' := [(8, .int (nI 0)), (7, .int (nI 0)), (6, .int (nI 0)), (5, .ref q1), (0, .ref mo), (1, .int (nI i)), (2, .int a), (3, .int v), (4, .int w)]) C dX5_write_158 (by decide) rfl ?_
  refine j_iload C dX5_write_160 rfl ?_
  refine j_iload C dX5_write_162 rfl ?_
  refine j_icmpn_ge_t (tgt := 193) C dX5_write_164 (by decide) (by omega) (by omega) (by omega) ?_
  refine j_aload_n C dX5_write_193 rfl ?_
  refine j_iload_n C dX5_write_194 rfl ?_
  refine j_callVr C 6 (v := .int (nI n)) (w := (mW E x0 x1 x2 x3 x4 x5 mo ou (nI 0) re ak gv kn ro (LL ++ [q1]) (va_up ff q1 (.inl (E.2.1, 3, .inl (upd (upd (upd (fun _ => 0) 0 a) 1 v) 2 w)))))) (m_many_k l E A (by omega) hrai (pool_old hmai) (pool_keep hmai hq1 hfai) (by omega)) ok_X5_many w_970 (by decide) rfl rfl (Nat.le_of_ble_eq_true rfl) rfl rfl ⟨Nat.le_of_ble_eq_true rfl, Nat.le_of_ble_eq_true rfl⟩ dX5_write_195 ?_
  exact j_iret C hQ rfl dX5_write_198 ⟨Nat.le_of_ble_eq_true rfl, Nat.le_of_ble_eq_true rfl⟩ ⟨q1, _, hq1, rfl, rfl⟩
set_option maxHeartbeats 4000000 in
set_option maxRecDepth 100000 in
theorem g_write_k1 (l : Launch) (E : jE) (A : Nat → Prop) {x0 x1 x2 x3 x4 x5 : Nat × va_E} {mo ou : Nat} {th re ak gv kn : Int32} {ro : Nat → Option Nat} {LL : List Nat} {ff : Nat → va_E} {i : Nat} (hi : i < 9) {ai n : Nat} {h : Nat → Int32} (hrai : ro i = some ai) (hmai : ai ∈ LL) (hfai : ff ai = .inl (E.2.1, n, .inl h)) (hnai : n ≤ 24) {a v w : Int32} (hW : wrW a v w 0) (hM : wrM a v w 1) (ho : n + 1 ≤ 24) : jMet l yX5_write cX5_write 9 (some .int) 5 2 28 E A [.ref mo, .int (nI i), .int a, .int v, .int w] (mW E x0 x1 x2 x3 x4 x5 mo ou th re ak gv kn ro LL ff) (fun vv ww => ∃ (q p0 : Nat) (hh : Nat → Int32), q ∉ LL ∧ p0 ∉ LL ++ [q] ∧ vv = some (.int (nI (n + 1))) ∧ ww = (mW E x0 x1 x2 x3 x4 x5 mo ou (nI 0) re ak gv kn (va_up ro i (some p0)) ((LL ++ [q]) ++ [p0]) (va_up (va_up ff q (.inl (E.2.1, 3, .inl hh))) p0 (.inl (E.2.1, n + 1, .inl (wth h n a)))))) jNo := by
  refine jMet.intro' [(0, .ref mo), (1, .int (nI i)), (2, .int a), (3, .int v), (4, .int w)] (by decide) (Nat.le_of_ble_eq_true rfl) rfl ?_
  intro p e R s m args below meth c Q C hQ
  refine j_iconst (v := (nI 3)) C dX5_write_0 rfl ?_
  refine j_newIP C 3 w_72 rfl (by omega) (by omega) (by omega) dX5_write_1 (fun q1 hq1 => ?_)
  refine j_dup C dX5_write_3 rfl ?_
  refine j_iconst (v := (nI 0)) C dX5_write_4 rfl ?_
  refine j_iload_n C dX5_write_5 rfl ?_
  refine j_iastoreP (h' := upd (fun _ => 0) 0 a) C 0 pool_newm pool_new rfl (by omega) (by omega) dX5_write_6 rfl ?_
  refine j_eq (ws' := (mW E x0 x1 x2 x3 x4 x5 mo ou th re ak gv kn ro (LL ++ [q1]) (va_up ff q1 (.inl (E.2.1, 3, .inl (upd (fun _ => 0) 0 a)))))) rfl rfl (by rw [pool_up2]) ?_
  refine j_dup C dX5_write_7 rfl ?_
  refine j_iconst (v := (nI 1)) C dX5_write_8 rfl ?_
  refine j_iload_n C dX5_write_9 rfl ?_
  refine j_iastoreP (h' := upd (upd (fun _ => 0) 0 a) 1 v) C 1 pool_newm pool_new rfl (by omega) (by omega) dX5_write_10 rfl ?_
  refine j_eq (ws' := (mW E x0 x1 x2 x3 x4 x5 mo ou th re ak gv kn ro (LL ++ [q1]) (va_up ff q1 (.inl (E.2.1, 3, .inl (upd (upd (fun _ => 0) 0 a) 1 v)))))) rfl rfl (by rw [pool_up2]) ?_
  refine j_dup C dX5_write_11 rfl ?_
  refine j_iconst (v := (nI 2)) C dX5_write_12 rfl ?_
  refine j_iload C dX5_write_13 rfl ?_
  refine j_iastoreP (h' := upd (upd (upd (fun _ => 0) 0 a) 1 v) 2 w) C 2 pool_newm pool_new rfl (by omega) (by omega) dX5_write_15 rfl ?_
  refine j_eq (ws' := (mW E x0 x1 x2 x3 x4 x5 mo ou th re ak gv kn ro (LL ++ [q1]) (va_up ff q1 (.inl (E.2.1, 3, .inl (upd (upd (upd (fun _ => 0) 0 a) 1 v) 2 w)))))) rfl rfl (by rw [pool_up2]) ?_
  refine j_astore (lv' := [(5, .ref q1), (0, .ref mo), (1, .int (nI i)), (2, .int a), (3, .int v), (4, .int w)]) C dX5_write_16 (by decide) rfl ?_
  refine g_write_seg (W := 0) (M := 1) (by decide) C (by decide) (by decide) hW hM ?_
  refine j_aload_n C dX5_write_98 rfl ?_
  refine j_iload_n C dX5_write_99 rfl ?_
  refine j_callSr C (v := .int (nI 0)) (w := (mW E x0 x1 x2 x3 x4 x5 mo ou th re ak gv kn ro (LL ++ [q1]) (va_up ff q1 (.inl (E.2.1, 3, .inl (upd (upd (upd (fun _ => 0) 0 a) 1 v) 2 w)))))) (m_isNo_0 l E A (by omega)) ok_X5_isNo w_959 (by decide) rfl rfl (Nat.le_of_ble_eq_true rfl) ⟨Nat.le_of_ble_eq_true rfl, Nat.le_of_ble_eq_true rfl⟩ dX5_write_100 ?_
  refine j_iconst (v := (nI 1)) C dX5_write_103 rfl ?_
  refine j_callVr C 6 (v := .int (nI 0)) (w := (mW E x0 x1 x2 x3 x4 x5 mo ou (nI 0) re ak gv kn ro (LL ++ [q1]) (va_up ff q1 (.inl (E.2.1, 3, .inl (upd (upd (upd (fun _ => 0) 0 a) 1 v) 2 w)))))) (m_start_0 l E A) ok_X5_start w_962 (by decide) rfl rfl (Nat.le_of_ble_eq_true rfl) rfl rfl ⟨Nat.le_of_ble_eq_true rfl, Nat.le_of_ble_eq_true rfl⟩ dX5_write_104 ?_
  refine j_ifn_ne_f (tgt := 155) C dX5_write_107 (by decide) (by omega) (by omega) ?_
  refine j_aload_n C dX5_write_110 rfl ?_
  refine j_iload C dX5_write_111 rfl ?_
  refine j_iconst (v := (nI 2)) C dX5_write_113 rfl ?_
  refine j_callVr C 6 (v := .int (nI 0)) (w := (mW E x0 x1 x2 x3 x4 x5 mo ou (nI 0) re ak gv kn ro (LL ++ [q1]) (va_up ff q1 (.inl (E.2.1, 3, .inl (upd (upd (upd (fun _ => 0) 0 a) 1 v) 2 w)))))) (m_refuse_0 l E A) ok_X5_refuse w_966 (by decide) rfl rfl (Nat.le_of_ble_eq_true rfl) rfl rfl ⟨Nat.le_of_ble_eq_true rfl, Nat.le_of_ble_eq_true rfl⟩ dX5_write_114 ?_
  refine j_ifn_ne_f (tgt := 155) C dX5_write_117 (by decide) (by omega) (by omega) ?_
  refine j_aload_n C dX5_write_120 rfl ?_
  refine j_aload_n C dX5_write_121 rfl ?_
  refine j_get C 6 rfl inj_X5 rfl 1 (by decide) w_922 rfl dX5_write_122 ?_
  refine j_iload_n C dX5_write_125 rfl ?_
  refine j_aaload (v := .ref ai) C 7 i rfl rfl (by omega) (by decide) (by rw [show ro i = some ai from hrai]; rfl) dX5_write_126 ?_
  refine j_ifnull_f C dX5_write_127 ?_
  refine j_aload_n C dX5_write_130 rfl ?_
  refine j_iload_n C dX5_write_131 rfl ?_
  refine j_callVr C 6 (v := .int (nI n)) (w := (mW E x0 x1 x2 x3 x4 x5 mo ou (nI 0) re ak gv kn ro (LL ++ [q1]) (va_up ff q1 (.inl (E.2.1, 3, .inl (upd (upd (upd (fun _ => 0) 0 a) 1 v) 2 w)))))) (m_many_k l E A (by omega) hrai (pool_old hmai) (pool_keep hmai hq1 hfai) (by omega)) ok_X5_many w_970 (by decide) rfl rfl (Nat.le_of_ble_eq_true rfl) rfl rfl ⟨Nat.le_of_ble_eq_true rfl, Nat.le_of_ble_eq_true rfl⟩ dX5_write_132 ?_
  refine j_iload C dX5_write_135 rfl ?_
  refine j_iadd (z := (nI (n + 1))) C dX5_write_137 (nI_add _ _) ?_
  refine j_bipush (v := (nI 24)) C dX5_write_138 rfl ?_
  refine j_icmpn_le_t (tgt := 147) C dX5_write_140 (by decide) (by omega) (by omega) (by omega) ?_
  refine j_iconst (v := (nI 0)) C dX5_write_147 rfl ?_
  refine j_iconst (v := (nI 3)) C dX5_write_148 rfl ?_
  refine j_callVr C 6 (v := .int (nI 0)) (w := (mW E x0 x1 x2 x3 x4 x5 mo ou (nI 0) re ak gv kn ro (LL ++ [q1]) (va_up ff q1 (.inl (E.2.1, 3, .inl (upd (upd (upd (fun _ => 0) 0 a) 1 v) 2 w)))))) (m_refuse_0 l E A) ok_X5_refuse w_966 (by decide) rfl rfl (Nat.le_of_ble_eq_true rfl) rfl rfl ⟨Nat.le_of_ble_eq_true rfl, Nat.le_of_ble_eq_true rfl⟩ dX5_write_149 ?_
  refine j_ifn_eq_t (tgt := 157) C dX5_write_152 (by decide) (by omega) (by omega) ?_
  refine j_iconst (v := (nI 0)) C dX5_write_157 rfl ?_
  refine j_istore (lv' := [(8, .int (nI 0)), (7, .int (nI 1)), (6, .int (nI 0)), (5, .ref q1), (0, .ref mo), (1, .int (nI i)), (2, .int a), (3, .int v), (4, .int w)]) C dX5_write_158 (by decide) rfl ?_
  refine j_iload C dX5_write_160 rfl ?_
  refine j_iload C dX5_write_162 rfl ?_
  refine j_icmpn_ge_f (tgt := 193) C dX5_write_164 (by decide) (by omega) (by omega) (by omega) ?_
  refine j_aload_n C dX5_write_167 rfl ?_
  refine j_get C 6 rfl inj_X5 rfl 1 (by decide) w_922 rfl dX5_write_168 ?_
  refine j_iload_n C dX5_write_171 rfl ?_
  refine j_aload_n C dX5_write_172 rfl ?_
  refine j_get C 6 rfl inj_X5 rfl 1 (by decide) w_922 rfl dX5_write_173 ?_
  refine j_iload_n C dX5_write_176 rfl ?_
  refine j_aaload (v := .ref ai) C 7 i rfl rfl (by omega) (by decide) (by rw [show ro i = some ai from hrai]; rfl) dX5_write_177 ?_
  refine j_aload C dX5_write_178 rfl ?_
  refine j_iload C dX5_write_180 rfl ?_
  refine j_ialoadP (z := a) C 0 pool_newm pool_new rfl (by omega) (by omega) rfl dX5_write_182 ?_
  refine j_callSf C (n := n + 1) (h := wth h n a) (m_with l E A (pool_old hmai) (pool_keep hmai hq1 hfai) (by omega)) ok_X5_with w_974 (by decide) rfl rfl (Nat.le_of_ble_eq_true rfl) ⟨Nat.le_of_ble_eq_true rfl, Nat.le_of_ble_eq_true rfl⟩ dX5_write_183 (fun q2 hq2 => ?_)
  refine j_aastoreP (ws' := (mW E x0 x1 x2 x3 x4 x5 mo ou (nI 0) re ak gv kn (va_up ro i (some q2)) (LL ++ [q1] ++ [q2]) (va_up (va_up ff q1 (.inl (E.2.1, 3, .inl (upd (upd (upd (fun _ => 0) 0 a) 1 v) 2 w)))) q2 (.inl (E.2.1, n + 1, .inl (wth h n a)))))) C 7 i rfl pool_newm pool_new rfl (by omega) (by decide) dX5_write_186 rfl ?_
  refine j_iinc (lv' := [(8, .int (nI 1)), (7, .int (nI 1)), (6, .int (nI 0)), (5, .ref q1), (0, .ref mo), (1, .int (nI i)), (2, .int a), (3, .int v), (4, .int w)]) C dX5_write_187 rfl (nI_1 _) (by decide) rfl ?_
  refine j_goto (tgt := 160) C dX5_write_190 (by decide) ?_
  refine j_iload C dX5_write_160 rfl ?_
  refine j_iload C dX5_write_162 rfl ?_
  refine j_icmpn_ge_t (tgt := 193) C dX5_write_164 (by decide) (by omega) (by omega) (by omega) ?_
  refine j_aload_n C dX5_write_193 rfl ?_
  refine j_iload_n C dX5_write_194 rfl ?_
  refine j_callVr C 6 (v := .int (nI (n + 1))) (w := (mW E x0 x1 x2 x3 x4 x5 mo ou (nI 0) re ak gv kn (va_up ro i (some q2)) (LL ++ [q1] ++ [q2]) (va_up (va_up ff q1 (.inl (E.2.1, 3, .inl (upd (upd (upd (fun _ => 0) 0 a) 1 v) 2 w)))) q2 (.inl (E.2.1, n + 1, .inl (wth h n a)))))) (m_many_k l E A (by omega) (if_pos rfl) pool_newm pool_new (by omega)) ok_X5_many w_970 (by decide) rfl rfl (Nat.le_of_ble_eq_true rfl) rfl rfl ⟨Nat.le_of_ble_eq_true rfl, Nat.le_of_ble_eq_true rfl⟩ dX5_write_195 ?_
  exact j_iret C hQ rfl dX5_write_198 ⟨Nat.le_of_ble_eq_true rfl, Nat.le_of_ble_eq_true rfl⟩ ⟨q1, q2, _, hq1, hq2, rfl, rfl⟩
set_option maxHeartbeats 4000000 in
set_option maxRecDepth 100000 in
theorem g_write_k2 (l : Launch) (E : jE) (A : Nat → Prop) {x0 x1 x2 x3 x4 x5 : Nat × va_E} {mo ou : Nat} {th re ak gv kn : Int32} {ro : Nat → Option Nat} {LL : List Nat} {ff : Nat → va_E} {i : Nat} (hi : i < 9) {ai n : Nat} {h : Nat → Int32} (hrai : ro i = some ai) (hmai : ai ∈ LL) (hfai : ff ai = .inl (E.2.1, n, .inl h)) (hnai : n ≤ 24) {a v w : Int32} (hW : wrW a v w 0) (hM : wrM a v w 2) (ho : n + 2 ≤ 24) : jMet l yX5_write cX5_write 9 (some .int) 5 3 53 E A [.ref mo, .int (nI i), .int a, .int v, .int w] (mW E x0 x1 x2 x3 x4 x5 mo ou th re ak gv kn ro LL ff) (fun vv ww => ∃ (q p0 p1 : Nat) (hh : Nat → Int32), q ∉ LL ∧ p0 ∉ LL ++ [q] ∧ p1 ∉ (LL ++ [q]) ++ [p0] ∧ vv = some (.int (nI (n + 1 + 1))) ∧ ww = (mW E x0 x1 x2 x3 x4 x5 mo ou (nI 0) re ak gv kn (va_up (va_up ro i (some p0)) i (some p1)) (((LL ++ [q]) ++ [p0]) ++ [p1]) (va_up (va_up (va_up ff q (.inl (E.2.1, 3, .inl hh))) p0 (.inl (E.2.1, n + 1, .inl (wth h n a)))) p1 (.inl (E.2.1, n + 1 + 1, .inl (wth (wth h n a) (n + 1) v)))))) jNo := by
  refine jMet.intro' [(0, .ref mo), (1, .int (nI i)), (2, .int a), (3, .int v), (4, .int w)] (by decide) (Nat.le_of_ble_eq_true rfl) rfl ?_
  intro p e R s m args below meth c Q C hQ
  refine j_iconst (v := (nI 3)) C dX5_write_0 rfl ?_
  refine j_newIP C 3 w_72 rfl (by omega) (by omega) (by omega) dX5_write_1 (fun q1 hq1 => ?_)
  refine j_dup C dX5_write_3 rfl ?_
  refine j_iconst (v := (nI 0)) C dX5_write_4 rfl ?_
  refine j_iload_n C dX5_write_5 rfl ?_
  refine j_iastoreP (h' := upd (fun _ => 0) 0 a) C 0 pool_newm pool_new rfl (by omega) (by omega) dX5_write_6 rfl ?_
  refine j_eq (ws' := (mW E x0 x1 x2 x3 x4 x5 mo ou th re ak gv kn ro (LL ++ [q1]) (va_up ff q1 (.inl (E.2.1, 3, .inl (upd (fun _ => 0) 0 a)))))) rfl rfl (by rw [pool_up2]) ?_
  refine j_dup C dX5_write_7 rfl ?_
  refine j_iconst (v := (nI 1)) C dX5_write_8 rfl ?_
  refine j_iload_n C dX5_write_9 rfl ?_
  refine j_iastoreP (h' := upd (upd (fun _ => 0) 0 a) 1 v) C 1 pool_newm pool_new rfl (by omega) (by omega) dX5_write_10 rfl ?_
  refine j_eq (ws' := (mW E x0 x1 x2 x3 x4 x5 mo ou th re ak gv kn ro (LL ++ [q1]) (va_up ff q1 (.inl (E.2.1, 3, .inl (upd (upd (fun _ => 0) 0 a) 1 v)))))) rfl rfl (by rw [pool_up2]) ?_
  refine j_dup C dX5_write_11 rfl ?_
  refine j_iconst (v := (nI 2)) C dX5_write_12 rfl ?_
  refine j_iload C dX5_write_13 rfl ?_
  refine j_iastoreP (h' := upd (upd (upd (fun _ => 0) 0 a) 1 v) 2 w) C 2 pool_newm pool_new rfl (by omega) (by omega) dX5_write_15 rfl ?_
  refine j_eq (ws' := (mW E x0 x1 x2 x3 x4 x5 mo ou th re ak gv kn ro (LL ++ [q1]) (va_up ff q1 (.inl (E.2.1, 3, .inl (upd (upd (upd (fun _ => 0) 0 a) 1 v) 2 w)))))) rfl rfl (by rw [pool_up2]) ?_
  refine j_astore (lv' := [(5, .ref q1), (0, .ref mo), (1, .int (nI i)), (2, .int a), (3, .int v), (4, .int w)]) C dX5_write_16 (by decide) rfl ?_
  refine g_write_seg (W := 0) (M := 2) (by decide) C (by decide) (by decide) hW hM ?_
  refine j_aload_n C dX5_write_98 rfl ?_
  refine j_iload_n C dX5_write_99 rfl ?_
  refine j_callSr C (v := .int (nI 0)) (w := (mW E x0 x1 x2 x3 x4 x5 mo ou th re ak gv kn ro (LL ++ [q1]) (va_up ff q1 (.inl (E.2.1, 3, .inl (upd (upd (upd (fun _ => 0) 0 a) 1 v) 2 w)))))) (m_isNo_0 l E A (by omega)) ok_X5_isNo w_959 (by decide) rfl rfl (Nat.le_of_ble_eq_true rfl) ⟨Nat.le_of_ble_eq_true rfl, Nat.le_of_ble_eq_true rfl⟩ dX5_write_100 ?_
  refine j_iconst (v := (nI 1)) C dX5_write_103 rfl ?_
  refine j_callVr C 6 (v := .int (nI 0)) (w := (mW E x0 x1 x2 x3 x4 x5 mo ou (nI 0) re ak gv kn ro (LL ++ [q1]) (va_up ff q1 (.inl (E.2.1, 3, .inl (upd (upd (upd (fun _ => 0) 0 a) 1 v) 2 w)))))) (m_start_0 l E A) ok_X5_start w_962 (by decide) rfl rfl (Nat.le_of_ble_eq_true rfl) rfl rfl ⟨Nat.le_of_ble_eq_true rfl, Nat.le_of_ble_eq_true rfl⟩ dX5_write_104 ?_
  refine j_ifn_ne_f (tgt := 155) C dX5_write_107 (by decide) (by omega) (by omega) ?_
  refine j_aload_n C dX5_write_110 rfl ?_
  refine j_iload C dX5_write_111 rfl ?_
  refine j_iconst (v := (nI 2)) C dX5_write_113 rfl ?_
  refine j_callVr C 6 (v := .int (nI 0)) (w := (mW E x0 x1 x2 x3 x4 x5 mo ou (nI 0) re ak gv kn ro (LL ++ [q1]) (va_up ff q1 (.inl (E.2.1, 3, .inl (upd (upd (upd (fun _ => 0) 0 a) 1 v) 2 w)))))) (m_refuse_0 l E A) ok_X5_refuse w_966 (by decide) rfl rfl (Nat.le_of_ble_eq_true rfl) rfl rfl ⟨Nat.le_of_ble_eq_true rfl, Nat.le_of_ble_eq_true rfl⟩ dX5_write_114 ?_
  refine j_ifn_ne_f (tgt := 155) C dX5_write_117 (by decide) (by omega) (by omega) ?_
  refine j_aload_n C dX5_write_120 rfl ?_
  refine j_aload_n C dX5_write_121 rfl ?_
  refine j_get C 6 rfl inj_X5 rfl 1 (by decide) w_922 rfl dX5_write_122 ?_
  refine j_iload_n C dX5_write_125 rfl ?_
  refine j_aaload (v := .ref ai) C 7 i rfl rfl (by omega) (by decide) (by rw [show ro i = some ai from hrai]; rfl) dX5_write_126 ?_
  refine j_ifnull_f C dX5_write_127 ?_
  refine j_aload_n C dX5_write_130 rfl ?_
  refine j_iload_n C dX5_write_131 rfl ?_
  refine j_callVr C 6 (v := .int (nI n)) (w := (mW E x0 x1 x2 x3 x4 x5 mo ou (nI 0) re ak gv kn ro (LL ++ [q1]) (va_up ff q1 (.inl (E.2.1, 3, .inl (upd (upd (upd (fun _ => 0) 0 a) 1 v) 2 w)))))) (m_many_k l E A (by omega) hrai (pool_old hmai) (pool_keep hmai hq1 hfai) (by omega)) ok_X5_many w_970 (by decide) rfl rfl (Nat.le_of_ble_eq_true rfl) rfl rfl ⟨Nat.le_of_ble_eq_true rfl, Nat.le_of_ble_eq_true rfl⟩ dX5_write_132 ?_
  refine j_iload C dX5_write_135 rfl ?_
  refine j_iadd (z := (nI (n + 2))) C dX5_write_137 (nI_add _ _) ?_
  refine j_bipush (v := (nI 24)) C dX5_write_138 rfl ?_
  refine j_icmpn_le_t (tgt := 147) C dX5_write_140 (by decide) (by omega) (by omega) (by omega) ?_
  refine j_iconst (v := (nI 0)) C dX5_write_147 rfl ?_
  refine j_iconst (v := (nI 3)) C dX5_write_148 rfl ?_
  refine j_callVr C 6 (v := .int (nI 0)) (w := (mW E x0 x1 x2 x3 x4 x5 mo ou (nI 0) re ak gv kn ro (LL ++ [q1]) (va_up ff q1 (.inl (E.2.1, 3, .inl (upd (upd (upd (fun _ => 0) 0 a) 1 v) 2 w)))))) (m_refuse_0 l E A) ok_X5_refuse w_966 (by decide) rfl rfl (Nat.le_of_ble_eq_true rfl) rfl rfl ⟨Nat.le_of_ble_eq_true rfl, Nat.le_of_ble_eq_true rfl⟩ dX5_write_149 ?_
  refine j_ifn_eq_t (tgt := 157) C dX5_write_152 (by decide) (by omega) (by omega) ?_
  refine j_iconst (v := (nI 0)) C dX5_write_157 rfl ?_
  refine j_istore (lv' := [(8, .int (nI 0)), (7, .int (nI 2)), (6, .int (nI 0)), (5, .ref q1), (0, .ref mo), (1, .int (nI i)), (2, .int a), (3, .int v), (4, .int w)]) C dX5_write_158 (by decide) rfl ?_
  refine j_iload C dX5_write_160 rfl ?_
  refine j_iload C dX5_write_162 rfl ?_
  refine j_icmpn_ge_f (tgt := 193) C dX5_write_164 (by decide) (by omega) (by omega) (by omega) ?_
  refine j_aload_n C dX5_write_167 rfl ?_
  refine j_get C 6 rfl inj_X5 rfl 1 (by decide) w_922 rfl dX5_write_168 ?_
  refine j_iload_n C dX5_write_171 rfl ?_
  refine j_aload_n C dX5_write_172 rfl ?_
  refine j_get C 6 rfl inj_X5 rfl 1 (by decide) w_922 rfl dX5_write_173 ?_
  refine j_iload_n C dX5_write_176 rfl ?_
  refine j_aaload (v := .ref ai) C 7 i rfl rfl (by omega) (by decide) (by rw [show ro i = some ai from hrai]; rfl) dX5_write_177 ?_
  refine j_aload C dX5_write_178 rfl ?_
  refine j_iload C dX5_write_180 rfl ?_
  refine j_ialoadP (z := a) C 0 pool_newm pool_new rfl (by omega) (by omega) rfl dX5_write_182 ?_
  refine j_callSf C (n := n + 1) (h := wth h n a) (m_with l E A (pool_old hmai) (pool_keep hmai hq1 hfai) (by omega)) ok_X5_with w_974 (by decide) rfl rfl (Nat.le_of_ble_eq_true rfl) ⟨Nat.le_of_ble_eq_true rfl, Nat.le_of_ble_eq_true rfl⟩ dX5_write_183 (fun q2 hq2 => ?_)
  refine j_aastoreP (ws' := (mW E x0 x1 x2 x3 x4 x5 mo ou (nI 0) re ak gv kn (va_up ro i (some q2)) (LL ++ [q1] ++ [q2]) (va_up (va_up ff q1 (.inl (E.2.1, 3, .inl (upd (upd (upd (fun _ => 0) 0 a) 1 v) 2 w)))) q2 (.inl (E.2.1, n + 1, .inl (wth h n a)))))) C 7 i rfl pool_newm pool_new rfl (by omega) (by decide) dX5_write_186 rfl ?_
  refine j_iinc (lv' := [(8, .int (nI 1)), (7, .int (nI 2)), (6, .int (nI 0)), (5, .ref q1), (0, .ref mo), (1, .int (nI i)), (2, .int a), (3, .int v), (4, .int w)]) C dX5_write_187 rfl (nI_1 _) (by decide) rfl ?_
  refine j_goto (tgt := 160) C dX5_write_190 (by decide) ?_
  refine j_iload C dX5_write_160 rfl ?_
  refine j_iload C dX5_write_162 rfl ?_
  refine j_icmpn_ge_f (tgt := 193) C dX5_write_164 (by decide) (by omega) (by omega) (by omega) ?_
  refine j_aload_n C dX5_write_167 rfl ?_
  refine j_get C 6 rfl inj_X5 rfl 1 (by decide) w_922 rfl dX5_write_168 ?_
  refine j_iload_n C dX5_write_171 rfl ?_
  refine j_aload_n C dX5_write_172 rfl ?_
  refine j_get C 6 rfl inj_X5 rfl 1 (by decide) w_922 rfl dX5_write_173 ?_
  refine j_iload_n C dX5_write_176 rfl ?_
  refine j_aaload (v := .ref q2) C 7 i rfl rfl (by omega) (by decide) (by rw [show (va_up ro i (some q2)) i = some q2 from (if_pos rfl)]; rfl) dX5_write_177 ?_
  refine j_aload C dX5_write_178 rfl ?_
  refine j_iload C dX5_write_180 rfl ?_
  refine j_ialoadP (z := v) C 1 (pool_old pool_newm) (pool_keep pool_newm hq2 pool_new) rfl (by omega) (by omega) rfl dX5_write_182 ?_
  refine j_callSf C (n := n + 1 + 1) (h := wth (wth h n a) (n + 1) v) (m_with l E A pool_newm pool_new (by omega)) ok_X5_with w_974 (by decide) rfl rfl (Nat.le_of_ble_eq_true rfl) ⟨Nat.le_of_ble_eq_true rfl, Nat.le_of_ble_eq_true rfl⟩ dX5_write_183 (fun q3 hq3 => ?_)
  refine j_aastoreP (ws' := (mW E x0 x1 x2 x3 x4 x5 mo ou (nI 0) re ak gv kn (va_up (va_up ro i (some q2)) i (some q3)) (LL ++ [q1] ++ [q2] ++ [q3]) (va_up (va_up (va_up ff q1 (.inl (E.2.1, 3, .inl (upd (upd (upd (fun _ => 0) 0 a) 1 v) 2 w)))) q2 (.inl (E.2.1, n + 1, .inl (wth h n a)))) q3 (.inl (E.2.1, n + 1 + 1, .inl (wth (wth h n a) (n + 1) v)))))) C 7 i rfl pool_newm pool_new rfl (by omega) (by decide) dX5_write_186 rfl ?_
  refine j_iinc (lv' := [(8, .int (nI 2)), (7, .int (nI 2)), (6, .int (nI 0)), (5, .ref q1), (0, .ref mo), (1, .int (nI i)), (2, .int a), (3, .int v), (4, .int w)]) C dX5_write_187 rfl (nI_1 _) (by decide) rfl ?_
  refine j_goto (tgt := 160) C dX5_write_190 (by decide) ?_
  refine j_iload C dX5_write_160 rfl ?_
  refine j_iload C dX5_write_162 rfl ?_
  refine j_icmpn_ge_t (tgt := 193) C dX5_write_164 (by decide) (by omega) (by omega) (by omega) ?_
  refine j_aload_n C dX5_write_193 rfl ?_
  refine j_iload_n C dX5_write_194 rfl ?_
  refine j_callVr C 6 (v := .int (nI (n + 1 + 1))) (w := (mW E x0 x1 x2 x3 x4 x5 mo ou (nI 0) re ak gv kn (va_up (va_up ro i (some q2)) i (some q3)) (LL ++ [q1] ++ [q2] ++ [q3]) (va_up (va_up (va_up ff q1 (.inl (E.2.1, 3, .inl (upd (upd (upd (fun _ => 0) 0 a) 1 v) 2 w)))) q2 (.inl (E.2.1, n + 1, .inl (wth h n a)))) q3 (.inl (E.2.1, n + 1 + 1, .inl (wth (wth h n a) (n + 1) v)))))) (m_many_k l E A (by omega) (if_pos rfl) pool_newm pool_new (by omega)) ok_X5_many w_970 (by decide) rfl rfl (Nat.le_of_ble_eq_true rfl) rfl rfl ⟨Nat.le_of_ble_eq_true rfl, Nat.le_of_ble_eq_true rfl⟩ dX5_write_195 ?_
  exact j_iret C hQ rfl dX5_write_198 ⟨Nat.le_of_ble_eq_true rfl, Nat.le_of_ble_eq_true rfl⟩ ⟨q1, q2, q3, _, hq1, hq2, hq3, rfl, rfl⟩
set_option maxHeartbeats 4000000 in
set_option maxRecDepth 100000 in
theorem g_write_k3 (l : Launch) (E : jE) (A : Nat → Prop) {x0 x1 x2 x3 x4 x5 : Nat × va_E} {mo ou : Nat} {th re ak gv kn : Int32} {ro : Nat → Option Nat} {LL : List Nat} {ff : Nat → va_E} {i : Nat} (hi : i < 9) {ai n : Nat} {h : Nat → Int32} (hrai : ro i = some ai) (hmai : ai ∈ LL) (hfai : ff ai = .inl (E.2.1, n, .inl h)) (hnai : n ≤ 24) {a v w : Int32} (hW : wrW a v w 0) (hM : wrM a v w 3) (ho : n + 3 ≤ 24) : jMet l yX5_write cX5_write 9 (some .int) 5 4 78 E A [.ref mo, .int (nI i), .int a, .int v, .int w] (mW E x0 x1 x2 x3 x4 x5 mo ou th re ak gv kn ro LL ff) (fun vv ww => ∃ (q p0 p1 p2 : Nat) (hh : Nat → Int32), q ∉ LL ∧ p0 ∉ LL ++ [q] ∧ p1 ∉ (LL ++ [q]) ++ [p0] ∧ p2 ∉ ((LL ++ [q]) ++ [p0]) ++ [p1] ∧ vv = some (.int (nI (n + 1 + 1 + 1))) ∧ ww = (mW E x0 x1 x2 x3 x4 x5 mo ou (nI 0) re ak gv kn (va_up (va_up (va_up ro i (some p0)) i (some p1)) i (some p2)) ((((LL ++ [q]) ++ [p0]) ++ [p1]) ++ [p2]) (va_up (va_up (va_up (va_up ff q (.inl (E.2.1, 3, .inl hh))) p0 (.inl (E.2.1, n + 1, .inl (wth h n a)))) p1 (.inl (E.2.1, n + 1 + 1, .inl (wth (wth h n a) (n + 1) v)))) p2 (.inl (E.2.1, n + 1 + 1 + 1, .inl (wth (wth (wth h n a) (n + 1) v) (n + 1 + 1) w)))))) jNo := by
  refine jMet.intro' [(0, .ref mo), (1, .int (nI i)), (2, .int a), (3, .int v), (4, .int w)] (by decide) (Nat.le_of_ble_eq_true rfl) rfl ?_
  intro p e R s m args below meth c Q C hQ
  refine j_iconst (v := (nI 3)) C dX5_write_0 rfl ?_
  refine j_newIP C 3 w_72 rfl (by omega) (by omega) (by omega) dX5_write_1 (fun q1 hq1 => ?_)
  refine j_dup C dX5_write_3 rfl ?_
  refine j_iconst (v := (nI 0)) C dX5_write_4 rfl ?_
  refine j_iload_n C dX5_write_5 rfl ?_
  refine j_iastoreP (h' := upd (fun _ => 0) 0 a) C 0 pool_newm pool_new rfl (by omega) (by omega) dX5_write_6 rfl ?_
  refine j_eq (ws' := (mW E x0 x1 x2 x3 x4 x5 mo ou th re ak gv kn ro (LL ++ [q1]) (va_up ff q1 (.inl (E.2.1, 3, .inl (upd (fun _ => 0) 0 a)))))) rfl rfl (by rw [pool_up2]) ?_
  refine j_dup C dX5_write_7 rfl ?_
  refine j_iconst (v := (nI 1)) C dX5_write_8 rfl ?_
  refine j_iload_n C dX5_write_9 rfl ?_
  refine j_iastoreP (h' := upd (upd (fun _ => 0) 0 a) 1 v) C 1 pool_newm pool_new rfl (by omega) (by omega) dX5_write_10 rfl ?_
  refine j_eq (ws' := (mW E x0 x1 x2 x3 x4 x5 mo ou th re ak gv kn ro (LL ++ [q1]) (va_up ff q1 (.inl (E.2.1, 3, .inl (upd (upd (fun _ => 0) 0 a) 1 v)))))) rfl rfl (by rw [pool_up2]) ?_
  refine j_dup C dX5_write_11 rfl ?_
  refine j_iconst (v := (nI 2)) C dX5_write_12 rfl ?_
  refine j_iload C dX5_write_13 rfl ?_
  refine j_iastoreP (h' := upd (upd (upd (fun _ => 0) 0 a) 1 v) 2 w) C 2 pool_newm pool_new rfl (by omega) (by omega) dX5_write_15 rfl ?_
  refine j_eq (ws' := (mW E x0 x1 x2 x3 x4 x5 mo ou th re ak gv kn ro (LL ++ [q1]) (va_up ff q1 (.inl (E.2.1, 3, .inl (upd (upd (upd (fun _ => 0) 0 a) 1 v) 2 w)))))) rfl rfl (by rw [pool_up2]) ?_
  refine j_astore (lv' := [(5, .ref q1), (0, .ref mo), (1, .int (nI i)), (2, .int a), (3, .int v), (4, .int w)]) C dX5_write_16 (by decide) rfl ?_
  refine g_write_seg (W := 0) (M := 3) (by decide) C (by decide) (by decide) hW hM ?_
  refine j_aload_n C dX5_write_98 rfl ?_
  refine j_iload_n C dX5_write_99 rfl ?_
  refine j_callSr C (v := .int (nI 0)) (w := (mW E x0 x1 x2 x3 x4 x5 mo ou th re ak gv kn ro (LL ++ [q1]) (va_up ff q1 (.inl (E.2.1, 3, .inl (upd (upd (upd (fun _ => 0) 0 a) 1 v) 2 w)))))) (m_isNo_0 l E A (by omega)) ok_X5_isNo w_959 (by decide) rfl rfl (Nat.le_of_ble_eq_true rfl) ⟨Nat.le_of_ble_eq_true rfl, Nat.le_of_ble_eq_true rfl⟩ dX5_write_100 ?_
  refine j_iconst (v := (nI 1)) C dX5_write_103 rfl ?_
  refine j_callVr C 6 (v := .int (nI 0)) (w := (mW E x0 x1 x2 x3 x4 x5 mo ou (nI 0) re ak gv kn ro (LL ++ [q1]) (va_up ff q1 (.inl (E.2.1, 3, .inl (upd (upd (upd (fun _ => 0) 0 a) 1 v) 2 w)))))) (m_start_0 l E A) ok_X5_start w_962 (by decide) rfl rfl (Nat.le_of_ble_eq_true rfl) rfl rfl ⟨Nat.le_of_ble_eq_true rfl, Nat.le_of_ble_eq_true rfl⟩ dX5_write_104 ?_
  refine j_ifn_ne_f (tgt := 155) C dX5_write_107 (by decide) (by omega) (by omega) ?_
  refine j_aload_n C dX5_write_110 rfl ?_
  refine j_iload C dX5_write_111 rfl ?_
  refine j_iconst (v := (nI 2)) C dX5_write_113 rfl ?_
  refine j_callVr C 6 (v := .int (nI 0)) (w := (mW E x0 x1 x2 x3 x4 x5 mo ou (nI 0) re ak gv kn ro (LL ++ [q1]) (va_up ff q1 (.inl (E.2.1, 3, .inl (upd (upd (upd (fun _ => 0) 0 a) 1 v) 2 w)))))) (m_refuse_0 l E A) ok_X5_refuse w_966 (by decide) rfl rfl (Nat.le_of_ble_eq_true rfl) rfl rfl ⟨Nat.le_of_ble_eq_true rfl, Nat.le_of_ble_eq_true rfl⟩ dX5_write_114 ?_
  refine j_ifn_ne_f (tgt := 155) C dX5_write_117 (by decide) (by omega) (by omega) ?_
  refine j_aload_n C dX5_write_120 rfl ?_
  refine j_aload_n C dX5_write_121 rfl ?_
  refine j_get C 6 rfl inj_X5 rfl 1 (by decide) w_922 rfl dX5_write_122 ?_
  refine j_iload_n C dX5_write_125 rfl ?_
  refine j_aaload (v := .ref ai) C 7 i rfl rfl (by omega) (by decide) (by rw [show ro i = some ai from hrai]; rfl) dX5_write_126 ?_
  refine j_ifnull_f C dX5_write_127 ?_
  refine j_aload_n C dX5_write_130 rfl ?_
  refine j_iload_n C dX5_write_131 rfl ?_
  refine j_callVr C 6 (v := .int (nI n)) (w := (mW E x0 x1 x2 x3 x4 x5 mo ou (nI 0) re ak gv kn ro (LL ++ [q1]) (va_up ff q1 (.inl (E.2.1, 3, .inl (upd (upd (upd (fun _ => 0) 0 a) 1 v) 2 w)))))) (m_many_k l E A (by omega) hrai (pool_old hmai) (pool_keep hmai hq1 hfai) (by omega)) ok_X5_many w_970 (by decide) rfl rfl (Nat.le_of_ble_eq_true rfl) rfl rfl ⟨Nat.le_of_ble_eq_true rfl, Nat.le_of_ble_eq_true rfl⟩ dX5_write_132 ?_
  refine j_iload C dX5_write_135 rfl ?_
  refine j_iadd (z := (nI (n + 3))) C dX5_write_137 (nI_add _ _) ?_
  refine j_bipush (v := (nI 24)) C dX5_write_138 rfl ?_
  refine j_icmpn_le_t (tgt := 147) C dX5_write_140 (by decide) (by omega) (by omega) (by omega) ?_
  refine j_iconst (v := (nI 0)) C dX5_write_147 rfl ?_
  refine j_iconst (v := (nI 3)) C dX5_write_148 rfl ?_
  refine j_callVr C 6 (v := .int (nI 0)) (w := (mW E x0 x1 x2 x3 x4 x5 mo ou (nI 0) re ak gv kn ro (LL ++ [q1]) (va_up ff q1 (.inl (E.2.1, 3, .inl (upd (upd (upd (fun _ => 0) 0 a) 1 v) 2 w)))))) (m_refuse_0 l E A) ok_X5_refuse w_966 (by decide) rfl rfl (Nat.le_of_ble_eq_true rfl) rfl rfl ⟨Nat.le_of_ble_eq_true rfl, Nat.le_of_ble_eq_true rfl⟩ dX5_write_149 ?_
  refine j_ifn_eq_t (tgt := 157) C dX5_write_152 (by decide) (by omega) (by omega) ?_
  refine j_iconst (v := (nI 0)) C dX5_write_157 rfl ?_
  refine j_istore (lv' := [(8, .int (nI 0)), (7, .int (nI 3)), (6, .int (nI 0)), (5, .ref q1), (0, .ref mo), (1, .int (nI i)), (2, .int a), (3, .int v), (4, .int w)]) C dX5_write_158 (by decide) rfl ?_
  refine j_iload C dX5_write_160 rfl ?_
  refine j_iload C dX5_write_162 rfl ?_
  refine j_icmpn_ge_f (tgt := 193) C dX5_write_164 (by decide) (by omega) (by omega) (by omega) ?_
  refine j_aload_n C dX5_write_167 rfl ?_
  refine j_get C 6 rfl inj_X5 rfl 1 (by decide) w_922 rfl dX5_write_168 ?_
  refine j_iload_n C dX5_write_171 rfl ?_
  refine j_aload_n C dX5_write_172 rfl ?_
  refine j_get C 6 rfl inj_X5 rfl 1 (by decide) w_922 rfl dX5_write_173 ?_
  refine j_iload_n C dX5_write_176 rfl ?_
  refine j_aaload (v := .ref ai) C 7 i rfl rfl (by omega) (by decide) (by rw [show ro i = some ai from hrai]; rfl) dX5_write_177 ?_
  refine j_aload C dX5_write_178 rfl ?_
  refine j_iload C dX5_write_180 rfl ?_
  refine j_ialoadP (z := a) C 0 pool_newm pool_new rfl (by omega) (by omega) rfl dX5_write_182 ?_
  refine j_callSf C (n := n + 1) (h := wth h n a) (m_with l E A (pool_old hmai) (pool_keep hmai hq1 hfai) (by omega)) ok_X5_with w_974 (by decide) rfl rfl (Nat.le_of_ble_eq_true rfl) ⟨Nat.le_of_ble_eq_true rfl, Nat.le_of_ble_eq_true rfl⟩ dX5_write_183 (fun q2 hq2 => ?_)
  refine j_aastoreP (ws' := (mW E x0 x1 x2 x3 x4 x5 mo ou (nI 0) re ak gv kn (va_up ro i (some q2)) (LL ++ [q1] ++ [q2]) (va_up (va_up ff q1 (.inl (E.2.1, 3, .inl (upd (upd (upd (fun _ => 0) 0 a) 1 v) 2 w)))) q2 (.inl (E.2.1, n + 1, .inl (wth h n a)))))) C 7 i rfl pool_newm pool_new rfl (by omega) (by decide) dX5_write_186 rfl ?_
  refine j_iinc (lv' := [(8, .int (nI 1)), (7, .int (nI 3)), (6, .int (nI 0)), (5, .ref q1), (0, .ref mo), (1, .int (nI i)), (2, .int a), (3, .int v), (4, .int w)]) C dX5_write_187 rfl (nI_1 _) (by decide) rfl ?_
  refine j_goto (tgt := 160) C dX5_write_190 (by decide) ?_
  refine j_iload C dX5_write_160 rfl ?_
  refine j_iload C dX5_write_162 rfl ?_
  refine j_icmpn_ge_f (tgt := 193) C dX5_write_164 (by decide) (by omega) (by omega) (by omega) ?_
  refine j_aload_n C dX5_write_167 rfl ?_
  refine j_get C 6 rfl inj_X5 rfl 1 (by decide) w_922 rfl dX5_write_168 ?_
  refine j_iload_n C dX5_write_171 rfl ?_
  refine j_aload_n C dX5_write_172 rfl ?_
  refine j_get C 6 rfl inj_X5 rfl 1 (by decide) w_922 rfl dX5_write_173 ?_
  refine j_iload_n C dX5_write_176 rfl ?_
  refine j_aaload (v := .ref q2) C 7 i rfl rfl (by omega) (by decide) (by rw [show (va_up ro i (some q2)) i = some q2 from (if_pos rfl)]; rfl) dX5_write_177 ?_
  refine j_aload C dX5_write_178 rfl ?_
  refine j_iload C dX5_write_180 rfl ?_
  refine j_ialoadP (z := v) C 1 (pool_old pool_newm) (pool_keep pool_newm hq2 pool_new) rfl (by omega) (by omega) rfl dX5_write_182 ?_
  refine j_callSf C (n := n + 1 + 1) (h := wth (wth h n a) (n + 1) v) (m_with l E A pool_newm pool_new (by omega)) ok_X5_with w_974 (by decide) rfl rfl (Nat.le_of_ble_eq_true rfl) ⟨Nat.le_of_ble_eq_true rfl, Nat.le_of_ble_eq_true rfl⟩ dX5_write_183 (fun q3 hq3 => ?_)
  refine j_aastoreP (ws' := (mW E x0 x1 x2 x3 x4 x5 mo ou (nI 0) re ak gv kn (va_up (va_up ro i (some q2)) i (some q3)) (LL ++ [q1] ++ [q2] ++ [q3]) (va_up (va_up (va_up ff q1 (.inl (E.2.1, 3, .inl (upd (upd (upd (fun _ => 0) 0 a) 1 v) 2 w)))) q2 (.inl (E.2.1, n + 1, .inl (wth h n a)))) q3 (.inl (E.2.1, n + 1 + 1, .inl (wth (wth h n a) (n + 1) v)))))) C 7 i rfl pool_newm pool_new rfl (by omega) (by decide) dX5_write_186 rfl ?_
  refine j_iinc (lv' := [(8, .int (nI 2)), (7, .int (nI 3)), (6, .int (nI 0)), (5, .ref q1), (0, .ref mo), (1, .int (nI i)), (2, .int a), (3, .int v), (4, .int w)]) C dX5_write_187 rfl (nI_1 _) (by decide) rfl ?_
  refine j_goto (tgt := 160) C dX5_write_190 (by decide) ?_
  refine j_iload C dX5_write_160 rfl ?_
  refine j_iload C dX5_write_162 rfl ?_
  refine j_icmpn_ge_f (tgt := 193) C dX5_write_164 (by decide) (by omega) (by omega) (by omega) ?_
  refine j_aload_n C dX5_write_167 rfl ?_
  refine j_get C 6 rfl inj_X5 rfl 1 (by decide) w_922 rfl dX5_write_168 ?_
  refine j_iload_n C dX5_write_171 rfl ?_
  refine j_aload_n C dX5_write_172 rfl ?_
  refine j_get C 6 rfl inj_X5 rfl 1 (by decide) w_922 rfl dX5_write_173 ?_
  refine j_iload_n C dX5_write_176 rfl ?_
  refine j_aaload (v := .ref q3) C 7 i rfl rfl (by omega) (by decide) (by rw [show (va_up (va_up ro i (some q2)) i (some q3)) i = some q3 from (if_pos rfl)]; rfl) dX5_write_177 ?_
  refine j_aload C dX5_write_178 rfl ?_
  refine j_iload C dX5_write_180 rfl ?_
  refine j_ialoadP (z := w) C 2 (pool_old (pool_old pool_newm)) (pool_keep (pool_old pool_newm) hq3 (pool_keep pool_newm hq2 pool_new)) rfl (by omega) (by omega) rfl dX5_write_182 ?_
  refine j_callSf C (n := n + 1 + 1 + 1) (h := wth (wth (wth h n a) (n + 1) v) (n + 1 + 1) w) (m_with l E A pool_newm pool_new (by omega)) ok_X5_with w_974 (by decide) rfl rfl (Nat.le_of_ble_eq_true rfl) ⟨Nat.le_of_ble_eq_true rfl, Nat.le_of_ble_eq_true rfl⟩ dX5_write_183 (fun q4 hq4 => ?_)
  refine j_aastoreP (ws' := (mW E x0 x1 x2 x3 x4 x5 mo ou (nI 0) re ak gv kn (va_up (va_up (va_up ro i (some q2)) i (some q3)) i (some q4)) (LL ++ [q1] ++ [q2] ++ [q3] ++ [q4]) (va_up (va_up (va_up (va_up ff q1 (.inl (E.2.1, 3, .inl (upd (upd (upd (fun _ => 0) 0 a) 1 v) 2 w)))) q2 (.inl (E.2.1, n + 1, .inl (wth h n a)))) q3 (.inl (E.2.1, n + 1 + 1, .inl (wth (wth h n a) (n + 1) v)))) q4 (.inl (E.2.1, n + 1 + 1 + 1, .inl (wth (wth (wth h n a) (n + 1) v) (n + 1 + 1) w)))))) C 7 i rfl pool_newm pool_new rfl (by omega) (by decide) dX5_write_186 rfl ?_
  refine j_iinc (lv' := [(8, .int (nI 3)), (7, .int (nI 3)), (6, .int (nI 0)), (5, .ref q1), (0, .ref mo), (1, .int (nI i)), (2, .int a), (3, .int v), (4, .int w)]) C dX5_write_187 rfl (nI_1 _) (by decide) rfl ?_
  refine j_goto (tgt := 160) C dX5_write_190 (by decide) ?_
  refine j_iload C dX5_write_160 rfl ?_
  refine j_iload C dX5_write_162 rfl ?_
  refine j_icmpn_ge_t (tgt := 193) C dX5_write_164 (by decide) (by omega) (by omega) (by omega) ?_
  refine j_aload_n C dX5_write_193 rfl ?_
  refine j_iload_n C dX5_write_194 rfl ?_
  refine j_callVr C 6 (v := .int (nI (n + 1 + 1 + 1))) (w := (mW E x0 x1 x2 x3 x4 x5 mo ou (nI 0) re ak gv kn (va_up (va_up (va_up ro i (some q2)) i (some q3)) i (some q4)) (LL ++ [q1] ++ [q2] ++ [q3] ++ [q4]) (va_up (va_up (va_up (va_up ff q1 (.inl (E.2.1, 3, .inl (upd (upd (upd (fun _ => 0) 0 a) 1 v) 2 w)))) q2 (.inl (E.2.1, n + 1, .inl (wth h n a)))) q3 (.inl (E.2.1, n + 1 + 1, .inl (wth (wth h n a) (n + 1) v)))) q4 (.inl (E.2.1, n + 1 + 1 + 1, .inl (wth (wth (wth h n a) (n + 1) v) (n + 1 + 1) w)))))) (m_many_k l E A (by omega) (if_pos rfl) pool_newm pool_new (by omega)) ok_X5_many w_970 (by decide) rfl rfl (Nat.le_of_ble_eq_true rfl) rfl rfl ⟨Nat.le_of_ble_eq_true rfl, Nat.le_of_ble_eq_true rfl⟩ dX5_write_195 ?_
  exact j_iret C hQ rfl dX5_write_198 ⟨Nat.le_of_ble_eq_true rfl, Nat.le_of_ble_eq_true rfl⟩ ⟨q1, q2, q3, q4, _, hq1, hq2, hq3, hq4, rfl, rfl⟩
