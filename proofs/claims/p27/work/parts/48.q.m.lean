/-! contracts, laid by program (wip/gen) -/
theorem nI_s (k : Nat) : nI k + 1 = nI (k + 1) := nI_1 k
def mI (k : Nat) : Int32 := nI k - nI 2
theorem mI_s (k : Nat) : mI k + 1 = mI (k + 1) := by
  show nI k - nI 2 + 1 = nI (k + 1) - nI 2
  rw [← nI_s k, Int32.sub_eq_add_neg, Int32.sub_eq_add_neg, Int32.add_assoc, Int32.add_assoc, Int32.add_comm (-nI 2) 1]
theorem mI_in : ∀ {k : Nat}, k < 29 → ¬ nI 26 < mI k := by
  intro k h
  have : ∀ k : Nat, k < 29 → ¬ nI 26 < mI k := by decide
  exact this k h
theorem mI_end {k : Nat} (h : k = 29) : nI 26 < mI k := by rw [h]; decide
def P01 (x : Int32) : Prop := x = 0 ∨ x = 1
theorem b01 (c : Prop) [Decidable c] : P01 (bI c) := by
  by_cases h : c
  · exact Or.inr (bI_t h)
  · exact Or.inl (bI_f h)
theorem nar01 {x : Int32} (h : P01 x) : narrow .boolean (.int x) = .int x := by
  rcases h with rfl | rfl <;> rfl
abbrev tB (E : jE) (t sz sg la : Nat) (z g : Nat → Int32) (rest : va_W) : Option Value → va_W → Prop := fun vv ww => ∃ (x : Int32) (bb : Nat → Int32), P01 x ∧ vv = some (.int x) ∧ ww = tW E t sz sg la z g bb rest
abbrev pP (L : Int32) (k : Nat) : Prop := ¬ (mI k).toInt64 < 0 ∧ ¬ L.toInt64 ≤ (mI k).toInt64
abbrev pS (L : Int32) (k j : Nat) : Prop := ¬ (mI k).toInt64 < 0 ∧ ¬ (mI j).toInt64 < (mI k).toInt64 ∧ ¬ L.toInt64 < (mI j).toInt64
abbrev pT (L : Int32) (k j : Nat) : Prop := ¬ (mI k).toInt64 < 0 ∧ ¬ (mI j).toInt64 < 0 ∧ ¬ L.toInt64 < 0 ∧ ¬ L.toInt64 - (mI j).toInt64 < (mI k).toInt64
def iC (f : Nat → Bool) : Nat → Int32
  | 0 => nI 0
  | k + 1 => if f k then iC f k + 1 else iC f k
def iD (f : Nat → Nat → Bool) : Nat → Int32
  | 0 => nI 0
  | k + 1 => iD f k + iC (f k) 29
theorem iC_y {f : Nat → Bool} {k : Nat} (h : f k = true) : iC f (k + 1) = iC f k + 1 := if_pos h
theorem iC_n {f : Nat → Bool} {k : Nat} (h : ¬ f k = true) : iC f (k + 1) = iC f k := if_neg h
abbrev fP (L : Int32) : Nat → Bool := fun k => decide (pP L k)
abbrev fS (L : Int32) : Nat → Nat → Bool := fun k j => decide (pS L k j)
abbrev fT (L : Int32) : Nat → Nat → Bool := fun k j => decide (pT L k j)
def insV (L : Int32) (w : Nat) : Int32 := if w = 0 then iC (fP L) 29 else if w = 1 then iD (fS L) 29 else iD (fT L) 29
set_option maxHeartbeats 4000000 in
set_option maxRecDepth 100000 in
theorem c_countPlaces (l : Launch) (E : jE) (A : Nat → Prop) {ws : va_W} {x : Int32} : jMet l yX0_countPlaces cX0_countPlaces 3 (some .int) 1 0 0 E A [.int x] ws (jR (some (.int (iC (fP x) 29))) ws) jNo := by
  refine jMet.intro' [(0, .int x)] (by decide) (Nat.le_of_ble_eq_true rfl) rfl ?_
  intro p e R s m args below meth c Q C hQ
  refine j_iconst (v := (nI 0)) C dX0_countPlaces_0 rfl ?_
  refine j_istore_n (lv' := [(1, .int (nI 0)), (0, .int x)]) C dX0_countPlaces_1 (by decide) rfl ?_
  refine j_bipush (v := (-2)) C dX0_countPlaces_2 rfl ?_
  refine j_istore_n (lv' := [(2, .int (-2)), (1, .int (nI 0)), (0, .int x)]) C dX0_countPlaces_4 (by decide) rfl ?_
  have L5 : ∀ (r k : Nat), k + r = 29 → jJ p l e R s m args below meth c E A 3 Q 0 0 5 [(2, .int (mI k)), (1, .int (iC (fP x) k)), (0, .int x)] [] ws := by
    intro r
    induction r with
    | zero =>
      intro k  hk5 
      refine j_iload_n C dX0_countPlaces_5 rfl ?_
      refine j_bipush (v := (nI 26)) C dX0_countPlaces_6 rfl ?_
      refine j_icmp_gt_t (tgt := 30) C dX0_countPlaces_8 (by decide) (mI_end (by omega)) ?_
      have ek : 29 = k := by omega
      subst ek
      refine j_iload_n C dX0_countPlaces_30 rfl ?_
      exact j_iret C hQ rfl dX0_countPlaces_31 ⟨Nat.le_of_ble_eq_true rfl, Nat.le_of_ble_eq_true rfl⟩ ⟨rfl, rfl⟩
    | succ r ih5 =>
      intro k  hk5 
      refine j_iload_n C dX0_countPlaces_5 rfl ?_
      refine j_bipush (v := (nI 26)) C dX0_countPlaces_6 rfl ?_
      refine j_icmp_gt_f (tgt := 30) C dX0_countPlaces_8 (by decide) (mI_in (by omega)) ?_
      refine j_iload_n C dX0_countPlaces_11 rfl ?_
      refine j_i2l (v := (mI k).toInt64) C dX0_countPlaces_12 rfl ?_
      refine j_iload_n C dX0_countPlaces_13 rfl ?_
      refine j_i2l (v := x.toInt64) C dX0_countPlaces_14 rfl ?_
      refine j_callSr C (v := .int (bI (¬ ((mI k).toInt64) < 0 ∧ ¬ x.toInt64 ≤ ((mI k).toInt64)))) (w := ws) (c_holdsPlace l E A) ok_X0_holdsPlace w_474 (by decide) rfl rfl (Nat.le_of_ble_eq_true rfl) ⟨Nat.le_of_ble_eq_true rfl, Nat.le_of_ble_eq_true rfl⟩ dX0_countPlaces_15 ?_
      refine j_ifb_eq (tgt := 24) C dX0_countPlaces_18 (by decide) (fun h18 => ?_) (fun h18 => ?_)
      · skip
        refine j_iinc (lv' := [(2, .int (mI (k + 1))), (1, .int (iC (fP x) k)), (0, .int x)]) C dX0_countPlaces_24 rfl (mI_s _) (by decide) rfl ?_
        refine j_goto (tgt := 5) C dX0_countPlaces_27 (by decide) ?_
        refine j_eq (lv' := [(2, .int (mI (k + 1))), (1, .int (iC (fP x) (k + 1))), (0, .int x)]) (by rw [iC_n (f := fP x) (fun q => h18 (of_decide_eq_true q))]) rfl rfl ?_
        refine j_lv (lv' := [(2, .int (mI (k + 1))), (1, .int (iC (fP x) (k + 1))), (0, .int x)]) (by simp only [List.mem_cons, List.not_mem_nil, or_false, forall_eq_or_imp, forall_eq, true_or, or_true, and_self, Nat.add_zero]) ?_
        exact ih5 (k + 1)  (by omega)
      · skip
        refine j_iinc (lv' := [(1, .int ((iC (fP x) k) + 1)), (2, .int (mI k)), (0, .int x)]) C dX0_countPlaces_21 rfl rfl (by decide) rfl ?_
        refine j_iinc (lv' := [(2, .int (mI (k + 1))), (1, .int ((iC (fP x) k) + 1)), (0, .int x)]) C dX0_countPlaces_24 rfl (mI_s _) (by decide) rfl ?_
        refine j_goto (tgt := 5) C dX0_countPlaces_27 (by decide) ?_
        refine j_eq (lv' := [(2, .int (mI (k + 1))), (1, .int (iC (fP x) (k + 1))), (0, .int x)]) (by rw [iC_y (f := fP x) (decide_eq_true h18)]) rfl rfl ?_
        refine j_lv (lv' := [(2, .int (mI (k + 1))), (1, .int (iC (fP x) (k + 1))), (0, .int x)]) (by simp only [List.mem_cons, List.not_mem_nil, or_false, forall_eq_or_imp, forall_eq, true_or, or_true, and_self, Nat.add_zero]) ?_
        exact ih5 (k + 1)  (by omega)
  refine j_eq (lv' := [(2, .int (mI 0)), (1, .int (nI 0)), (0, .int x)]) rfl rfl rfl ?_
  refine j_eq (lv' := [(2, .int (mI 0)), (1, .int (iC (fP x) 0)), (0, .int x)]) rfl rfl rfl ?_
  refine j_lv (lv' := [(2, .int (mI 0)), (1, .int (iC (fP x) 0)), (0, .int x)]) (by simp only [List.mem_cons, List.not_mem_nil, or_false, forall_eq_or_imp, forall_eq, true_or, or_true, and_self, Nat.add_zero]) ?_
  exact L5 29 0  (by omega)
set_option maxHeartbeats 4000000 in
set_option maxRecDepth 100000 in
theorem c_countSpans (l : Launch) (E : jE) (A : Nat → Prop) {ws : va_W} {x : Int32} : jMet l yX0_countSpans cX0_countSpans 4 (some .int) 1 0 0 E A [.int x] ws (jR (some (.int (iD (fS x) 29))) ws) jNo := by
  refine jMet.intro' [(0, .int x)] (by decide) (Nat.le_of_ble_eq_true rfl) rfl ?_
  intro p e R s m args below meth c Q C hQ
  refine j_iconst (v := (nI 0)) C dX0_countSpans_0 rfl ?_
  refine j_istore_n (lv' := [(1, .int (nI 0)), (0, .int x)]) C dX0_countSpans_1 (by decide) rfl ?_
  refine j_bipush (v := (-2)) C dX0_countSpans_2 rfl ?_
  refine j_istore_n (lv' := [(2, .int (-2)), (1, .int (nI 0)), (0, .int x)]) C dX0_countSpans_4 (by decide) rfl ?_
  have L5 : ∀ (r k : Nat), k + r = 29 → jJ p l e R s m args below meth c E A 4 Q 0 0 5 [(2, .int (mI k)), (1, .int (iD (fS x) k)), (0, .int x)] [] ws := by
    intro r
    induction r with
    | zero =>
      intro k  hk5 
      refine j_iload_n C dX0_countSpans_5 rfl ?_
      refine j_bipush (v := (nI 26)) C dX0_countSpans_6 rfl ?_
      refine j_icmp_gt_t (tgt := 47) C dX0_countSpans_8 (by decide) (mI_end (by omega)) ?_
      have ek : 29 = k := by omega
      subst ek
      refine j_iload_n C dX0_countSpans_47 rfl ?_
      exact j_iret C hQ rfl dX0_countSpans_48 ⟨Nat.le_of_ble_eq_true rfl, Nat.le_of_ble_eq_true rfl⟩ ⟨rfl, rfl⟩
    | succ r ih5 =>
      intro k  hk5 
      refine j_iload_n C dX0_countSpans_5 rfl ?_
      refine j_bipush (v := (nI 26)) C dX0_countSpans_6 rfl ?_
      refine j_icmp_gt_f (tgt := 47) C dX0_countSpans_8 (by decide) (mI_in (by omega)) ?_
      refine j_bipush (v := (-2)) C dX0_countSpans_11 rfl ?_
      refine j_istore_n (lv' := [(3, .int (-2)), (2, .int (mI k)), (1, .int (iD (fS x) k)), (0, .int x)]) C dX0_countSpans_13 (by decide) rfl ?_
      have L14 : ∀ (r j : Nat), j + r = 29 → jJ p l e R s m args below meth c E A 4 Q 0 0 14 [(3, .int (mI j)), (2, .int (mI k)), (1, .int (iD (fS x) k + iC (fS x k) j)), (0, .int x)] [] ws := by
        intro r
        induction r with
        | zero =>
          intro j  hk14 
          refine j_iload_n C dX0_countSpans_14 rfl ?_
          refine j_bipush (v := (nI 26)) C dX0_countSpans_15 rfl ?_
          refine j_icmp_gt_t (tgt := 41) C dX0_countSpans_17 (by decide) (mI_end (by omega)) ?_
          have ek : 29 = j := by omega
          subst ek
          refine j_eq (lv' := [(3, .int (mI (29))), (2, .int (mI k)), (1, .int (iD (fS x) (k + 1))), (0, .int x)]) rfl rfl rfl ?_
          refine j_iinc (lv' := [(2, .int (mI (k + 1))), (3, .int (mI (29))), (1, .int (iD (fS x) (k + 1))), (0, .int x)]) C dX0_countSpans_41 rfl (mI_s _) (by decide) rfl ?_
          refine j_goto (tgt := 5) C dX0_countSpans_44 (by decide) ?_
          refine j_lv (lv' := [(2, .int (mI (k + 1))), (1, .int (iD (fS x) (k + 1))), (0, .int x)]) (by simp only [List.mem_cons, List.not_mem_nil, or_false, forall_eq_or_imp, forall_eq, true_or, or_true, and_self, Nat.add_zero]) ?_
          exact ih5 (k + 1)  (by omega)
        | succ r ih14 =>
          intro j  hk14 
          refine j_iload_n C dX0_countSpans_14 rfl ?_
          refine j_bipush (v := (nI 26)) C dX0_countSpans_15 rfl ?_
          refine j_icmp_gt_f (tgt := 41) C dX0_countSpans_17 (by decide) (mI_in (by omega)) ?_
          refine j_iload_n C dX0_countSpans_20 rfl ?_
          refine j_i2l (v := (mI k).toInt64) C dX0_countSpans_21 rfl ?_
          refine j_iload_n C dX0_countSpans_22 rfl ?_
          refine j_i2l (v := (mI j).toInt64) C dX0_countSpans_23 rfl ?_
          refine j_iload_n C dX0_countSpans_24 rfl ?_
          refine j_i2l (v := x.toInt64) C dX0_countSpans_25 rfl ?_
          refine j_callSr C (v := .int (bI (¬ ((mI k).toInt64) < 0 ∧ ¬ ((mI j).toInt64) < ((mI k).toInt64) ∧ ¬ x.toInt64 < ((mI j).toInt64)))) (w := ws) (c_holdsSpan l E A) ok_X0_holdsSpan w_478 (by decide) rfl rfl (Nat.le_of_ble_eq_true rfl) ⟨Nat.le_of_ble_eq_true rfl, Nat.le_of_ble_eq_true rfl⟩ dX0_countSpans_26 ?_
          refine j_ifb_eq (tgt := 35) C dX0_countSpans_29 (by decide) (fun h29 => ?_) (fun h29 => ?_)
          · skip
            refine j_iinc (lv' := [(3, .int (mI (j + 1))), (2, .int (mI k)), (1, .int (iD (fS x) k + iC (fS x k) j)), (0, .int x)]) C dX0_countSpans_35 rfl (mI_s _) (by decide) rfl ?_
            refine j_goto (tgt := 14) C dX0_countSpans_38 (by decide) ?_
            refine j_eq (lv' := [(3, .int (mI (j + 1))), (2, .int (mI k)), (1, .int (iD (fS x) k + iC (fS x k) (j + 1))), (0, .int x)]) (by rw [iC_n (f := fS x k) (fun q => h29 (of_decide_eq_true q))]) rfl rfl ?_
            refine j_lv (lv' := [(3, .int (mI (j + 1))), (2, .int (mI k)), (1, .int (iD (fS x) k + iC (fS x k) (j + 1))), (0, .int x)]) (by simp only [List.mem_cons, List.not_mem_nil, or_false, forall_eq_or_imp, forall_eq, true_or, or_true, and_self, Nat.add_zero]) ?_
            exact ih14 (j + 1)  (by omega)
          · skip
            refine j_iinc (lv' := [(1, .int ((iD (fS x) k + iC (fS x k) j) + 1)), (3, .int (mI j)), (2, .int (mI k)), (0, .int x)]) C dX0_countSpans_32 rfl rfl (by decide) rfl ?_
            refine j_iinc (lv' := [(3, .int (mI (j + 1))), (1, .int ((iD (fS x) k + iC (fS x k) j) + 1)), (2, .int (mI k)), (0, .int x)]) C dX0_countSpans_35 rfl (mI_s _) (by decide) rfl ?_
            refine j_goto (tgt := 14) C dX0_countSpans_38 (by decide) ?_
            refine j_eq (lv' := [(3, .int (mI (j + 1))), (1, .int (iD (fS x) k + iC (fS x k) (j + 1))), (2, .int (mI k)), (0, .int x)]) (by rw [iC_y (f := fS x k) (decide_eq_true h29), Int32.add_assoc]) rfl rfl ?_
            refine j_lv (lv' := [(3, .int (mI (j + 1))), (2, .int (mI k)), (1, .int (iD (fS x) k + iC (fS x k) (j + 1))), (0, .int x)]) (by simp only [List.mem_cons, List.not_mem_nil, or_false, forall_eq_or_imp, forall_eq, true_or, or_true, and_self, Nat.add_zero]) ?_
            exact ih14 (j + 1)  (by omega)
      refine j_eq (lv' := [(3, .int (mI 0)), (2, .int (mI k)), (1, .int (iD (fS x) k)), (0, .int x)]) rfl rfl rfl ?_
      refine j_eq (lv' := [(3, .int (mI 0)), (2, .int (mI k)), (1, .int (iD (fS x) k + iC (fS x k) 0)), (0, .int x)]) (by rw [show iD (fS x) k + iC (fS x k) 0 = iD (fS x) k from Int32.add_zero _]) rfl rfl ?_
      refine j_lv (lv' := [(3, .int (mI 0)), (2, .int (mI k)), (1, .int (iD (fS x) k + iC (fS x k) 0)), (0, .int x)]) (by simp only [List.mem_cons, List.not_mem_nil, or_false, forall_eq_or_imp, forall_eq, true_or, or_true, and_self, Nat.add_zero]) ?_
      exact L14 29 0  (by omega)
  refine j_eq (lv' := [(2, .int (mI 0)), (1, .int (nI 0)), (0, .int x)]) rfl rfl rfl ?_
  refine j_eq (lv' := [(2, .int (mI 0)), (1, .int (iD (fS x) 0)), (0, .int x)]) rfl rfl rfl ?_
  refine j_lv (lv' := [(2, .int (mI 0)), (1, .int (iD (fS x) 0)), (0, .int x)]) (by simp only [List.mem_cons, List.not_mem_nil, or_false, forall_eq_or_imp, forall_eq, true_or, or_true, and_self, Nat.add_zero]) ?_
  exact L5 29 0  (by omega)
set_option maxHeartbeats 4000000 in
set_option maxRecDepth 100000 in
theorem c_countStretches (l : Launch) (E : jE) (A : Nat → Prop) {ws : va_W} {x : Int32} : jMet l yX0_countStretches cX0_countStretches 4 (some .int) 1 0 0 E A [.int x] ws (jR (some (.int (iD (fT x) 29))) ws) jNo := by
  refine jMet.intro' [(0, .int x)] (by decide) (Nat.le_of_ble_eq_true rfl) rfl ?_
  intro p e R s m args below meth c Q C hQ
  refine j_iconst (v := (nI 0)) C dX0_countStretches_0 rfl ?_
  refine j_istore_n (lv' := [(1, .int (nI 0)), (0, .int x)]) C dX0_countStretches_1 (by decide) rfl ?_
  refine j_bipush (v := (-2)) C dX0_countStretches_2 rfl ?_
  refine j_istore_n (lv' := [(2, .int (-2)), (1, .int (nI 0)), (0, .int x)]) C dX0_countStretches_4 (by decide) rfl ?_
  have L5 : ∀ (r k : Nat), k + r = 29 → jJ p l e R s m args below meth c E A 4 Q 0 0 5 [(2, .int (mI k)), (1, .int (iD (fT x) k)), (0, .int x)] [] ws := by
    intro r
    induction r with
    | zero =>
      intro k  hk5 
      refine j_iload_n C dX0_countStretches_5 rfl ?_
      refine j_bipush (v := (nI 26)) C dX0_countStretches_6 rfl ?_
      refine j_icmp_gt_t (tgt := 47) C dX0_countStretches_8 (by decide) (mI_end (by omega)) ?_
      have ek : 29 = k := by omega
      subst ek
      refine j_iload_n C dX0_countStretches_47 rfl ?_
      exact j_iret C hQ rfl dX0_countStretches_48 ⟨Nat.le_of_ble_eq_true rfl, Nat.le_of_ble_eq_true rfl⟩ ⟨rfl, rfl⟩
    | succ r ih5 =>
      intro k  hk5 
      refine j_iload_n C dX0_countStretches_5 rfl ?_
      refine j_bipush (v := (nI 26)) C dX0_countStretches_6 rfl ?_
      refine j_icmp_gt_f (tgt := 47) C dX0_countStretches_8 (by decide) (mI_in (by omega)) ?_
      refine j_bipush (v := (-2)) C dX0_countStretches_11 rfl ?_
      refine j_istore_n (lv' := [(3, .int (-2)), (2, .int (mI k)), (1, .int (iD (fT x) k)), (0, .int x)]) C dX0_countStretches_13 (by decide) rfl ?_
      have L14 : ∀ (r j : Nat), j + r = 29 → jJ p l e R s m args below meth c E A 4 Q 0 0 14 [(3, .int (mI j)), (2, .int (mI k)), (1, .int (iD (fT x) k + iC (fT x k) j)), (0, .int x)] [] ws := by
        intro r
        induction r with
        | zero =>
          intro j  hk14 
          refine j_iload_n C dX0_countStretches_14 rfl ?_
          refine j_bipush (v := (nI 26)) C dX0_countStretches_15 rfl ?_
          refine j_icmp_gt_t (tgt := 41) C dX0_countStretches_17 (by decide) (mI_end (by omega)) ?_
          have ek : 29 = j := by omega
          subst ek
          refine j_eq (lv' := [(3, .int (mI (29))), (2, .int (mI k)), (1, .int (iD (fT x) (k + 1))), (0, .int x)]) rfl rfl rfl ?_
          refine j_iinc (lv' := [(2, .int (mI (k + 1))), (3, .int (mI (29))), (1, .int (iD (fT x) (k + 1))), (0, .int x)]) C dX0_countStretches_41 rfl (mI_s _) (by decide) rfl ?_
          refine j_goto (tgt := 5) C dX0_countStretches_44 (by decide) ?_
          refine j_lv (lv' := [(2, .int (mI (k + 1))), (1, .int (iD (fT x) (k + 1))), (0, .int x)]) (by simp only [List.mem_cons, List.not_mem_nil, or_false, forall_eq_or_imp, forall_eq, true_or, or_true, and_self, Nat.add_zero]) ?_
          exact ih5 (k + 1)  (by omega)
        | succ r ih14 =>
          intro j  hk14 
          refine j_iload_n C dX0_countStretches_14 rfl ?_
          refine j_bipush (v := (nI 26)) C dX0_countStretches_15 rfl ?_
          refine j_icmp_gt_f (tgt := 41) C dX0_countStretches_17 (by decide) (mI_in (by omega)) ?_
          refine j_iload_n C dX0_countStretches_20 rfl ?_
          refine j_i2l (v := (mI k).toInt64) C dX0_countStretches_21 rfl ?_
          refine j_iload_n C dX0_countStretches_22 rfl ?_
          refine j_i2l (v := (mI j).toInt64) C dX0_countStretches_23 rfl ?_
          refine j_iload_n C dX0_countStretches_24 rfl ?_
          refine j_i2l (v := x.toInt64) C dX0_countStretches_25 rfl ?_
          refine j_callSr C (v := .int (bI (¬ ((mI k).toInt64) < 0 ∧ ¬ ((mI j).toInt64) < 0 ∧ ¬ x.toInt64 < 0 ∧ ¬ x.toInt64 - ((mI j).toInt64) < ((mI k).toInt64)))) (w := ws) (c_holdsStretch l E A) ok_X0_holdsStretch w_482 (by decide) rfl rfl (Nat.le_of_ble_eq_true rfl) ⟨Nat.le_of_ble_eq_true rfl, Nat.le_of_ble_eq_true rfl⟩ dX0_countStretches_26 ?_
          refine j_ifb_eq (tgt := 35) C dX0_countStretches_29 (by decide) (fun h29 => ?_) (fun h29 => ?_)
          · skip
            refine j_iinc (lv' := [(3, .int (mI (j + 1))), (2, .int (mI k)), (1, .int (iD (fT x) k + iC (fT x k) j)), (0, .int x)]) C dX0_countStretches_35 rfl (mI_s _) (by decide) rfl ?_
            refine j_goto (tgt := 14) C dX0_countStretches_38 (by decide) ?_
            refine j_eq (lv' := [(3, .int (mI (j + 1))), (2, .int (mI k)), (1, .int (iD (fT x) k + iC (fT x k) (j + 1))), (0, .int x)]) (by rw [iC_n (f := fT x k) (fun q => h29 (of_decide_eq_true q))]) rfl rfl ?_
            refine j_lv (lv' := [(3, .int (mI (j + 1))), (2, .int (mI k)), (1, .int (iD (fT x) k + iC (fT x k) (j + 1))), (0, .int x)]) (by simp only [List.mem_cons, List.not_mem_nil, or_false, forall_eq_or_imp, forall_eq, true_or, or_true, and_self, Nat.add_zero]) ?_
            exact ih14 (j + 1)  (by omega)
          · skip
            refine j_iinc (lv' := [(1, .int ((iD (fT x) k + iC (fT x k) j) + 1)), (3, .int (mI j)), (2, .int (mI k)), (0, .int x)]) C dX0_countStretches_32 rfl rfl (by decide) rfl ?_
            refine j_iinc (lv' := [(3, .int (mI (j + 1))), (1, .int ((iD (fT x) k + iC (fT x k) j) + 1)), (2, .int (mI k)), (0, .int x)]) C dX0_countStretches_35 rfl (mI_s _) (by decide) rfl ?_
            refine j_goto (tgt := 14) C dX0_countStretches_38 (by decide) ?_
            refine j_eq (lv' := [(3, .int (mI (j + 1))), (1, .int (iD (fT x) k + iC (fT x k) (j + 1))), (2, .int (mI k)), (0, .int x)]) (by rw [iC_y (f := fT x k) (decide_eq_true h29), Int32.add_assoc]) rfl rfl ?_
            refine j_lv (lv' := [(3, .int (mI (j + 1))), (2, .int (mI k)), (1, .int (iD (fT x) k + iC (fT x k) (j + 1))), (0, .int x)]) (by simp only [List.mem_cons, List.not_mem_nil, or_false, forall_eq_or_imp, forall_eq, true_or, or_true, and_self, Nat.add_zero]) ?_
            exact ih14 (j + 1)  (by omega)
      refine j_eq (lv' := [(3, .int (mI 0)), (2, .int (mI k)), (1, .int (iD (fT x) k)), (0, .int x)]) rfl rfl rfl ?_
      refine j_eq (lv' := [(3, .int (mI 0)), (2, .int (mI k)), (1, .int (iD (fT x) k + iC (fT x k) 0)), (0, .int x)]) (by rw [show iD (fT x) k + iC (fT x k) 0 = iD (fT x) k from Int32.add_zero _]) rfl rfl ?_
      refine j_lv (lv' := [(3, .int (mI 0)), (2, .int (mI k)), (1, .int (iD (fT x) k + iC (fT x k) 0)), (0, .int x)]) (by simp only [List.mem_cons, List.not_mem_nil, or_false, forall_eq_or_imp, forall_eq, true_or, or_true, and_self, Nat.add_zero]) ?_
      exact L14 29 0  (by omega)
  refine j_eq (lv' := [(2, .int (mI 0)), (1, .int (nI 0)), (0, .int x)]) rfl rfl rfl ?_
  refine j_eq (lv' := [(2, .int (mI 0)), (1, .int (iD (fT x) 0)), (0, .int x)]) rfl rfl rfl ?_
  refine j_lv (lv' := [(2, .int (mI 0)), (1, .int (iD (fT x) 0)), (0, .int x)]) (by simp only [List.mem_cons, List.not_mem_nil, or_false, forall_eq_or_imp, forall_eq, true_or, or_true, and_self, Nat.add_zero]) ?_
  exact L5 29 0  (by omega)
set_option maxHeartbeats 4000000 in
set_option maxRecDepth 100000 in
theorem c_isSoundPlace (l : Launch) (E : jE) (A : Nat → Prop) {ws : va_W} {x y : Int32} : jMet l yX1_isSoundPlace cX1_isSoundPlace 9 (some .boolean) 1 0 0 E A [.int x, .int y] ws (jRe P01 ws) jNo := by
  refine jMet.intro' [(0, .int x), (1, .int y)] (by decide) (Nat.le_of_ble_eq_true rfl) rfl ?_
  intro p e R s m args below meth c Q C hQ
  refine j_iload_n C dX1_isSoundPlace_0 rfl ?_
  refine j_i2l (v := x.toInt64) C dX1_isSoundPlace_1 rfl ?_
  refine j_iload_n C dX1_isSoundPlace_2 rfl ?_
  refine j_i2l (v := y.toInt64) C dX1_isSoundPlace_3 rfl ?_
  refine j_callSr C (v := .int (bI (¬ x.toInt64 < 0 ∧ ¬ y.toInt64 ≤ x.toInt64))) (w := ws) (c_holdsPlace l E A) ok_X0_holdsPlace w_155 (by decide) rfl rfl (Nat.le_of_ble_eq_true rfl) ⟨Nat.le_of_ble_eq_true rfl, Nat.le_of_ble_eq_true rfl⟩ dX1_isSoundPlace_4 ?_
  refine j_istore_n (lv' := [(2, .int (bI (¬ x.toInt64 < 0 ∧ ¬ y.toInt64 ≤ x.toInt64))), (0, .int x), (1, .int y)]) C dX1_isSoundPlace_7 (by decide) rfl ?_
  refine j_iload_n C dX1_isSoundPlace_8 rfl ?_
  refine j_callSr C (v := .long (x.toInt64 * 4294967296)) (w := ws) (c_far l E A) ok_X0_far w_156 (by decide) rfl rfl (Nat.le_of_ble_eq_true rfl) ⟨Nat.le_of_ble_eq_true rfl, Nat.le_of_ble_eq_true rfl⟩ dX1_isSoundPlace_9 ?_
  refine j_lstore_n (lv' := [(3, .long (x.toInt64 * 4294967296)), (2, .int (bI (¬ x.toInt64 < 0 ∧ ¬ y.toInt64 ≤ x.toInt64))), (0, .int x), (1, .int y)]) C dX1_isSoundPlace_12 (by decide) rfl ?_
  refine j_iload_n C dX1_isSoundPlace_13 rfl ?_
  refine j_iconst (v := (nI 1)) C dX1_isSoundPlace_14 rfl ?_
  refine j_iadd (z := (x + (nI 1))) C dX1_isSoundPlace_15 rfl ?_
  refine j_callSr C (v := .long ((x + (nI 1)).toInt64 * 4294967296)) (w := ws) (c_far l E A) ok_X0_far w_156 (by decide) rfl rfl (Nat.le_of_ble_eq_true rfl) ⟨Nat.le_of_ble_eq_true rfl, Nat.le_of_ble_eq_true rfl⟩ dX1_isSoundPlace_16 ?_
  refine j_lstore (lv' := [(5, .long ((x + (nI 1)).toInt64 * 4294967296)), (3, .long (x.toInt64 * 4294967296)), (2, .int (bI (¬ x.toInt64 < 0 ∧ ¬ y.toInt64 ≤ x.toInt64))), (0, .int x), (1, .int y)]) C dX1_isSoundPlace_19 (by decide) rfl ?_
  refine j_iload_n C dX1_isSoundPlace_21 rfl ?_
  refine j_callSr C (v := .long (y.toInt64 * 4294967296)) (w := ws) (c_far l E A) ok_X0_far w_156 (by decide) rfl rfl (Nat.le_of_ble_eq_true rfl) ⟨Nat.le_of_ble_eq_true rfl, Nat.le_of_ble_eq_true rfl⟩ dX1_isSoundPlace_22 ?_
  refine j_lstore (lv' := [(7, .long (y.toInt64 * 4294967296)), (5, .long ((x + (nI 1)).toInt64 * 4294967296)), (3, .long (x.toInt64 * 4294967296)), (2, .int (bI (¬ x.toInt64 < 0 ∧ ¬ y.toInt64 ≤ x.toInt64))), (0, .int x), (1, .int y)]) C dX1_isSoundPlace_25 (by decide) rfl ?_
  refine j_iload_n C dX1_isSoundPlace_27 rfl ?_
  refine j_i2l (v := x.toInt64) C dX1_isSoundPlace_28 rfl ?_
  refine j_iload_n C dX1_isSoundPlace_29 rfl ?_
  refine j_iconst (v := (nI 1)) C dX1_isSoundPlace_30 rfl ?_
  refine j_iadd (z := (x + (nI 1))) C dX1_isSoundPlace_31 rfl ?_
  refine j_i2l (v := (x + (nI 1)).toInt64) C dX1_isSoundPlace_32 rfl ?_
  refine j_iload_n C dX1_isSoundPlace_33 rfl ?_
  refine j_i2l (v := y.toInt64) C dX1_isSoundPlace_34 rfl ?_
  refine j_callSr C (v := .int (bI (¬ x.toInt64 < 0 ∧ ¬ ((x + (nI 1)).toInt64) < x.toInt64 ∧ ¬ y.toInt64 < ((x + (nI 1)).toInt64)))) (w := ws) (c_holdsSpan l E A) ok_X0_holdsSpan w_157 (by decide) rfl rfl (Nat.le_of_ble_eq_true rfl) ⟨Nat.le_of_ble_eq_true rfl, Nat.le_of_ble_eq_true rfl⟩ dX1_isSoundPlace_35 ?_
  refine j_iload_n C dX1_isSoundPlace_38 rfl ?_
  refine j_icmp_ne (tgt := 94) C dX1_isSoundPlace_39 (by decide) (fun h39 => ?_) (fun h39 => ?_)
  · skip
    refine j_iconst (v := (nI 0)) C dX1_isSoundPlace_94 rfl ?_
    exact j_zret C hQ rfl rfl dX1_isSoundPlace_95 ⟨Nat.le_of_ble_eq_true rfl, Nat.le_of_ble_eq_true rfl⟩ ⟨⟨_, rfl, Or.inl rfl⟩, rfl⟩
  · skip
    refine j_iload_n C dX1_isSoundPlace_42 rfl ?_
    refine j_i2l (v := x.toInt64) C dX1_isSoundPlace_43 rfl ?_
    refine j_lconst (v := 1) C dX1_isSoundPlace_44 rfl ?_
    refine j_iload_n C dX1_isSoundPlace_45 rfl ?_
    refine j_i2l (v := y.toInt64) C dX1_isSoundPlace_46 rfl ?_
    refine j_callSr C (v := .int (bI (¬ x.toInt64 < 0 ∧ ¬ 1 < 0 ∧ ¬ y.toInt64 < 0 ∧ ¬ y.toInt64 - 1 < x.toInt64))) (w := ws) (c_holdsStretch l E A) ok_X0_holdsStretch w_158 (by decide) rfl rfl (Nat.le_of_ble_eq_true rfl) ⟨Nat.le_of_ble_eq_true rfl, Nat.le_of_ble_eq_true rfl⟩ dX1_isSoundPlace_47 ?_
    refine j_iload_n C dX1_isSoundPlace_50 rfl ?_
    refine j_icmp_ne (tgt := 94) C dX1_isSoundPlace_51 (by decide) (fun h51 => ?_) (fun h51 => ?_)
    · skip
      refine j_iconst (v := (nI 0)) C dX1_isSoundPlace_94 rfl ?_
      exact j_zret C hQ rfl rfl dX1_isSoundPlace_95 ⟨Nat.le_of_ble_eq_true rfl, Nat.le_of_ble_eq_true rfl⟩ ⟨⟨_, rfl, Or.inl rfl⟩, rfl⟩
    · skip
      refine j_lload_n C dX1_isSoundPlace_54 rfl ?_
      refine j_lload C dX1_isSoundPlace_55 rfl ?_
      refine j_callSr C (v := .int (bI (¬ (x.toInt64 * 4294967296) < 0 ∧ ¬ (y.toInt64 * 4294967296) ≤ (x.toInt64 * 4294967296)))) (w := ws) (c_holdsPlace l E A) ok_X0_holdsPlace w_155 (by decide) rfl rfl (Nat.le_of_ble_eq_true rfl) ⟨Nat.le_of_ble_eq_true rfl, Nat.le_of_ble_eq_true rfl⟩ dX1_isSoundPlace_57 ?_
      refine j_iload_n C dX1_isSoundPlace_60 rfl ?_
      refine j_icmp_ne (tgt := 94) C dX1_isSoundPlace_61 (by decide) (fun h61 => ?_) (fun h61 => ?_)
      · skip
        refine j_iconst (v := (nI 0)) C dX1_isSoundPlace_94 rfl ?_
        exact j_zret C hQ rfl rfl dX1_isSoundPlace_95 ⟨Nat.le_of_ble_eq_true rfl, Nat.le_of_ble_eq_true rfl⟩ ⟨⟨_, rfl, Or.inl rfl⟩, rfl⟩
      · skip
        refine j_lload_n C dX1_isSoundPlace_64 rfl ?_
        refine j_lload C dX1_isSoundPlace_65 rfl ?_
        refine j_lload C dX1_isSoundPlace_67 rfl ?_
        refine j_callSr C (v := .int (bI (¬ (x.toInt64 * 4294967296) < 0 ∧ ¬ ((x + (nI 1)).toInt64 * 4294967296) < (x.toInt64 * 4294967296) ∧ ¬ (y.toInt64 * 4294967296) < ((x + (nI 1)).toInt64 * 4294967296)))) (w := ws) (c_holdsSpan l E A) ok_X0_holdsSpan w_157 (by decide) rfl rfl (Nat.le_of_ble_eq_true rfl) ⟨Nat.le_of_ble_eq_true rfl, Nat.le_of_ble_eq_true rfl⟩ dX1_isSoundPlace_69 ?_
        refine j_iload_n C dX1_isSoundPlace_72 rfl ?_
        refine j_icmp_ne (tgt := 94) C dX1_isSoundPlace_73 (by decide) (fun h73 => ?_) (fun h73 => ?_)
        · skip
          refine j_iconst (v := (nI 0)) C dX1_isSoundPlace_94 rfl ?_
          exact j_zret C hQ rfl rfl dX1_isSoundPlace_95 ⟨Nat.le_of_ble_eq_true rfl, Nat.le_of_ble_eq_true rfl⟩ ⟨⟨_, rfl, Or.inl rfl⟩, rfl⟩
        · skip
          refine j_lload_n C dX1_isSoundPlace_76 rfl ?_
          refine j_iconst (v := (nI 1)) C dX1_isSoundPlace_77 rfl ?_
          refine j_callSr C (v := .long ((nI 1).toInt64 * 4294967296)) (w := ws) (c_far l E A) ok_X0_far w_156 (by decide) rfl rfl (Nat.le_of_ble_eq_true rfl) ⟨Nat.le_of_ble_eq_true rfl, Nat.le_of_ble_eq_true rfl⟩ dX1_isSoundPlace_78 ?_
          refine j_lload C dX1_isSoundPlace_81 rfl ?_
          refine j_callSr C (v := .int (bI (¬ (x.toInt64 * 4294967296) < 0 ∧ ¬ ((nI 1).toInt64 * 4294967296) < 0 ∧ ¬ (y.toInt64 * 4294967296) < 0 ∧ ¬ (y.toInt64 * 4294967296) - ((nI 1).toInt64 * 4294967296) < (x.toInt64 * 4294967296)))) (w := ws) (c_holdsStretch l E A) ok_X0_holdsStretch w_158 (by decide) rfl rfl (Nat.le_of_ble_eq_true rfl) ⟨Nat.le_of_ble_eq_true rfl, Nat.le_of_ble_eq_true rfl⟩ dX1_isSoundPlace_83 ?_
          refine j_iload_n C dX1_isSoundPlace_86 rfl ?_
          refine j_icmp_ne (tgt := 94) C dX1_isSoundPlace_87 (by decide) (fun h87 => ?_) (fun h87 => ?_)
          · skip
            refine j_iconst (v := (nI 0)) C dX1_isSoundPlace_94 rfl ?_
            exact j_zret C hQ rfl rfl dX1_isSoundPlace_95 ⟨Nat.le_of_ble_eq_true rfl, Nat.le_of_ble_eq_true rfl⟩ ⟨⟨_, rfl, Or.inl rfl⟩, rfl⟩
          · skip
            refine j_iconst (v := (nI 1)) C dX1_isSoundPlace_90 rfl ?_
            refine j_goto (tgt := 95) C dX1_isSoundPlace_91 (by decide) ?_
            exact j_zret C hQ rfl rfl dX1_isSoundPlace_95 ⟨Nat.le_of_ble_eq_true rfl, Nat.le_of_ble_eq_true rfl⟩ ⟨⟨_, rfl, Or.inr rfl⟩, rfl⟩
set_option maxHeartbeats 4000000 in
set_option maxRecDepth 100000 in
theorem c_isSoundSpan (l : Launch) (E : jE) (A : Nat → Prop) {t sz sg la : Nat} {z g b : Nat → Int32} {rest : va_W} {i n : Nat} {x y : Int32} (hi : i < 9) (hn : n ≤ 24) (hz : z i = nI n) : jMet l yX1_isSoundSpan cX1_isSoundSpan 6 (some .boolean) 2 0 0 E A [.ref t, .int (nI i), .int x, .int y] (tW E t sz sg la z g b rest) (tB E t sz sg la z g rest) jNo := by
  refine jMet.intro' [(0, .ref t), (1, .int (nI i)), (2, .int x), (3, .int y)] (by decide) (Nat.le_of_ble_eq_true rfl) rfl ?_
  intro p e R s m args below meth c Q C hQ
  refine j_aload_n C dX1_isSoundSpan_0 rfl ?_
  refine j_iload_n C dX1_isSoundSpan_1 rfl ?_
  refine j_callVr C 0 (v := .int (z i)) (w := (tW E t sz sg la z g b rest)) (c_size l E A (by omega)) ok_X2_size w_148 (by decide) rfl rfl (Nat.le_of_ble_eq_true rfl) rfl rfl ⟨Nat.le_of_ble_eq_true rfl, Nat.le_of_ble_eq_true rfl⟩ dX1_isSoundSpan_2 ?_
  refine j_istore (lv' := [(4, .int (z i)), (0, .ref t), (1, .int (nI i)), (2, .int x), (3, .int y)]) C dX1_isSoundSpan_5 (by decide) rfl ?_
  refine j_iload_n C dX1_isSoundSpan_7 rfl ?_
  refine j_i2l (v := x.toInt64) C dX1_isSoundSpan_8 rfl ?_
  refine j_iload_n C dX1_isSoundSpan_9 rfl ?_
  refine j_i2l (v := y.toInt64) C dX1_isSoundSpan_10 rfl ?_
  refine j_iload C dX1_isSoundSpan_11 rfl ?_
  refine j_i2l (v := (z i).toInt64) C dX1_isSoundSpan_13 rfl ?_
  refine j_callSr C (v := .int (bI (¬ x.toInt64 < 0 ∧ ¬ y.toInt64 < x.toInt64 ∧ ¬ ((z i).toInt64) < y.toInt64))) (w := (tW E t sz sg la z g b rest)) (c_holdsSpan l E A) ok_X0_holdsSpan w_157 (by decide) rfl rfl (Nat.le_of_ble_eq_true rfl) ⟨Nat.le_of_ble_eq_true rfl, Nat.le_of_ble_eq_true rfl⟩ dX1_isSoundSpan_14 ?_
  refine j_istore (lv' := [(5, .int (bI (¬ x.toInt64 < 0 ∧ ¬ y.toInt64 < x.toInt64 ∧ ¬ ((z i).toInt64) < y.toInt64))), (4, .int (z i)), (0, .ref t), (1, .int (nI i)), (2, .int x), (3, .int y)]) C dX1_isSoundSpan_17 (by decide) rfl ?_
  refine j_iload_n C dX1_isSoundSpan_19 rfl ?_
  refine j_i2l (v := x.toInt64) C dX1_isSoundSpan_20 rfl ?_
  refine j_iload_n C dX1_isSoundSpan_21 rfl ?_
  refine j_iload_n C dX1_isSoundSpan_22 rfl ?_
  refine j_isub (z := (y - x)) C dX1_isSoundSpan_23 rfl ?_
  refine j_i2l (v := (y - x).toInt64) C dX1_isSoundSpan_24 rfl ?_
  refine j_iload C dX1_isSoundSpan_25 rfl ?_
  refine j_i2l (v := (z i).toInt64) C dX1_isSoundSpan_27 rfl ?_
  refine j_callSr C (v := .int (bI (¬ x.toInt64 < 0 ∧ ¬ ((y - x).toInt64) < 0 ∧ ¬ ((z i).toInt64) < 0 ∧ ¬ ((z i).toInt64) - ((y - x).toInt64) < x.toInt64))) (w := (tW E t sz sg la z g b rest)) (c_holdsStretch l E A) ok_X0_holdsStretch w_158 (by decide) rfl rfl (Nat.le_of_ble_eq_true rfl) ⟨Nat.le_of_ble_eq_true rfl, Nat.le_of_ble_eq_true rfl⟩ dX1_isSoundSpan_28 ?_
  refine j_iload C dX1_isSoundSpan_31 rfl ?_
  refine j_icmp_eq (tgt := 38) C dX1_isSoundSpan_33 (by decide) (fun h33 => ?_) (fun h33 => ?_)
  · skip
    refine j_iload C dX1_isSoundSpan_38 rfl ?_
    refine j_ifb_eq (tgt := 56) C dX1_isSoundSpan_40 (by decide) (fun h40 => ?_) (fun h40 => ?_)
    · skip
      refine j_iconst (v := (nI 1)) C dX1_isSoundSpan_56 rfl ?_
      refine j_goto (tgt := 61) C dX1_isSoundSpan_57 (by decide) ?_
      exact j_zret C hQ rfl rfl dX1_isSoundSpan_61 ⟨Nat.le_of_ble_eq_true rfl, Nat.le_of_ble_eq_true rfl⟩ ⟨_, _, Or.inr rfl, rfl, rfl⟩
    · skip
      rw [hz] at h40
      rcases cut_cases x y hn with ⟨a, v, hav, hvn, rfl, rfl⟩ | hc
      · skip
        refine j_aload_n C dX1_isSoundSpan_43 rfl ?_
        refine j_iload_n C dX1_isSoundSpan_44 rfl ?_
        refine j_iload_n C dX1_isSoundSpan_45 rfl ?_
        refine j_iload_n C dX1_isSoundSpan_46 rfl ?_
        refine j_callVr C 0 (v := .int (nI (v - a))) (w := (tW E t sz sg la z g (jput b (fun q => g (i * 24 + (a + q))) 0 (v - a)) rest)) (c_lay l E A (by omega) (by omega) (by omega)) ok_X2_lay w_162 (by decide) rfl rfl (Nat.le_of_ble_eq_true rfl) rfl rfl ⟨Nat.le_of_ble_eq_true rfl, Nat.le_of_ble_eq_true rfl⟩ dX1_isSoundSpan_47 ?_
        refine j_iload_n C dX1_isSoundSpan_50 rfl ?_
        refine j_iload_n C dX1_isSoundSpan_51 rfl ?_
        refine j_isub (z := (nI (v - a))) C dX1_isSoundSpan_52 (pk_sub (by omega)) ?_
        refine j_icmpn_ne (tgt := 60) C dX1_isSoundSpan_53 (by decide) (by omega) (by omega) (fun h53 => ?_) (fun h53 => ?_)
        · skip
          refine j_iconst (v := (nI 0)) C dX1_isSoundSpan_60 rfl ?_
          exact j_zret C hQ rfl rfl dX1_isSoundSpan_61 ⟨Nat.le_of_ble_eq_true rfl, Nat.le_of_ble_eq_true rfl⟩ ⟨_, _, Or.inl rfl, rfl, rfl⟩
        · skip
          refine j_iconst (v := (nI 1)) C dX1_isSoundSpan_56 rfl ?_
          refine j_goto (tgt := 61) C dX1_isSoundSpan_57 (by decide) ?_
          exact j_zret C hQ rfl rfl dX1_isSoundSpan_61 ⟨Nat.le_of_ble_eq_true rfl, Nat.le_of_ble_eq_true rfl⟩ ⟨_, _, Or.inr rfl, rfl, rfl⟩
      · exact absurd h40 hc
  · skip
    refine j_iconst (v := (nI 0)) C dX1_isSoundSpan_36 rfl ?_
    exact j_zret C hQ rfl rfl dX1_isSoundSpan_37 ⟨Nat.le_of_ble_eq_true rfl, Nat.le_of_ble_eq_true rfl⟩ ⟨_, _, Or.inl rfl, rfl, rfl⟩
set_option maxHeartbeats 4000000 in
set_option maxRecDepth 100000 in
theorem c_isBehind (l : Launch) (E : jE) (A : Nat → Prop) {t sz sg la : Nat} {z g b : Nat → Int32} {rest : va_W} {i n : Nat} (hi : i < 9) (hn : n ≤ 24) (hz : z i = nI n) : jMet l yX1_isBehindItsBeginnings cX1_isBehindItsBeginnings 4 (some .boolean) 2 0 0 E A [.ref t, .int (nI i)] (tW E t sz sg la z g b rest) (jRe P01 (tW E t sz sg la z g b rest)) jNo := by
  refine jMet.intro' [(0, .ref t), (1, .int (nI i))] (by decide) (Nat.le_of_ble_eq_true rfl) rfl ?_
  intro p e R s m args below meth c Q C hQ
  refine j_aload_n C dX1_isBehindItsBeginnings_0 rfl ?_
  refine j_iload_n C dX1_isBehindItsBeginnings_1 rfl ?_
  refine j_callVr C 0 (v := .int (nI n)) (w := (tW E t sz sg la z g b rest)) (c_size_n l E A (by omega) hz) ok_X2_size w_148 (by decide) rfl rfl (Nat.le_of_ble_eq_true rfl) rfl rfl ⟨Nat.le_of_ble_eq_true rfl, Nat.le_of_ble_eq_true rfl⟩ dX1_isBehindItsBeginnings_2 ?_
  refine j_istore_n (lv' := [(2, .int (nI n)), (0, .ref t), (1, .int (nI i))]) C dX1_isBehindItsBeginnings_5 (by decide) rfl ?_
  refine j_iconst (v := (nI 0)) C dX1_isBehindItsBeginnings_6 rfl ?_
  refine j_istore_n (lv' := [(3, .int (nI 0)), (2, .int (nI n)), (0, .ref t), (1, .int (nI i))]) C dX1_isBehindItsBeginnings_7 (by decide) rfl ?_
  have L8 : ∀ (r k : Nat), k + r = n → jJ p l e R s m args below meth c E A 4 Q 0 0 8 [(3, .int (nI k)), (2, .int (nI n)), (0, .ref t), (1, .int (nI i))] [] (tW E t sz sg la z g b rest) := by
    intro r
    induction r with
    | zero =>
      intro k  hk8 
      refine j_iload_n C dX1_isBehindItsBeginnings_8 rfl ?_
      refine j_iload_n C dX1_isBehindItsBeginnings_9 rfl ?_
      refine j_icmpn_ge_t (tgt := 34) C dX1_isBehindItsBeginnings_10 (by decide) (by omega) (by omega) (by omega) ?_
      have ek : n = k := by omega
      subst ek
      refine j_iconst (v := (nI 1)) C dX1_isBehindItsBeginnings_34 rfl ?_
      exact j_zret C hQ rfl rfl dX1_isBehindItsBeginnings_35 ⟨Nat.le_of_ble_eq_true rfl, Nat.le_of_ble_eq_true rfl⟩ ⟨⟨_, rfl, Or.inr rfl⟩, rfl⟩
    | succ r ih8 =>
      intro k  hk8 
      refine j_iload_n C dX1_isBehindItsBeginnings_8 rfl ?_
      refine j_iload_n C dX1_isBehindItsBeginnings_9 rfl ?_
      refine j_icmpn_ge_f (tgt := 34) C dX1_isBehindItsBeginnings_10 (by decide) (by omega) (by omega) (by omega) ?_
      refine j_aload_n C dX1_isBehindItsBeginnings_13 rfl ?_
      refine j_iconst (v := (nI 0)) C dX1_isBehindItsBeginnings_14 rfl ?_
      refine j_iload_n C dX1_isBehindItsBeginnings_15 rfl ?_
      refine j_iload_n C dX1_isBehindItsBeginnings_16 rfl ?_
      refine j_iload_n C dX1_isBehindItsBeginnings_17 rfl ?_
      refine j_iload_n C dX1_isBehindItsBeginnings_18 rfl ?_
      refine j_callVr C 0 (v := .int (cmpF (fun q => g (i * 24 + q)) (fun q => g (i * 24 + q)) (smI (nI n) (nI k)) 0 (min n k - 0))) (w := (tW E t sz sg la z g b rest)) (c_comparedFrom l E A (by omega) (by omega) hn (by omega) (by omega) (by omega)) ok_X2_comparedFrom w_173 (by decide) rfl rfl (Nat.le_of_ble_eq_true rfl) rfl rfl ⟨Nat.le_of_ble_eq_true rfl, Nat.le_of_ble_eq_true rfl⟩ dX1_isBehindItsBeginnings_19 ?_
      refine j_iconst (v := (nI 1)) C dX1_isBehindItsBeginnings_22 rfl ?_
      refine j_icmp_eq (tgt := 28) C dX1_isBehindItsBeginnings_23 (by decide) (fun h23 => ?_) (fun h23 => ?_)
      · skip
        refine j_iinc (lv' := [(3, .int (nI (k + 1))), (2, .int (nI n)), (0, .ref t), (1, .int (nI i))]) C dX1_isBehindItsBeginnings_28 rfl (nI_1 _) (by decide) rfl ?_
        refine j_goto (tgt := 8) C dX1_isBehindItsBeginnings_31 (by decide) ?_
        refine j_lv (lv' := [(3, .int (nI (k + 1))), (2, .int (nI n)), (0, .ref t), (1, .int (nI i))]) (by simp only [List.mem_cons, List.not_mem_nil, or_false, forall_eq_or_imp, forall_eq, true_or, or_true, and_self, Nat.add_zero]) ?_
        exact ih8 (k + 1)  (by omega)
      · skip
        refine j_iconst (v := (nI 0)) C dX1_isBehindItsBeginnings_26 rfl ?_
        exact j_zret C hQ rfl rfl dX1_isBehindItsBeginnings_27 ⟨Nat.le_of_ble_eq_true rfl, Nat.le_of_ble_eq_true rfl⟩ ⟨⟨_, rfl, Or.inl rfl⟩, rfl⟩
  refine j_lv (lv' := [(3, .int (nI 0)), (2, .int (nI n)), (0, .ref t), (1, .int (nI i))]) (by simp only [List.mem_cons, List.not_mem_nil, or_false, forall_eq_or_imp, forall_eq, true_or, or_true, and_self, Nat.add_zero]) ?_
  exact L8 n 0  (by omega)
set_option maxHeartbeats 4000000 in
set_option maxRecDepth 100000 in
theorem c_isSoundAlone (l : Launch) (E : jE) (A : Nat → Prop) {t sz sg la : Nat} {z g b : Nat → Int32} {rest : va_W} {i n : Nat} (hi : i < 9) (hn : n ≤ 24) (hz : z i = nI n) : jMet l yX1_isSoundAlone cX1_isSoundAlone 5 (some .boolean) 3 0 0 E A [.ref t, .int (nI i)] (tW E t sz sg la z g b rest) (tB E t sz sg la z g rest) jNo := by
  refine jMet.intro' [(0, .ref t), (1, .int (nI i))] (by decide) (Nat.le_of_ble_eq_true rfl) rfl ?_
  intro p e R s m args below meth c Q C hQ
  refine j_aload_n C dX1_isSoundAlone_0 rfl ?_
  refine j_iload_n C dX1_isSoundAlone_1 rfl ?_
  refine j_callVr C 0 (v := .int (nI n)) (w := (tW E t sz sg la z g b rest)) (c_size_n l E A (by omega) hz) ok_X2_size w_148 (by decide) rfl rfl (Nat.le_of_ble_eq_true rfl) rfl rfl ⟨Nat.le_of_ble_eq_true rfl, Nat.le_of_ble_eq_true rfl⟩ dX1_isSoundAlone_2 ?_
  refine j_istore_n (lv' := [(2, .int (nI n)), (0, .ref t), (1, .int (nI i))]) C dX1_isSoundAlone_5 (by decide) rfl ?_
  refine j_bipush (v := (-2)) C dX1_isSoundAlone_6 rfl ?_
  refine j_istore_n (lv' := [(3, .int (-2)), (2, .int (nI n)), (0, .ref t), (1, .int (nI i))]) C dX1_isSoundAlone_8 (by decide) rfl ?_
  have L9 : ∀ (r k : Nat) (b : Nat → Int32), k + r = 29 → jJ p l e R s m args below meth c E A 5 Q 0 0 9 [(3, .int (mI k)), (2, .int (nI n)), (0, .ref t), (1, .int (nI i))] [] (tW E t sz sg la z g b rest) := by
    intro r
    induction r with
    | zero =>
      intro k b hk9 
      refine j_iload_n C dX1_isSoundAlone_9 rfl ?_
      refine j_bipush (v := (nI 26)) C dX1_isSoundAlone_10 rfl ?_
      refine j_icmp_gt_t (tgt := 61) C dX1_isSoundAlone_12 (by decide) (mI_end (by omega)) ?_
      have ek : 29 = k := by omega
      subst ek
      refine j_aload_n C dX1_isSoundAlone_61 rfl ?_
      refine j_iload_n C dX1_isSoundAlone_62 rfl ?_
      refine j_callSe C (w := (tW E t sz sg la z g b rest)) (c_isBehind l E A (by omega) hn hz) ok_X1_isBehindItsBeginnings w_170 (by decide) rfl rfl (Nat.le_of_ble_eq_true rfl) ⟨Nat.le_of_ble_eq_true rfl, Nat.le_of_ble_eq_true rfl⟩ dX1_isSoundAlone_63 (fun u1 hu2 => ?_)
      exact j_zret C hQ rfl (nar01 hu2) dX1_isSoundAlone_66 ⟨Nat.le_of_ble_eq_true rfl, Nat.le_of_ble_eq_true rfl⟩ ⟨_, _, hu2, rfl, rfl⟩
    | succ r ih9 =>
      intro k b hk9 
      refine j_iload_n C dX1_isSoundAlone_9 rfl ?_
      refine j_bipush (v := (nI 26)) C dX1_isSoundAlone_10 rfl ?_
      refine j_icmp_gt_f (tgt := 61) C dX1_isSoundAlone_12 (by decide) (mI_in (by omega)) ?_
      refine j_iload_n C dX1_isSoundAlone_15 rfl ?_
      refine j_iload_n C dX1_isSoundAlone_16 rfl ?_
      refine j_callSe C (w := (tW E t sz sg la z g b rest)) (c_isSoundPlace l E A) ok_X1_isSoundPlace w_152 (by decide) rfl rfl (Nat.le_of_ble_eq_true rfl) ⟨Nat.le_of_ble_eq_true rfl, Nat.le_of_ble_eq_true rfl⟩ dX1_isSoundAlone_17 (fun u3 hu4 => ?_)
      refine j_if_ne (tgt := 25) C dX1_isSoundAlone_20 (by decide) (fun h20 => ?_) (fun h20 => ?_)
      · skip
        refine j_bipush (v := (-2)) C dX1_isSoundAlone_25 rfl ?_
        refine j_istore (lv' := [(4, .int (-2)), (3, .int (mI k)), (2, .int (nI n)), (0, .ref t), (1, .int (nI i))]) C dX1_isSoundAlone_27 (by decide) rfl ?_
        have L29 : ∀ (r j : Nat) (b : Nat → Int32), j + r = 29 → jJ p l e R s m args below meth c E A 5 Q 0 0 29 [(4, .int (mI j)), (3, .int (mI k)), (2, .int (nI n)), (0, .ref t), (1, .int (nI i))] [] (tW E t sz sg la z g b rest) := by
          intro r
          induction r with
          | zero =>
            intro j b hk29 
            refine j_iload C dX1_isSoundAlone_29 rfl ?_
            refine j_bipush (v := (nI 26)) C dX1_isSoundAlone_31 rfl ?_
            refine j_icmp_gt_t (tgt := 55) C dX1_isSoundAlone_33 (by decide) (mI_end (by omega)) ?_
            have ek : 29 = j := by omega
            subst ek
            refine j_iinc (lv' := [(3, .int (mI (k + 1))), (4, .int (mI (29))), (2, .int (nI n)), (0, .ref t), (1, .int (nI i))]) C dX1_isSoundAlone_55 rfl (mI_s _) (by decide) rfl ?_
            refine j_goto (tgt := 9) C dX1_isSoundAlone_58 (by decide) ?_
            refine j_lv (lv' := [(3, .int (mI (k + 1))), (2, .int (nI n)), (0, .ref t), (1, .int (nI i))]) (by simp only [List.mem_cons, List.not_mem_nil, or_false, forall_eq_or_imp, forall_eq, true_or, or_true, and_self, Nat.add_zero]) ?_
            exact ih9 (k + 1) _ (by omega)
          | succ r ih29 =>
            intro j b hk29 
            refine j_iload C dX1_isSoundAlone_29 rfl ?_
            refine j_bipush (v := (nI 26)) C dX1_isSoundAlone_31 rfl ?_
            refine j_icmp_gt_f (tgt := 55) C dX1_isSoundAlone_33 (by decide) (mI_in (by omega)) ?_
            refine j_aload_n C dX1_isSoundAlone_36 rfl ?_
            refine j_iload_n C dX1_isSoundAlone_37 rfl ?_
            refine j_iload_n C dX1_isSoundAlone_38 rfl ?_
            refine j_iload C dX1_isSoundAlone_39 rfl ?_
            refine j_callS C (c_isSoundSpan l E A (by omega) hn hz) ok_X1_isSoundSpan w_159 (by decide) rfl rfl (Nat.le_of_ble_eq_true rfl) ⟨Nat.le_of_ble_eq_true rfl, Nat.le_of_ble_eq_true rfl⟩ dX1_isSoundAlone_41 (fun _ _ h => h.elim) (fun _ _ h => ?_)
            obtain ⟨u5, bb6, hu7, rfl, rfl⟩ := h
            refine j_if_ne (tgt := 49) C dX1_isSoundAlone_44 (by decide) (fun h44 => ?_) (fun h44 => ?_)
            · skip
              refine j_iinc (lv' := [(4, .int (mI (j + 1))), (3, .int (mI k)), (2, .int (nI n)), (0, .ref t), (1, .int (nI i))]) C dX1_isSoundAlone_49 rfl (mI_s _) (by decide) rfl ?_
              refine j_goto (tgt := 29) C dX1_isSoundAlone_52 (by decide) ?_
              refine j_lv (lv' := [(4, .int (mI (j + 1))), (3, .int (mI k)), (2, .int (nI n)), (0, .ref t), (1, .int (nI i))]) (by simp only [List.mem_cons, List.not_mem_nil, or_false, forall_eq_or_imp, forall_eq, true_or, or_true, and_self, Nat.add_zero]) ?_
              exact ih29 (j + 1) _ (by omega)
            · skip
              refine j_iconst (v := (nI 0)) C dX1_isSoundAlone_47 rfl ?_
              exact j_zret C hQ rfl rfl dX1_isSoundAlone_48 ⟨Nat.le_of_ble_eq_true rfl, Nat.le_of_ble_eq_true rfl⟩ ⟨_, _, Or.inl rfl, rfl, rfl⟩
        refine j_eq (lv' := [(4, .int (mI 0)), (3, .int (mI k)), (2, .int (nI n)), (0, .ref t), (1, .int (nI i))]) rfl rfl rfl ?_
        refine j_lv (lv' := [(4, .int (mI 0)), (3, .int (mI k)), (2, .int (nI n)), (0, .ref t), (1, .int (nI i))]) (by simp only [List.mem_cons, List.not_mem_nil, or_false, forall_eq_or_imp, forall_eq, true_or, or_true, and_self, Nat.add_zero]) ?_
        exact L29 29 0 _ (by omega)
      · skip
        refine j_iconst (v := (nI 0)) C dX1_isSoundAlone_23 rfl ?_
        exact j_zret C hQ rfl rfl dX1_isSoundAlone_24 ⟨Nat.le_of_ble_eq_true rfl, Nat.le_of_ble_eq_true rfl⟩ ⟨_, _, Or.inl rfl, rfl, rfl⟩
  refine j_eq (lv' := [(3, .int (mI 0)), (2, .int (nI n)), (0, .ref t), (1, .int (nI i))]) rfl rfl rfl ?_
  refine j_lv (lv' := [(3, .int (mI 0)), (2, .int (nI n)), (0, .ref t), (1, .int (nI i))]) (by simp only [List.mem_cons, List.not_mem_nil, or_false, forall_eq_or_imp, forall_eq, true_or, or_true, and_self, Nat.add_zero]) ?_
  exact L9 29 0 _ (by omega)
set_option maxHeartbeats 4000000 in
set_option maxRecDepth 100000 in
theorem c_isThereAhead (l : Launch) (E : jE) (A : Nat → Prop) {t sz sg la : Nat} {z g b : Nat → Int32} {rest : va_W} {i j : Nat} (hi : i < 9) (hj : j < 9) (hT : ∀ i, i < 9 → txOk z g i) : jMet l yX1_isThereAhead cX1_isThereAhead 3 (some .boolean) 3 0 0 E A [.ref t, .int (nI i), .int (nI j)] (tW E t sz sg la z g b rest) (jRe P01 (tW E t sz sg la z g b rest)) jNo := by
  refine jMet.intro' [(0, .ref t), (1, .int (nI i)), (2, .int (nI j))] (by decide) (Nat.le_of_ble_eq_true rfl) rfl ?_
  intro p e R s m args below meth c Q C hQ
  refine j_aload_n C dX1_isThereAhead_0 rfl ?_
  refine j_iload_n C dX1_isThereAhead_1 rfl ?_
  refine j_callVr C 0 (v := .int (bI (z i = -1))) (w := (tW E t sz sg la z g b rest)) (c_isAway l E A (by omega)) ok_X2_isAway w_141 (by decide) rfl rfl (Nat.le_of_ble_eq_true rfl) rfl rfl ⟨Nat.le_of_ble_eq_true rfl, Nat.le_of_ble_eq_true rfl⟩ dX1_isThereAhead_2 ?_
  refine j_ifb_ne (tgt := 29) C dX1_isThereAhead_5 (by decide) (fun h5 => ?_) (fun h5 => ?_)
  · skip
    refine j_iconst (v := (nI 0)) C dX1_isThereAhead_29 rfl ?_
    exact j_zret C hQ rfl rfl dX1_isThereAhead_30 ⟨Nat.le_of_ble_eq_true rfl, Nat.le_of_ble_eq_true rfl⟩ ⟨⟨_, rfl, Or.inl rfl⟩, rfl⟩
  · skip
    refine j_aload_n C dX1_isThereAhead_8 rfl ?_
    refine j_iload_n C dX1_isThereAhead_9 rfl ?_
    refine j_callVr C 0 (v := .int (bI (z j = -1))) (w := (tW E t sz sg la z g b rest)) (c_isAway l E A (by omega)) ok_X2_isAway w_141 (by decide) rfl rfl (Nat.le_of_ble_eq_true rfl) rfl rfl ⟨Nat.le_of_ble_eq_true rfl, Nat.le_of_ble_eq_true rfl⟩ dX1_isThereAhead_10 ?_
    refine j_ifb_ne (tgt := 29) C dX1_isThereAhead_13 (by decide) (fun h13 => ?_) (fun h13 => ?_)
    · skip
      refine j_iconst (v := (nI 0)) C dX1_isThereAhead_29 rfl ?_
      exact j_zret C hQ rfl rfl dX1_isThereAhead_30 ⟨Nat.le_of_ble_eq_true rfl, Nat.le_of_ble_eq_true rfl⟩ ⟨⟨_, rfl, Or.inl rfl⟩, rfl⟩
    · skip
      refine j_aload_n C dX1_isThereAhead_16 rfl ?_
      refine j_iload_n C dX1_isThereAhead_17 rfl ?_
      refine j_iload_n C dX1_isThereAhead_18 rfl ?_
      refine j_callVr C 0 (v := .int (cmpS z g i j)) (w := (tW E t sz sg la z g b rest)) (c_cmpS l E A (by omega) (by omega) hT h5 h13) ok_X2_compared w_203 (by decide) rfl rfl (Nat.le_of_ble_eq_true rfl) rfl rfl ⟨Nat.le_of_ble_eq_true rfl, Nat.le_of_ble_eq_true rfl⟩ dX1_isThereAhead_19 ?_
      refine j_if_ge (tgt := 29) C dX1_isThereAhead_22 (by decide) (fun h22 => ?_) (fun h22 => ?_)
      · skip
        refine j_iconst (v := (nI 0)) C dX1_isThereAhead_29 rfl ?_
        exact j_zret C hQ rfl rfl dX1_isThereAhead_30 ⟨Nat.le_of_ble_eq_true rfl, Nat.le_of_ble_eq_true rfl⟩ ⟨⟨_, rfl, Or.inl rfl⟩, rfl⟩
      · skip
        refine j_iconst (v := (nI 1)) C dX1_isThereAhead_25 rfl ?_
        refine j_goto (tgt := 30) C dX1_isThereAhead_26 (by decide) ?_
        exact j_zret C hQ rfl rfl dX1_isThereAhead_30 ⟨Nat.le_of_ble_eq_true rfl, Nat.le_of_ble_eq_true rfl⟩ ⟨⟨_, rfl, Or.inr rfl⟩, rfl⟩
set_option maxHeartbeats 4000000 in
set_option maxRecDepth 100000 in
theorem c_areChains (l : Launch) (E : jE) (A : Nat → Prop) {t sz sg la : Nat} {z g b : Nat → Int32} {rest : va_W} (hT : ∀ i, i < 9 → txOk z g i) : jMet l yX1_areChainsSound cX1_areChainsSound 4 (some .boolean) 4 0 0 E A [.ref t] (tW E t sz sg la z g b rest) (jRe P01 (tW E t sz sg la z g b rest)) jNo := by
  refine jMet.intro' [(0, .ref t)] (by decide) (Nat.le_of_ble_eq_true rfl) rfl ?_
  intro p e R s m args below meth c Q C hQ
  refine j_iconst (v := (nI 0)) C dX1_areChainsSound_0 rfl ?_
  refine j_istore_n (lv' := [(1, .int (nI 0)), (0, .ref t)]) C dX1_areChainsSound_1 (by decide) rfl ?_
  have L2 : ∀ (r k : Nat), k + r = 9 → jJ p l e R s m args below meth c E A 4 Q 0 0 2 [(1, .int (nI k)), (0, .ref t)] [] (tW E t sz sg la z g b rest) := by
    intro r
    induction r with
    | zero =>
      intro k  hk2 
      refine j_iload_n C dX1_areChainsSound_2 rfl ?_
      refine j_bipush (v := (nI 9)) C dX1_areChainsSound_3 rfl ?_
      refine j_icmpn_ge_t (tgt := 74) C dX1_areChainsSound_5 (by decide) (by omega) (by omega) (by omega) ?_
      refine j_iconst (v := (nI 1)) C dX1_areChainsSound_74 rfl ?_
      exact j_zret C hQ rfl rfl dX1_areChainsSound_75 ⟨Nat.le_of_ble_eq_true rfl, Nat.le_of_ble_eq_true rfl⟩ ⟨⟨_, rfl, Or.inr rfl⟩, rfl⟩
    | succ r ih2 =>
      intro k  hk2 
      refine j_iload_n C dX1_areChainsSound_2 rfl ?_
      refine j_bipush (v := (nI 9)) C dX1_areChainsSound_3 rfl ?_
      refine j_icmpn_ge_f (tgt := 74) C dX1_areChainsSound_5 (by decide) (by omega) (by omega) (by omega) ?_
      refine j_iconst (v := (nI 0)) C dX1_areChainsSound_8 rfl ?_
      refine j_istore_n (lv' := [(2, .int (nI 0)), (1, .int (nI k)), (0, .ref t)]) C dX1_areChainsSound_9 (by decide) rfl ?_
      have L10 : ∀ (r j : Nat), j + r = 9 → jJ p l e R s m args below meth c E A 4 Q 0 0 10 [(2, .int (nI j)), (1, .int (nI k)), (0, .ref t)] [] (tW E t sz sg la z g b rest) := by
        intro r
        induction r with
        | zero =>
          intro j  hk10 
          refine j_iload_n C dX1_areChainsSound_10 rfl ?_
          refine j_bipush (v := (nI 9)) C dX1_areChainsSound_11 rfl ?_
          refine j_icmpn_ge_t (tgt := 68) C dX1_areChainsSound_13 (by decide) (by omega) (by omega) (by omega) ?_
          refine j_iinc (lv' := [(1, .int (nI (k + 1))), (2, .int (nI j)), (0, .ref t)]) C dX1_areChainsSound_68 rfl (nI_1 _) (by decide) rfl ?_
          refine j_goto (tgt := 2) C dX1_areChainsSound_71 (by decide) ?_
          refine j_lv (lv' := [(1, .int (nI (k + 1))), (0, .ref t)]) (by simp only [List.mem_cons, List.not_mem_nil, or_false, forall_eq_or_imp, forall_eq, true_or, or_true, and_self, Nat.add_zero]) ?_
          exact ih2 (k + 1)  (by omega)
        | succ r ih10 =>
          intro j  hk10 
          refine j_iload_n C dX1_areChainsSound_10 rfl ?_
          refine j_bipush (v := (nI 9)) C dX1_areChainsSound_11 rfl ?_
          refine j_icmpn_ge_f (tgt := 68) C dX1_areChainsSound_13 (by decide) (by omega) (by omega) (by omega) ?_
          refine j_aload_n C dX1_areChainsSound_16 rfl ?_
          refine j_iload_n C dX1_areChainsSound_17 rfl ?_
          refine j_iload_n C dX1_areChainsSound_18 rfl ?_
          refine j_callSe C (w := (tW E t sz sg la z g b rest)) (c_isThereAhead l E A (by omega) (by omega) hT) ok_X1_isThereAhead w_217 (by decide) rfl rfl (Nat.le_of_ble_eq_true rfl) ⟨Nat.le_of_ble_eq_true rfl, Nat.le_of_ble_eq_true rfl⟩ dX1_areChainsSound_19 (fun u1 hu2 => ?_)
          refine j_if_ne (tgt := 28) C dX1_areChainsSound_22 (by decide) (fun h22 => ?_) (fun h22 => ?_)
          · skip
            refine j_iconst (v := (nI 0)) C dX1_areChainsSound_28 rfl ?_
            refine j_istore_n (lv' := [(3, .int (nI 0)), (2, .int (nI j)), (1, .int (nI k)), (0, .ref t)]) C dX1_areChainsSound_29 (by decide) rfl ?_
            have L30 : ∀ (r o : Nat), o + r = 9 → jJ p l e R s m args below meth c E A 4 Q 0 0 30 [(3, .int (nI o)), (2, .int (nI j)), (1, .int (nI k)), (0, .ref t)] [] (tW E t sz sg la z g b rest) := by
              intro r
              induction r with
              | zero =>
                intro o  hk30 
                refine j_iload_n C dX1_areChainsSound_30 rfl ?_
                refine j_bipush (v := (nI 9)) C dX1_areChainsSound_31 rfl ?_
                refine j_icmpn_ge_t (tgt := 62) C dX1_areChainsSound_33 (by decide) (by omega) (by omega) (by omega) ?_
                refine j_iinc (lv' := [(2, .int (nI (j + 1))), (3, .int (nI o)), (1, .int (nI k)), (0, .ref t)]) C dX1_areChainsSound_62 rfl (nI_1 _) (by decide) rfl ?_
                refine j_goto (tgt := 10) C dX1_areChainsSound_65 (by decide) ?_
                refine j_lv (lv' := [(2, .int (nI (j + 1))), (1, .int (nI k)), (0, .ref t)]) (by simp only [List.mem_cons, List.not_mem_nil, or_false, forall_eq_or_imp, forall_eq, true_or, or_true, and_self, Nat.add_zero]) ?_
                exact ih10 (j + 1)  (by omega)
              | succ r ih30 =>
                intro o  hk30 
                refine j_iload_n C dX1_areChainsSound_30 rfl ?_
                refine j_bipush (v := (nI 9)) C dX1_areChainsSound_31 rfl ?_
                refine j_icmpn_ge_f (tgt := 62) C dX1_areChainsSound_33 (by decide) (by omega) (by omega) (by omega) ?_
                refine j_aload_n C dX1_areChainsSound_36 rfl ?_
                refine j_iload_n C dX1_areChainsSound_37 rfl ?_
                refine j_iload_n C dX1_areChainsSound_38 rfl ?_
                refine j_callSe C (w := (tW E t sz sg la z g b rest)) (c_isThereAhead l E A (by omega) (by omega) hT) ok_X1_isThereAhead w_217 (by decide) rfl rfl (Nat.le_of_ble_eq_true rfl) ⟨Nat.le_of_ble_eq_true rfl, Nat.le_of_ble_eq_true rfl⟩ dX1_areChainsSound_39 (fun u3 hu4 => ?_)
                refine j_if_eq (tgt := 56) C dX1_areChainsSound_42 (by decide) (fun h42 => ?_) (fun h42 => ?_)
                · skip
                  refine j_iinc (lv' := [(3, .int (nI (o + 1))), (2, .int (nI j)), (1, .int (nI k)), (0, .ref t)]) C dX1_areChainsSound_56 rfl (nI_1 _) (by decide) rfl ?_
                  refine j_goto (tgt := 30) C dX1_areChainsSound_59 (by decide) ?_
                  refine j_lv (lv' := [(3, .int (nI (o + 1))), (2, .int (nI j)), (1, .int (nI k)), (0, .ref t)]) (by simp only [List.mem_cons, List.not_mem_nil, or_false, forall_eq_or_imp, forall_eq, true_or, or_true, and_self, Nat.add_zero]) ?_
                  exact ih30 (o + 1)  (by omega)
                · skip
                  refine j_aload_n C dX1_areChainsSound_45 rfl ?_
                  refine j_iload_n C dX1_areChainsSound_46 rfl ?_
                  refine j_iload_n C dX1_areChainsSound_47 rfl ?_
                  refine j_callSe C (w := (tW E t sz sg la z g b rest)) (c_isThereAhead l E A (by omega) (by omega) hT) ok_X1_isThereAhead w_217 (by decide) rfl rfl (Nat.le_of_ble_eq_true rfl) ⟨Nat.le_of_ble_eq_true rfl, Nat.le_of_ble_eq_true rfl⟩ dX1_areChainsSound_48 (fun u5 hu6 => ?_)
                  refine j_if_ne (tgt := 56) C dX1_areChainsSound_51 (by decide) (fun h51 => ?_) (fun h51 => ?_)
                  · skip
                    refine j_iinc (lv' := [(3, .int (nI (o + 1))), (2, .int (nI j)), (1, .int (nI k)), (0, .ref t)]) C dX1_areChainsSound_56 rfl (nI_1 _) (by decide) rfl ?_
                    refine j_goto (tgt := 30) C dX1_areChainsSound_59 (by decide) ?_
                    refine j_lv (lv' := [(3, .int (nI (o + 1))), (2, .int (nI j)), (1, .int (nI k)), (0, .ref t)]) (by simp only [List.mem_cons, List.not_mem_nil, or_false, forall_eq_or_imp, forall_eq, true_or, or_true, and_self, Nat.add_zero]) ?_
                    exact ih30 (o + 1)  (by omega)
                  · skip
                    refine j_iconst (v := (nI 0)) C dX1_areChainsSound_54 rfl ?_
                    exact j_zret C hQ rfl rfl dX1_areChainsSound_55 ⟨Nat.le_of_ble_eq_true rfl, Nat.le_of_ble_eq_true rfl⟩ ⟨⟨_, rfl, Or.inl rfl⟩, rfl⟩
            refine j_lv (lv' := [(3, .int (nI 0)), (2, .int (nI j)), (1, .int (nI k)), (0, .ref t)]) (by simp only [List.mem_cons, List.not_mem_nil, or_false, forall_eq_or_imp, forall_eq, true_or, or_true, and_self, Nat.add_zero]) ?_
            exact L30 9 0  (by omega)
          · skip
            refine j_goto (tgt := 62) C dX1_areChainsSound_25 (by decide) ?_
            refine j_iinc (lv' := [(2, .int (nI (j + 1))), (1, .int (nI k)), (0, .ref t)]) C dX1_areChainsSound_62 rfl (nI_1 _) (by decide) rfl ?_
            refine j_goto (tgt := 10) C dX1_areChainsSound_65 (by decide) ?_
            refine j_lv (lv' := [(2, .int (nI (j + 1))), (1, .int (nI k)), (0, .ref t)]) (by simp only [List.mem_cons, List.not_mem_nil, or_false, forall_eq_or_imp, forall_eq, true_or, or_true, and_self, Nat.add_zero]) ?_
            exact ih10 (j + 1)  (by omega)
      refine j_lv (lv' := [(2, .int (nI 0)), (1, .int (nI k)), (0, .ref t)]) (by simp only [List.mem_cons, List.not_mem_nil, or_false, forall_eq_or_imp, forall_eq, true_or, or_true, and_self, Nat.add_zero]) ?_
      exact L10 9 0  (by omega)
  refine j_lv (lv' := [(1, .int (nI 0)), (0, .ref t)]) (by simp only [List.mem_cons, List.not_mem_nil, or_false, forall_eq_or_imp, forall_eq, true_or, or_true, and_self, Nat.add_zero]) ?_
  exact L2 9 0  (by omega)
set_option maxHeartbeats 4000000 in
set_option maxRecDepth 100000 in
theorem c_isSoundPairThere (l : Launch) (E : jE) (A : Nat → Prop) {t sz sg la : Nat} {z g b : Nat → Int32} {rest : va_W} {i j : Nat} (hi : i < 9) (hj : j < 9) (hT : ∀ i, i < 9 → txOk z g i) (e1 : ¬ z i = -1) (e2 : ¬ z j = -1) : jMet l yX1_isSoundPairThere cX1_isSoundPairThere 5 (some .boolean) 3 0 0 E A [.ref t, .int (nI i), .int (nI j)] (tW E t sz sg la z g b rest) (jRe P01 (tW E t sz sg la z g b rest)) jNo := by
  refine jMet.intro' [(0, .ref t), (1, .int (nI i)), (2, .int (nI j))] (by decide) (Nat.le_of_ble_eq_true rfl) rfl ?_
  intro p e R s m args below meth c Q C hQ
  refine j_aload_n C dX1_isSoundPairThere_0 rfl ?_
  refine j_iload_n C dX1_isSoundPairThere_1 rfl ?_
  refine j_iload_n C dX1_isSoundPairThere_2 rfl ?_
  refine j_callVr C 0 (v := .int (cmpS z g i j)) (w := (tW E t sz sg la z g b rest)) (c_cmpS l E A hi hj hT e1 e2) ok_X2_compared w_203 (by decide) rfl rfl (Nat.le_of_ble_eq_true rfl) rfl rfl ⟨Nat.le_of_ble_eq_true rfl, Nat.le_of_ble_eq_true rfl⟩ dX1_isSoundPairThere_3 ?_
  refine j_istore_n (lv' := [(3, .int (cmpS z g i j)), (0, .ref t), (1, .int (nI i)), (2, .int (nI j))]) C dX1_isSoundPairThere_6 (by decide) rfl ?_
  refine j_aload_n C dX1_isSoundPairThere_7 rfl ?_
  refine j_iload_n C dX1_isSoundPairThere_8 rfl ?_
  refine j_iload_n C dX1_isSoundPairThere_9 rfl ?_
  refine j_callVr C 0 (v := .int (samS z g i j)) (w := (tW E t sz sg la z g b rest)) (c_samS l E A hi hj hT) ok_X2_haveSameSigns w_204 (by decide) rfl rfl (Nat.le_of_ble_eq_true rfl) rfl rfl ⟨Nat.le_of_ble_eq_true rfl, Nat.le_of_ble_eq_true rfl⟩ dX1_isSoundPairThere_10 ?_
  refine j_istore (lv' := [(4, .int (samS z g i j)), (3, .int (cmpS z g i j)), (0, .ref t), (1, .int (nI i)), (2, .int (nI j))]) C dX1_isSoundPairThere_13 (by decide) rfl ?_
  refine j_iload_n C dX1_isSoundPairThere_15 rfl ?_
  refine j_aload_n C dX1_isSoundPairThere_16 rfl ?_
  refine j_iload_n C dX1_isSoundPairThere_17 rfl ?_
  refine j_iload_n C dX1_isSoundPairThere_18 rfl ?_
  refine j_callVr C 0 (v := .int (cmpS z g j i)) (w := (tW E t sz sg la z g b rest)) (c_cmpS l E A hj hi hT e2 e1) ok_X2_compared w_203 (by decide) rfl rfl (Nat.le_of_ble_eq_true rfl) rfl rfl ⟨Nat.le_of_ble_eq_true rfl, Nat.le_of_ble_eq_true rfl⟩ dX1_isSoundPairThere_19 ?_
  refine j_ineg (z := (-(cmpS z g j i))) C dX1_isSoundPairThere_22 rfl ?_
  refine j_icmp_ne (tgt := 62) C dX1_isSoundPairThere_23 (by decide) (fun h23 => ?_) (fun h23 => ?_)
  · skip
    refine j_iconst (v := (nI 0)) C dX1_isSoundPairThere_62 rfl ?_
    exact j_zret C hQ rfl rfl dX1_isSoundPairThere_63 ⟨Nat.le_of_ble_eq_true rfl, Nat.le_of_ble_eq_true rfl⟩ ⟨⟨_, rfl, Or.inl rfl⟩, rfl⟩
  · skip
    refine j_iload_n C dX1_isSoundPairThere_26 rfl ?_
    refine j_if_ne (tgt := 34) C dX1_isSoundPairThere_27 (by decide) (fun h27 => ?_) (fun h27 => ?_)
    · skip
      refine j_iconst (v := (nI 0)) C dX1_isSoundPairThere_34 rfl ?_
      refine j_iload C dX1_isSoundPairThere_35 rfl ?_
      refine j_icmp_ne (tgt := 62) C dX1_isSoundPairThere_37 (by decide) (fun h37 => ?_) (fun h37 => ?_)
      · skip
        refine j_iconst (v := (nI 0)) C dX1_isSoundPairThere_62 rfl ?_
        exact j_zret C hQ rfl rfl dX1_isSoundPairThere_63 ⟨Nat.le_of_ble_eq_true rfl, Nat.le_of_ble_eq_true rfl⟩ ⟨⟨_, rfl, Or.inl rfl⟩, rfl⟩
      · skip
        refine j_iload C dX1_isSoundPairThere_40 rfl ?_
        refine j_if_eq (tgt := 58) C dX1_isSoundPairThere_42 (by decide) (fun h42 => ?_) (fun h42 => ?_)
        · skip
          refine j_iconst (v := (nI 1)) C dX1_isSoundPairThere_58 rfl ?_
          refine j_goto (tgt := 63) C dX1_isSoundPairThere_59 (by decide) ?_
          exact j_zret C hQ rfl rfl dX1_isSoundPairThere_63 ⟨Nat.le_of_ble_eq_true rfl, Nat.le_of_ble_eq_true rfl⟩ ⟨⟨_, rfl, Or.inr rfl⟩, rfl⟩
        · skip
          refine j_aload_n C dX1_isSoundPairThere_45 rfl ?_
          refine j_iload_n C dX1_isSoundPairThere_46 rfl ?_
          refine j_callVr C 0 (v := .int (codS z g i)) (w := (tW E t sz sg la z g b rest)) (c_codeOf l E A hi (hT i hi)) ok_X2_codeOf w_208 (by decide) rfl rfl (Nat.le_of_ble_eq_true rfl) rfl rfl ⟨Nat.le_of_ble_eq_true rfl, Nat.le_of_ble_eq_true rfl⟩ dX1_isSoundPairThere_47 ?_
          refine j_aload_n C dX1_isSoundPairThere_50 rfl ?_
          refine j_iload_n C dX1_isSoundPairThere_51 rfl ?_
          refine j_callVr C 0 (v := .int (codS z g j)) (w := (tW E t sz sg la z g b rest)) (c_codeOf l E A hj (hT j hj)) ok_X2_codeOf w_208 (by decide) rfl rfl (Nat.le_of_ble_eq_true rfl) rfl rfl ⟨Nat.le_of_ble_eq_true rfl, Nat.le_of_ble_eq_true rfl⟩ dX1_isSoundPairThere_52 ?_
          refine j_icmp_ne (tgt := 62) C dX1_isSoundPairThere_55 (by decide) (fun h55 => ?_) (fun h55 => ?_)
          · skip
            refine j_iconst (v := (nI 0)) C dX1_isSoundPairThere_62 rfl ?_
            exact j_zret C hQ rfl rfl dX1_isSoundPairThere_63 ⟨Nat.le_of_ble_eq_true rfl, Nat.le_of_ble_eq_true rfl⟩ ⟨⟨_, rfl, Or.inl rfl⟩, rfl⟩
          · skip
            refine j_iconst (v := (nI 1)) C dX1_isSoundPairThere_58 rfl ?_
            refine j_goto (tgt := 63) C dX1_isSoundPairThere_59 (by decide) ?_
            exact j_zret C hQ rfl rfl dX1_isSoundPairThere_63 ⟨Nat.le_of_ble_eq_true rfl, Nat.le_of_ble_eq_true rfl⟩ ⟨⟨_, rfl, Or.inr rfl⟩, rfl⟩
    · skip
      refine j_iconst (v := (nI 1)) C dX1_isSoundPairThere_30 rfl ?_
      refine j_goto (tgt := 35) C dX1_isSoundPairThere_31 (by decide) ?_
      refine j_iload C dX1_isSoundPairThere_35 rfl ?_
      refine j_icmp_ne (tgt := 62) C dX1_isSoundPairThere_37 (by decide) (fun h37 => ?_) (fun h37 => ?_)
      · skip
        refine j_iconst (v := (nI 0)) C dX1_isSoundPairThere_62 rfl ?_
        exact j_zret C hQ rfl rfl dX1_isSoundPairThere_63 ⟨Nat.le_of_ble_eq_true rfl, Nat.le_of_ble_eq_true rfl⟩ ⟨⟨_, rfl, Or.inl rfl⟩, rfl⟩
      · skip
        refine j_iload C dX1_isSoundPairThere_40 rfl ?_
        refine j_if_eq (tgt := 58) C dX1_isSoundPairThere_42 (by decide) (fun h42 => ?_) (fun h42 => ?_)
        · skip
          refine j_iconst (v := (nI 1)) C dX1_isSoundPairThere_58 rfl ?_
          refine j_goto (tgt := 63) C dX1_isSoundPairThere_59 (by decide) ?_
          exact j_zret C hQ rfl rfl dX1_isSoundPairThere_63 ⟨Nat.le_of_ble_eq_true rfl, Nat.le_of_ble_eq_true rfl⟩ ⟨⟨_, rfl, Or.inr rfl⟩, rfl⟩
        · skip
          refine j_aload_n C dX1_isSoundPairThere_45 rfl ?_
          refine j_iload_n C dX1_isSoundPairThere_46 rfl ?_
          refine j_callVr C 0 (v := .int (codS z g i)) (w := (tW E t sz sg la z g b rest)) (c_codeOf l E A hi (hT i hi)) ok_X2_codeOf w_208 (by decide) rfl rfl (Nat.le_of_ble_eq_true rfl) rfl rfl ⟨Nat.le_of_ble_eq_true rfl, Nat.le_of_ble_eq_true rfl⟩ dX1_isSoundPairThere_47 ?_
          refine j_aload_n C dX1_isSoundPairThere_50 rfl ?_
          refine j_iload_n C dX1_isSoundPairThere_51 rfl ?_
          refine j_callVr C 0 (v := .int (codS z g j)) (w := (tW E t sz sg la z g b rest)) (c_codeOf l E A hj (hT j hj)) ok_X2_codeOf w_208 (by decide) rfl rfl (Nat.le_of_ble_eq_true rfl) rfl rfl ⟨Nat.le_of_ble_eq_true rfl, Nat.le_of_ble_eq_true rfl⟩ dX1_isSoundPairThere_52 ?_
          refine j_icmp_ne (tgt := 62) C dX1_isSoundPairThere_55 (by decide) (fun h55 => ?_) (fun h55 => ?_)
          · skip
            refine j_iconst (v := (nI 0)) C dX1_isSoundPairThere_62 rfl ?_
            exact j_zret C hQ rfl rfl dX1_isSoundPairThere_63 ⟨Nat.le_of_ble_eq_true rfl, Nat.le_of_ble_eq_true rfl⟩ ⟨⟨_, rfl, Or.inl rfl⟩, rfl⟩
          · skip
            refine j_iconst (v := (nI 1)) C dX1_isSoundPairThere_58 rfl ?_
            refine j_goto (tgt := 63) C dX1_isSoundPairThere_59 (by decide) ?_
            exact j_zret C hQ rfl rfl dX1_isSoundPairThere_63 ⟨Nat.le_of_ble_eq_true rfl, Nat.le_of_ble_eq_true rfl⟩ ⟨⟨_, rfl, Or.inr rfl⟩, rfl⟩
set_option maxHeartbeats 4000000 in
set_option maxRecDepth 100000 in
theorem c_isSoundPair (l : Launch) (E : jE) (A : Nat → Prop) {t sz sg la : Nat} {z g b : Nat → Int32} {rest : va_W} {i j : Nat} (hi : i < 9) (hj : j < 9) (hT : ∀ i, i < 9 → txOk z g i) : jMet l yX1_isSoundPair cX1_isSoundPair 4 (some .boolean) 4 0 0 E A [.ref t, .int (nI i), .int (nI j)] (tW E t sz sg la z g b rest) (jRe P01 (tW E t sz sg la z g b rest)) jNo := by
  refine jMet.intro' [(0, .ref t), (1, .int (nI i)), (2, .int (nI j))] (by decide) (Nat.le_of_ble_eq_true rfl) rfl ?_
  intro p e R s m args below meth c Q C hQ
  refine j_iconst (v := (nI 0)) C dX1_isSoundPair_0 rfl ?_
  refine j_istore_n (lv' := [(3, .int (nI 0)), (0, .ref t), (1, .int (nI i)), (2, .int (nI j))]) C dX1_isSoundPair_1 (by decide) rfl ?_
  have L2 : ∀ (r k : Nat), k + r = 4 → jJ p l e R s m args below meth c E A 4 Q 0 0 2 [(3, .int (nI k)), (0, .ref t), (1, .int (nI i)), (2, .int (nI j))] [] (tW E t sz sg la z g b rest) := by
    intro r
    induction r with
    | zero =>
      intro k  hk2 
      refine j_iload_n C dX1_isSoundPair_2 rfl ?_
      refine j_iconst (v := (nI 3)) C dX1_isSoundPair_3 rfl ?_
      refine j_icmpn_gt_t (tgt := 33) C dX1_isSoundPair_4 (by decide) (by omega) (by omega) (by omega) ?_
      refine j_aload_n C dX1_isSoundPair_33 rfl ?_
      refine j_iload_n C dX1_isSoundPair_34 rfl ?_
      refine j_callVr C 0 (v := .int (bI (z i = -1))) (w := (tW E t sz sg la z g b rest)) (c_isAway l E A (by omega)) ok_X2_isAway w_141 (by decide) rfl rfl (Nat.le_of_ble_eq_true rfl) rfl rfl ⟨Nat.le_of_ble_eq_true rfl, Nat.le_of_ble_eq_true rfl⟩ dX1_isSoundPair_35 ?_
      refine j_ifb_ne (tgt := 58) C dX1_isSoundPair_38 (by decide) (fun h38 => ?_) (fun h38 => ?_)
      · skip
        refine j_iconst (v := (nI 1)) C dX1_isSoundPair_58 rfl ?_
        refine j_goto (tgt := 63) C dX1_isSoundPair_59 (by decide) ?_
        exact j_zret C hQ rfl rfl dX1_isSoundPair_63 ⟨Nat.le_of_ble_eq_true rfl, Nat.le_of_ble_eq_true rfl⟩ ⟨⟨_, rfl, Or.inr rfl⟩, rfl⟩
      · skip
        refine j_aload_n C dX1_isSoundPair_41 rfl ?_
        refine j_iload_n C dX1_isSoundPair_42 rfl ?_
        refine j_callVr C 0 (v := .int (bI (z j = -1))) (w := (tW E t sz sg la z g b rest)) (c_isAway l E A (by omega)) ok_X2_isAway w_141 (by decide) rfl rfl (Nat.le_of_ble_eq_true rfl) rfl rfl ⟨Nat.le_of_ble_eq_true rfl, Nat.le_of_ble_eq_true rfl⟩ dX1_isSoundPair_43 ?_
        refine j_ifb_ne (tgt := 58) C dX1_isSoundPair_46 (by decide) (fun h46 => ?_) (fun h46 => ?_)
        · skip
          refine j_iconst (v := (nI 1)) C dX1_isSoundPair_58 rfl ?_
          refine j_goto (tgt := 63) C dX1_isSoundPair_59 (by decide) ?_
          exact j_zret C hQ rfl rfl dX1_isSoundPair_63 ⟨Nat.le_of_ble_eq_true rfl, Nat.le_of_ble_eq_true rfl⟩ ⟨⟨_, rfl, Or.inr rfl⟩, rfl⟩
        · skip
          refine j_aload_n C dX1_isSoundPair_49 rfl ?_
          refine j_iload_n C dX1_isSoundPair_50 rfl ?_
          refine j_iload_n C dX1_isSoundPair_51 rfl ?_
          refine j_callSe C (w := (tW E t sz sg la z g b rest)) (c_isSoundPairThere l E A hi hj hT h38 h46) ok_X1_isSoundPairThere w_200 (by decide) rfl rfl (Nat.le_of_ble_eq_true rfl) ⟨Nat.le_of_ble_eq_true rfl, Nat.le_of_ble_eq_true rfl⟩ dX1_isSoundPair_52 (fun u1 hu2 => ?_)
          refine j_if_eq (tgt := 62) C dX1_isSoundPair_55 (by decide) (fun h55 => ?_) (fun h55 => ?_)
          · skip
            refine j_iconst (v := (nI 0)) C dX1_isSoundPair_62 rfl ?_
            exact j_zret C hQ rfl rfl dX1_isSoundPair_63 ⟨Nat.le_of_ble_eq_true rfl, Nat.le_of_ble_eq_true rfl⟩ ⟨⟨_, rfl, Or.inl rfl⟩, rfl⟩
          · skip
            refine j_iconst (v := (nI 1)) C dX1_isSoundPair_58 rfl ?_
            refine j_goto (tgt := 63) C dX1_isSoundPair_59 (by decide) ?_
            exact j_zret C hQ rfl rfl dX1_isSoundPair_63 ⟨Nat.le_of_ble_eq_true rfl, Nat.le_of_ble_eq_true rfl⟩ ⟨⟨_, rfl, Or.inr rfl⟩, rfl⟩
    | succ r ih2 =>
      intro k  hk2 
      refine j_iload_n C dX1_isSoundPair_2 rfl ?_
      refine j_iconst (v := (nI 3)) C dX1_isSoundPair_3 rfl ?_
      refine j_icmpn_gt_f (tgt := 33) C dX1_isSoundPair_4 (by decide) (by omega) (by omega) (by omega) ?_
      refine j_aload_n C dX1_isSoundPair_7 rfl ?_
      refine j_iload_n C dX1_isSoundPair_8 rfl ?_
      refine j_iload_n C dX1_isSoundPair_9 rfl ?_
      refine j_iload_n C dX1_isSoundPair_10 rfl ?_
      refine j_callVr C 0 (v := .int (ordV z g i j k)) (w := (tW E t sz sg la z g b rest)) (c_ordered l E A hi hj (by omega) hT) ok_X2_ordered w_186 (by decide) rfl rfl (Nat.le_of_ble_eq_true rfl) rfl rfl ⟨Nat.le_of_ble_eq_true rfl, Nat.le_of_ble_eq_true rfl⟩ dX1_isSoundPair_11 ?_
      refine j_aload_n C dX1_isSoundPair_14 rfl ?_
      refine j_iload_n C dX1_isSoundPair_15 rfl ?_
      refine j_iload_n C dX1_isSoundPair_16 rfl ?_
      refine j_iload_n C dX1_isSoundPair_17 rfl ?_
      refine j_callVr C 0 (v := .int (ordV z g j i k)) (w := (tW E t sz sg la z g b rest)) (c_ordered l E A hj hi (by omega) hT) ok_X2_ordered w_186 (by decide) rfl rfl (Nat.le_of_ble_eq_true rfl) rfl rfl ⟨Nat.le_of_ble_eq_true rfl, Nat.le_of_ble_eq_true rfl⟩ dX1_isSoundPair_18 ?_
      refine j_ineg (z := (-(ordV z g j i k))) C dX1_isSoundPair_21 rfl ?_
      refine j_icmp_eq (tgt := 27) C dX1_isSoundPair_22 (by decide) (fun h22 => ?_) (fun h22 => ?_)
      · skip
        refine j_iinc (lv' := [(3, .int (nI (k + 1))), (0, .ref t), (1, .int (nI i)), (2, .int (nI j))]) C dX1_isSoundPair_27 rfl (nI_1 _) (by decide) rfl ?_
        refine j_goto (tgt := 2) C dX1_isSoundPair_30 (by decide) ?_
        refine j_lv (lv' := [(3, .int (nI (k + 1))), (0, .ref t), (1, .int (nI i)), (2, .int (nI j))]) (by simp only [List.mem_cons, List.not_mem_nil, or_false, forall_eq_or_imp, forall_eq, true_or, or_true, and_self, Nat.add_zero]) ?_
        exact ih2 (k + 1)  (by omega)
      · skip
        refine j_iconst (v := (nI 0)) C dX1_isSoundPair_25 rfl ?_
        exact j_zret C hQ rfl rfl dX1_isSoundPair_26 ⟨Nat.le_of_ble_eq_true rfl, Nat.le_of_ble_eq_true rfl⟩ ⟨⟨_, rfl, Or.inl rfl⟩, rfl⟩
  refine j_lv (lv' := [(3, .int (nI 0)), (0, .ref t), (1, .int (nI i)), (2, .int (nI j))]) (by simp only [List.mem_cons, List.not_mem_nil, or_false, forall_eq_or_imp, forall_eq, true_or, or_true, and_self, Nat.add_zero]) ?_
  exact L2 4 0  (by omega)
set_option maxHeartbeats 4000000 in
set_option maxRecDepth 100000 in
theorem c_holds (l : Launch) (E : jE) (A : Nat → Prop) {t sz sg la : Nat} {z g b : Nat → Int32} {rest : va_W} (hT : ∀ i, i < 9 → txOk z g i) : jMet l yX1_holds cX1_holds 3 (some .boolean) 5 0 0 E A [.ref t] (tW E t sz sg la z g b rest) (tB E t sz sg la z g rest) jNo := by
  refine jMet.intro' [(0, .ref t)] (by decide) (Nat.le_of_ble_eq_true rfl) rfl ?_
  intro p e R s m args below meth c Q C hQ
  refine j_iconst (v := (nI 0)) C dX1_holds_0 rfl ?_
  refine j_istore_n (lv' := [(1, .int (nI 0)), (0, .ref t)]) C dX1_holds_1 (by decide) rfl ?_
  have L2 : ∀ (r k : Nat) (b : Nat → Int32), k + r = 9 → jJ p l e R s m args below meth c E A 3 Q 0 0 2 [(1, .int (nI k)), (0, .ref t)] [] (tW E t sz sg la z g b rest) := by
    intro r
    induction r with
    | zero =>
      intro k b hk2 
      refine j_iload_n C dX1_holds_2 rfl ?_
      refine j_bipush (v := (nI 9)) C dX1_holds_3 rfl ?_
      refine j_icmpn_ge_t (tgt := 57) C dX1_holds_5 (by decide) (by omega) (by omega) (by omega) ?_
      refine j_aload_n C dX1_holds_57 rfl ?_
      refine j_callSe C (w := (tW E t sz sg la z g b rest)) (c_areChains l E A hT) ok_X1_areChainsSound w_214 (by decide) rfl rfl (Nat.le_of_ble_eq_true rfl) ⟨Nat.le_of_ble_eq_true rfl, Nat.le_of_ble_eq_true rfl⟩ dX1_holds_58 (fun u1 hu2 => ?_)
      exact j_zret C hQ rfl (nar01 hu2) dX1_holds_61 ⟨Nat.le_of_ble_eq_true rfl, Nat.le_of_ble_eq_true rfl⟩ ⟨_, _, hu2, rfl, rfl⟩
    | succ r ih2 =>
      intro k b hk2 
      refine j_iload_n C dX1_holds_2 rfl ?_
      refine j_bipush (v := (nI 9)) C dX1_holds_3 rfl ?_
      refine j_icmpn_ge_f (tgt := 57) C dX1_holds_5 (by decide) (by omega) (by omega) (by omega) ?_
      refine j_aload_n C dX1_holds_8 rfl ?_
      refine j_iload_n C dX1_holds_9 rfl ?_
      refine j_callVr C 0 (v := .int (bI (z k = -1))) (w := (tW E t sz sg la z g b rest)) (c_isAway l E A (by omega)) ok_X2_isAway w_141 (by decide) rfl rfl (Nat.le_of_ble_eq_true rfl) rfl rfl ⟨Nat.le_of_ble_eq_true rfl, Nat.le_of_ble_eq_true rfl⟩ dX1_holds_10 ?_
      refine j_ifb_ne (tgt := 26) C dX1_holds_13 (by decide) (fun h13 => ?_) (fun h13 => ?_)
      · skip
        refine j_iconst (v := (nI 0)) C dX1_holds_26 rfl ?_
        refine j_istore_n (lv' := [(2, .int (nI 0)), (1, .int (nI k)), (0, .ref t)]) C dX1_holds_27 (by decide) rfl ?_
        have L28 : ∀ (r j : Nat) (b : Nat → Int32), j + r = 9 → jJ p l e R s m args below meth c E A 3 Q 0 0 28 [(2, .int (nI j)), (1, .int (nI k)), (0, .ref t)] [] (tW E t sz sg la z g b rest) := by
          intro r
          induction r with
          | zero =>
            intro j b hk28 
            refine j_iload_n C dX1_holds_28 rfl ?_
            refine j_bipush (v := (nI 9)) C dX1_holds_29 rfl ?_
            refine j_icmpn_ge_t (tgt := 51) C dX1_holds_31 (by decide) (by omega) (by omega) (by omega) ?_
            refine j_iinc (lv' := [(1, .int (nI (k + 1))), (2, .int (nI j)), (0, .ref t)]) C dX1_holds_51 rfl (nI_1 _) (by decide) rfl ?_
            refine j_goto (tgt := 2) C dX1_holds_54 (by decide) ?_
            refine j_lv (lv' := [(1, .int (nI (k + 1))), (0, .ref t)]) (by simp only [List.mem_cons, List.not_mem_nil, or_false, forall_eq_or_imp, forall_eq, true_or, or_true, and_self, Nat.add_zero]) ?_
            exact ih2 (k + 1) _ (by omega)
          | succ r ih28 =>
            intro j b hk28 
            refine j_iload_n C dX1_holds_28 rfl ?_
            refine j_bipush (v := (nI 9)) C dX1_holds_29 rfl ?_
            refine j_icmpn_ge_f (tgt := 51) C dX1_holds_31 (by decide) (by omega) (by omega) (by omega) ?_
            refine j_aload_n C dX1_holds_34 rfl ?_
            refine j_iload_n C dX1_holds_35 rfl ?_
            refine j_iload_n C dX1_holds_36 rfl ?_
            refine j_callSe C (w := (tW E t sz sg la z g b rest)) (c_isSoundPair l E A (by omega) (by omega) hT) ok_X1_isSoundPair w_183 (by decide) rfl rfl (Nat.le_of_ble_eq_true rfl) ⟨Nat.le_of_ble_eq_true rfl, Nat.le_of_ble_eq_true rfl⟩ dX1_holds_37 (fun u3 hu4 => ?_)
            refine j_if_ne (tgt := 45) C dX1_holds_40 (by decide) (fun h40 => ?_) (fun h40 => ?_)
            · skip
              refine j_iinc (lv' := [(2, .int (nI (j + 1))), (1, .int (nI k)), (0, .ref t)]) C dX1_holds_45 rfl (nI_1 _) (by decide) rfl ?_
              refine j_goto (tgt := 28) C dX1_holds_48 (by decide) ?_
              refine j_lv (lv' := [(2, .int (nI (j + 1))), (1, .int (nI k)), (0, .ref t)]) (by simp only [List.mem_cons, List.not_mem_nil, or_false, forall_eq_or_imp, forall_eq, true_or, or_true, and_self, Nat.add_zero]) ?_
              exact ih28 (j + 1) _ (by omega)
            · skip
              refine j_iconst (v := (nI 0)) C dX1_holds_43 rfl ?_
              exact j_zret C hQ rfl rfl dX1_holds_44 ⟨Nat.le_of_ble_eq_true rfl, Nat.le_of_ble_eq_true rfl⟩ ⟨_, _, Or.inl rfl, rfl, rfl⟩
        refine j_lv (lv' := [(2, .int (nI 0)), (1, .int (nI k)), (0, .ref t)]) (by simp only [List.mem_cons, List.not_mem_nil, or_false, forall_eq_or_imp, forall_eq, true_or, or_true, and_self, Nat.add_zero]) ?_
        exact L28 9 0 _ (by omega)
      · skip
        obtain ⟨n, hn, hz, hs⟩ := (hT k (by omega)).resolve_left h13
        refine j_aload_n C dX1_holds_16 rfl ?_
        refine j_iload_n C dX1_holds_17 rfl ?_
        refine j_callS C (c_isSoundAlone l E A (by omega) hn hz) ok_X1_isSoundAlone w_145 (by decide) rfl rfl (Nat.le_of_ble_eq_true rfl) ⟨Nat.le_of_ble_eq_true rfl, Nat.le_of_ble_eq_true rfl⟩ dX1_holds_18 (fun _ _ h => h.elim) (fun _ _ h => ?_)
        obtain ⟨u5, bb6, hu7, rfl, rfl⟩ := h
        refine j_if_ne (tgt := 26) C dX1_holds_21 (by decide) (fun h21 => ?_) (fun h21 => ?_)
        · skip
          refine j_iconst (v := (nI 0)) C dX1_holds_26 rfl ?_
          refine j_istore_n (lv' := [(2, .int (nI 0)), (1, .int (nI k)), (0, .ref t)]) C dX1_holds_27 (by decide) rfl ?_
          have L28 : ∀ (r j : Nat) (b : Nat → Int32), j + r = 9 → jJ p l e R s m args below meth c E A 3 Q 0 0 28 [(2, .int (nI j)), (1, .int (nI k)), (0, .ref t)] [] (tW E t sz sg la z g b rest) := by
            intro r
            induction r with
            | zero =>
              intro j b hk28 
              refine j_iload_n C dX1_holds_28 rfl ?_
              refine j_bipush (v := (nI 9)) C dX1_holds_29 rfl ?_
              refine j_icmpn_ge_t (tgt := 51) C dX1_holds_31 (by decide) (by omega) (by omega) (by omega) ?_
              refine j_iinc (lv' := [(1, .int (nI (k + 1))), (2, .int (nI j)), (0, .ref t)]) C dX1_holds_51 rfl (nI_1 _) (by decide) rfl ?_
              refine j_goto (tgt := 2) C dX1_holds_54 (by decide) ?_
              refine j_lv (lv' := [(1, .int (nI (k + 1))), (0, .ref t)]) (by simp only [List.mem_cons, List.not_mem_nil, or_false, forall_eq_or_imp, forall_eq, true_or, or_true, and_self, Nat.add_zero]) ?_
              exact ih2 (k + 1) _ (by omega)
            | succ r ih28 =>
              intro j b hk28 
              refine j_iload_n C dX1_holds_28 rfl ?_
              refine j_bipush (v := (nI 9)) C dX1_holds_29 rfl ?_
              refine j_icmpn_ge_f (tgt := 51) C dX1_holds_31 (by decide) (by omega) (by omega) (by omega) ?_
              refine j_aload_n C dX1_holds_34 rfl ?_
              refine j_iload_n C dX1_holds_35 rfl ?_
              refine j_iload_n C dX1_holds_36 rfl ?_
              refine j_callSe C (w := (tW E t sz sg la z g b rest)) (c_isSoundPair l E A (by omega) (by omega) hT) ok_X1_isSoundPair w_183 (by decide) rfl rfl (Nat.le_of_ble_eq_true rfl) ⟨Nat.le_of_ble_eq_true rfl, Nat.le_of_ble_eq_true rfl⟩ dX1_holds_37 (fun u8 hu9 => ?_)
              refine j_if_ne (tgt := 45) C dX1_holds_40 (by decide) (fun h40 => ?_) (fun h40 => ?_)
              · skip
                refine j_iinc (lv' := [(2, .int (nI (j + 1))), (1, .int (nI k)), (0, .ref t)]) C dX1_holds_45 rfl (nI_1 _) (by decide) rfl ?_
                refine j_goto (tgt := 28) C dX1_holds_48 (by decide) ?_
                refine j_lv (lv' := [(2, .int (nI (j + 1))), (1, .int (nI k)), (0, .ref t)]) (by simp only [List.mem_cons, List.not_mem_nil, or_false, forall_eq_or_imp, forall_eq, true_or, or_true, and_self, Nat.add_zero]) ?_
                exact ih28 (j + 1) _ (by omega)
              · skip
                refine j_iconst (v := (nI 0)) C dX1_holds_43 rfl ?_
                exact j_zret C hQ rfl rfl dX1_holds_44 ⟨Nat.le_of_ble_eq_true rfl, Nat.le_of_ble_eq_true rfl⟩ ⟨_, _, Or.inl rfl, rfl, rfl⟩
          refine j_lv (lv' := [(2, .int (nI 0)), (1, .int (nI k)), (0, .ref t)]) (by simp only [List.mem_cons, List.not_mem_nil, or_false, forall_eq_or_imp, forall_eq, true_or, or_true, and_self, Nat.add_zero]) ?_
          exact L28 9 0 _ (by omega)
        · skip
          refine j_iconst (v := (nI 0)) C dX1_holds_24 rfl ?_
          exact j_zret C hQ rfl rfl dX1_holds_25 ⟨Nat.le_of_ble_eq_true rfl, Nat.le_of_ble_eq_true rfl⟩ ⟨_, _, Or.inl rfl, rfl, rfl⟩
  refine j_lv (lv' := [(1, .int (nI 0)), (0, .ref t)]) (by simp only [List.mem_cons, List.not_mem_nil, or_false, forall_eq_or_imp, forall_eq, true_or, or_true, and_self, Nat.add_zero]) ?_
  exact L2 9 0 _ (by omega)
set_option maxHeartbeats 4000000 in
set_option maxRecDepth 100000 in
theorem f_isSound_k (l : Launch) (E : jE) (A : Nat → Prop) {t sz sg la dk : Nat} {z g b : Nat → Int32} {cr ca cg ck : Int32} {rest : va_W} (hT : ∀ i, i < 9 → txOk z g i) : jMet l yX3_isSound cX3_isSound 1 (some .boolean) 6 0 0 E A [.ref dk] (dW E t sz sg la dk z g b cr ca cg ck rest) (fun vv ww => ∃ (x : Int32) (bb : Nat → Int32), P01 x ∧ vv = some (.int x) ∧ ww = dW E t sz sg la dk z g bb cr ca cg ck rest) jNo := by
  refine jMet.intro' [(0, .ref dk)] (by decide) (Nat.le_of_ble_eq_true rfl) rfl ?_
  intro p e R s m args below meth c Q C hQ
  refine j_aload_n C dX3_isSound_0 rfl ?_
  refine j_get C 4 rfl inj_X3 rfl 0 (by decide) w_73 rfl dX3_isSound_1 ?_
  refine j_callS C (c_holds l E A hT) ok_X1_holds w_138 (by decide) rfl rfl (Nat.le_of_ble_eq_true rfl) ⟨Nat.le_of_ble_eq_true rfl, Nat.le_of_ble_eq_true rfl⟩ dX3_isSound_4 (fun _ _ h => h.elim) (fun _ _ h => ?_)
  obtain ⟨u1, bb2, hu3, rfl, rfl⟩ := h
  exact j_zret C hQ rfl (nar01 hu3) dX3_isSound_7 ⟨Nat.le_of_ble_eq_true rfl, Nat.le_of_ble_eq_true rfl⟩ ⟨_, _, hu3, rfl, rfl⟩
set_option maxHeartbeats 4000000 in
set_option maxRecDepth 100000 in
theorem f_insides_k (l : Launch) (E : jE) (A : Nat → Prop) {t sz sg la dk : Nat} {z g b : Nat → Int32} {cr ca cg ck : Int32} {rest : va_W} {i n w : Nat} (hi : i < 9) (hn : n ≤ 24) (hz : z i = nI n) (hw : w ≤ 2) : jMet l yX3_insides cX3_insides 4 (some .int) 5 0 0 E A [.ref dk, .int (nI i), .int (nI w)] (dW E t sz sg la dk z g b cr ca cg ck rest) (jR (some (.int (insV (nI n) w))) (dW E t sz sg la dk z g b cr ca cg ck rest)) jNo := by
  refine jMet.intro' [(0, .ref dk), (1, .int (nI i)), (2, .int (nI w))] (by decide) (Nat.le_of_ble_eq_true rfl) rfl ?_
  intro p e R s m args below meth c Q C hQ
  refine j_iload_n C dX3_insides_0 rfl ?_
  refine j_callSv C (w := (dW E t sz sg la dk z g b cr ca cg ck rest)) (c_wantSeat_r l E A (by omega)) ok_X3_wantSeat w_272 (by decide) rfl rfl (Nat.le_of_ble_eq_true rfl) ⟨Nat.le_of_ble_eq_true rfl, Nat.le_of_ble_eq_true rfl⟩ dX3_insides_1 ?_
  refine j_iload_n C dX3_insides_4 rfl ?_
  refine j_iconst (v := (nI 2)) C dX3_insides_5 rfl ?_
  refine j_callSv C (w := (dW E t sz sg la dk z g b cr ca cg ck rest)) (c_wantUpTo_r l E A (by omega) (by omega)) ok_X3_wantUpTo w_406 (by decide) rfl rfl (Nat.le_of_ble_eq_true rfl) ⟨Nat.le_of_ble_eq_true rfl, Nat.le_of_ble_eq_true rfl⟩ dX3_insides_6 ?_
  refine j_aload_n C dX3_insides_9 rfl ?_
  refine j_iload_n C dX3_insides_10 rfl ?_
  refine j_callVv C 4 (w := (dW E t sz sg la dk z g b cr ca cg ck rest)) (c_wantThere_r l E A (by omega) hn hz) ok_X3_wantThere w_365 (by decide) rfl rfl (Nat.le_of_ble_eq_true rfl) rfl rfl ⟨Nat.le_of_ble_eq_true rfl, Nat.le_of_ble_eq_true rfl⟩ dX3_insides_11 ?_
  refine j_aload_n C dX3_insides_14 rfl ?_
  refine j_get C 4 rfl inj_X3 rfl 0 (by decide) w_73 rfl dX3_insides_15 ?_
  refine j_iload_n C dX3_insides_18 rfl ?_
  refine j_callVr C 0 (v := .int (nI n)) (w := (dW E t sz sg la dk z g b cr ca cg ck rest)) (c_size_n l E A (by omega) hz) ok_X2_size w_241 (by decide) rfl rfl (Nat.le_of_ble_eq_true rfl) rfl rfl ⟨Nat.le_of_ble_eq_true rfl, Nat.le_of_ble_eq_true rfl⟩ dX3_insides_19 ?_
  refine j_istore_n (lv' := [(3, .int (nI n)), (0, .ref dk), (1, .int (nI i)), (2, .int (nI w))]) C dX3_insides_22 (by decide) rfl ?_
  have hw3 : w = 0 ∨ w = 1 ∨ w = 2 := by omega
  rcases hw3 with rfl | rfl | rfl
  · skip
    refine j_iload_n C dX3_insides_23 rfl ?_
    refine j_lookup (off := 28) (tgt := 52) C dX3_insides_24 (by decide) (by decide) (by decide) ?_
    refine j_iload_n C dX3_insides_52 rfl ?_
    refine j_callSr C (v := .int (iC (fP (nI n)) 29)) (w := (dW E t sz sg la dk z g b cr ca cg ck rest)) (c_countPlaces l E A) ok_X0_countPlaces w_471 (by decide) rfl rfl (Nat.le_of_ble_eq_true rfl) ⟨Nat.le_of_ble_eq_true rfl, Nat.le_of_ble_eq_true rfl⟩ dX3_insides_53 ?_
    exact j_iret C hQ rfl dX3_insides_56 ⟨Nat.le_of_ble_eq_true rfl, Nat.le_of_ble_eq_true rfl⟩ ⟨rfl, rfl⟩
  · skip
    refine j_iload_n C dX3_insides_23 rfl ?_
    refine j_lookup (off := 33) (tgt := 57) C dX3_insides_24 (by decide) (by decide) (by decide) ?_
    refine j_iload_n C dX3_insides_57 rfl ?_
    refine j_callSr C (v := .int (iD (fS (nI n)) 29)) (w := (dW E t sz sg la dk z g b cr ca cg ck rest)) (c_countSpans l E A) ok_X0_countSpans w_475 (by decide) rfl rfl (Nat.le_of_ble_eq_true rfl) ⟨Nat.le_of_ble_eq_true rfl, Nat.le_of_ble_eq_true rfl⟩ dX3_insides_58 ?_
    exact j_iret C hQ rfl dX3_insides_61 ⟨Nat.le_of_ble_eq_true rfl, Nat.le_of_ble_eq_true rfl⟩ ⟨rfl, rfl⟩
  · skip
    refine j_iload_n C dX3_insides_23 rfl ?_
    refine j_lookup (off := 38) (tgt := 62) C dX3_insides_24 (by decide) (by decide) (by decide) ?_
    refine j_iload_n C dX3_insides_62 rfl ?_
    refine j_callSr C (v := .int (iD (fT (nI n)) 29)) (w := (dW E t sz sg la dk z g b cr ca cg ck rest)) (c_countStretches l E A) ok_X0_countStretches w_479 (by decide) rfl rfl (Nat.le_of_ble_eq_true rfl) ⟨Nat.le_of_ble_eq_true rfl, Nat.le_of_ble_eq_true rfl⟩ dX3_insides_63 ?_
    exact j_iret C hQ rfl dX3_insides_66 ⟨Nat.le_of_ble_eq_true rfl, Nat.le_of_ble_eq_true rfl⟩ ⟨rfl, rfl⟩
set_option maxHeartbeats 4000000 in
set_option maxRecDepth 100000 in
theorem f_insides_b (l : Launch) (hl : l.stackTraces = false) (E : jE) (A : Nat → Prop) {t sz sg la dk : Nat} {z g b : Nat → Int32} {cr ca cg ck : Int32} {rest : va_W} {x w : Int32} (hbx : x < 0 ∨ nI 9 ≤ x) : jMet l yX3_insides cX3_insides 4 (some .int) 5 1 6 E A [.ref dk, .int x, .int w] (dW E t sz sg la dk z g b cr ca cg ck rest) jNv (jT jIO (dW E t sz sg la dk z g b cr ca cg ck rest)) := by
  refine jMet.intro' [(0, .ref dk), (1, .int x), (2, .int w)] (by decide) (Nat.le_of_ble_eq_true rfl) rfl ?_
  intro p e R s m args below meth c Q C hQ
  refine j_iload_n C dX3_insides_0 rfl ?_
  refine j_callSx C (c_wantSeat_x l hl E A hbx) ok_X3_wantSeat w_272 (by decide) rfl rfl (Nat.le_of_ble_eq_true rfl) ⟨Nat.le_of_ble_eq_true rfl, Nat.le_of_ble_eq_true rfl⟩ dX3_insides_1 ?_
  exact j_xout C hQ ⟨Nat.le_of_ble_eq_true rfl, Nat.le_of_ble_eq_true rfl⟩ ⟨rfl, rfl⟩
set_option maxHeartbeats 4000000 in
set_option maxRecDepth 100000 in
theorem f_insides_a (l : Launch) (hl : l.stackTraces = false) (E : jE) (A : Nat → Prop) {t sz sg la dk : Nat} {z g b : Nat → Int32} {cr ca cg ck : Int32} {rest : va_W} {i : Nat} {w : Int32} (hi : i < 9) (hbw : w < 0 ∨ nI 2 < w) : jMet l yX3_insides cX3_insides 4 (some .int) 5 1 6 E A [.ref dk, .int (nI i), .int w] (dW E t sz sg la dk z g b cr ca cg ck rest) jNv (jT jIA (dW E t sz sg la dk z g b cr ca cg ck rest)) := by
  refine jMet.intro' [(0, .ref dk), (1, .int (nI i)), (2, .int w)] (by decide) (Nat.le_of_ble_eq_true rfl) rfl ?_
  intro p e R s m args below meth c Q C hQ
  refine j_iload_n C dX3_insides_0 rfl ?_
  refine j_callSv C (w := (dW E t sz sg la dk z g b cr ca cg ck rest)) (c_wantSeat_r l E A (by omega)) ok_X3_wantSeat w_272 (by decide) rfl rfl (Nat.le_of_ble_eq_true rfl) ⟨Nat.le_of_ble_eq_true rfl, Nat.le_of_ble_eq_true rfl⟩ dX3_insides_1 ?_
  refine j_iload_n C dX3_insides_4 rfl ?_
  refine j_iconst (v := (nI 2)) C dX3_insides_5 rfl ?_
  refine j_callSx C (c_wantUpTo_x l hl E A hbw) ok_X3_wantUpTo w_406 (by decide) rfl rfl (Nat.le_of_ble_eq_true rfl) ⟨Nat.le_of_ble_eq_true rfl, Nat.le_of_ble_eq_true rfl⟩ dX3_insides_6 ?_
  exact j_xout C hQ ⟨Nat.le_of_ble_eq_true rfl, Nat.le_of_ble_eq_true rfl⟩ ⟨rfl, rfl⟩
set_option maxHeartbeats 4000000 in
set_option maxRecDepth 100000 in
theorem f_insides_m (l : Launch) (hl : l.stackTraces = false) (E : jE) (A : Nat → Prop) {t sz sg la dk : Nat} {z g b : Nat → Int32} {cr ca cg ck : Int32} {rest : va_W} {i w : Nat} (hi : i < 9) (hw : w ≤ 2) (hz : z i = -1) : jMet l yX3_insides cX3_insides 4 (some .int) 5 1 6 E A [.ref dk, .int (nI i), .int (nI w)] (dW E t sz sg la dk z g b cr ca cg ck rest) jNv (jT jIS (dW E t sz sg la dk z g b cr ca cg ck rest)) := by
  refine jMet.intro' [(0, .ref dk), (1, .int (nI i)), (2, .int (nI w))] (by decide) (Nat.le_of_ble_eq_true rfl) rfl ?_
  intro p e R s m args below meth c Q C hQ
  refine j_iload_n C dX3_insides_0 rfl ?_
  refine j_callSv C (w := (dW E t sz sg la dk z g b cr ca cg ck rest)) (c_wantSeat_r l E A (by omega)) ok_X3_wantSeat w_272 (by decide) rfl rfl (Nat.le_of_ble_eq_true rfl) ⟨Nat.le_of_ble_eq_true rfl, Nat.le_of_ble_eq_true rfl⟩ dX3_insides_1 ?_
  refine j_iload_n C dX3_insides_4 rfl ?_
  refine j_iconst (v := (nI 2)) C dX3_insides_5 rfl ?_
  refine j_callSv C (w := (dW E t sz sg la dk z g b cr ca cg ck rest)) (c_wantUpTo_r l E A (by omega) (by omega)) ok_X3_wantUpTo w_406 (by decide) rfl rfl (Nat.le_of_ble_eq_true rfl) ⟨Nat.le_of_ble_eq_true rfl, Nat.le_of_ble_eq_true rfl⟩ dX3_insides_6 ?_
  refine j_aload_n C dX3_insides_9 rfl ?_
  refine j_iload_n C dX3_insides_10 rfl ?_
  refine j_callVx C 4 (c_wantThere_x l hl E A (by omega) hz) ok_X3_wantThere w_365 (by decide) rfl rfl (Nat.le_of_ble_eq_true rfl) rfl rfl ⟨Nat.le_of_ble_eq_true rfl, Nat.le_of_ble_eq_true rfl⟩ dX3_insides_11 ?_
  exact j_xout C hQ ⟨Nat.le_of_ble_eq_true rfl, Nat.le_of_ble_eq_true rfl⟩ ⟨rfl, rfl⟩
set_option maxHeartbeats 4000000 in
set_option maxRecDepth 100000 in
theorem f_digest_k (l : Launch) (E : jE) (A : Nat → Prop) {t sz sg la dk : Nat} {z g b : Nat → Int32} {cr ca cg ck : Int32} {rest : va_W} (hT : ∀ i, i < 9 → txOk z g i) : jMet l yX3_digest cX3_digest 6 (some .long) 6 0 0 E A [.ref dk] (dW E t sz sg la dk z g b cr ca cg ck rest) (fun vv ww => ∃ (x : Int64) (bb : Nat → Int32), vv = some (.long x) ∧ ww = dW E t sz sg la dk z g bb cr ca cg ck rest) jNo := by
  refine jMet.intro' [(0, .ref dk)] (by decide) (Nat.le_of_ble_eq_true rfl) rfl ?_
  intro p e R s m args below meth c Q C hQ
  refine j_ldc2 C w_224 dX3_digest_0 ?_
  refine j_lstore_n (lv' := [(1, .long 7777), (0, .ref dk)]) C dX3_digest_3 (by decide) rfl ?_
  refine j_iconst (v := (nI 0)) C dX3_digest_4 rfl ?_
  refine j_istore_n (lv' := [(3, .int (nI 0)), (1, .long 7777), (0, .ref dk)]) C dX3_digest_5 (by decide) rfl ?_
  have L6 : ∀ (r k : Nat) (u : Int64), k + r = 6 → jJ p l e R s m args below meth c E A 6 Q 0 0 6 [(3, .int (nI k)), (1, .long u), (0, .ref dk)] [] (dW E t sz sg la dk z g b cr ca cg ck rest) := by
    intro r
    induction r with
    | zero =>
      intro k u hk6 
      refine j_iload_n C dX3_digest_6 rfl ?_
      refine j_iconst (v := (nI 5)) C dX3_digest_7 rfl ?_
      refine j_icmpn_gt_t (tgt := 30) C dX3_digest_8 (by decide) (by omega) (by omega) (by omega) ?_
      refine j_iconst (v := (nI 0)) C dX3_digest_30 rfl ?_
      refine j_istore_n (lv' := [(3, .int (nI 0)), (1, .long u), (0, .ref dk)]) C dX3_digest_31 (by decide) rfl ?_
      have L32 : ∀ (r k : Nat) (u : Int64), k + r = 9 → jJ p l e R s m args below meth c E A 6 Q 0 0 32 [(3, .int (nI k)), (1, .long u), (0, .ref dk)] [] (dW E t sz sg la dk z g b cr ca cg ck rest) := by
        intro r
        induction r with
        | zero =>
          intro k u hk32 
          refine j_iload_n C dX3_digest_32 rfl ?_
          refine j_bipush (v := (nI 9)) C dX3_digest_33 rfl ?_
          refine j_icmpn_ge_t (tgt := 76) C dX3_digest_35 (by decide) (by omega) (by omega) (by omega) ?_
          refine j_iconst (v := (nI 0)) C dX3_digest_76 rfl ?_
          refine j_istore_n (lv' := [(3, .int (nI 0)), (1, .long u), (0, .ref dk)]) C dX3_digest_77 (by decide) rfl ?_
          have L78 : ∀ (r k : Nat) (u : Int64), k + r = 9 → jJ p l e R s m args below meth c E A 6 Q 0 0 78 [(3, .int (nI k)), (1, .long u), (0, .ref dk)] [] (dW E t sz sg la dk z g b cr ca cg ck rest) := by
            intro r
            induction r with
            | zero =>
              intro k u hk78 
              refine j_iload_n C dX3_digest_78 rfl ?_
              refine j_bipush (v := (nI 9)) C dX3_digest_79 rfl ?_
              refine j_icmpn_ge_t (tgt := 141) C dX3_digest_81 (by decide) (by omega) (by omega) (by omega) ?_
              refine j_iconst (v := (nI 0)) C dX3_digest_141 rfl ?_
              refine j_istore_n (lv' := [(3, .int (nI 0)), (1, .long u), (0, .ref dk)]) C dX3_digest_142 (by decide) rfl ?_
              have L143 : ∀ (r k : Nat) (u : Int64), k + r = 3 → jJ p l e R s m args below meth c E A 6 Q 0 0 143 [(3, .int (nI k)), (1, .long u), (0, .ref dk)] [] (dW E t sz sg la dk z g b cr ca cg ck rest) := by
                intro r
                induction r with
                | zero =>
                  intro k u hk143 
                  refine j_iload_n C dX3_digest_143 rfl ?_
                  refine j_iconst (v := (nI 3)) C dX3_digest_144 rfl ?_
                  refine j_icmpn_ge_t (tgt := 177) C dX3_digest_145 (by decide) (by omega) (by omega) (by omega) ?_
                  refine j_lload_n C dX3_digest_177 rfl ?_
                  refine j_ldc2 C w_225 dX3_digest_178 ?_
                  refine j_lmul (z := u * 31) C dX3_digest_181 rfl ?_
                  refine j_aload_n C dX3_digest_182 rfl ?_
                  refine j_get C 4 rfl inj_X3 rfl 0 (by decide) w_73 rfl dX3_digest_183 ?_
                  refine j_callS C (c_holds l E A hT) ok_X1_holds w_138 (by decide) rfl rfl (Nat.le_of_ble_eq_true rfl) ⟨Nat.le_of_ble_eq_true rfl, Nat.le_of_ble_eq_true rfl⟩ dX3_digest_186 (fun _ _ h => h.elim) (fun _ _ h => ?_)
                  obtain ⟨u1, bb2, hu3, rfl, rfl⟩ := h
                  refine j_if_eq (tgt := 196) C dX3_digest_189 (by decide) (fun h189 => ?_) (fun h189 => ?_)
                  · skip
                    refine j_iconst (v := (nI 0)) C dX3_digest_196 rfl ?_
                    refine j_i2l (v := (nI 0).toInt64) C dX3_digest_197 rfl ?_
                    refine j_ladd (z := (u * 31) + ((nI 0).toInt64)) C dX3_digest_198 rfl ?_
                    exact j_lret C hQ rfl dX3_digest_199 ⟨Nat.le_of_ble_eq_true rfl, Nat.le_of_ble_eq_true rfl⟩ ⟨_, _, rfl, rfl⟩
                  · skip
                    refine j_iconst (v := (nI 1)) C dX3_digest_192 rfl ?_
                    refine j_goto (tgt := 197) C dX3_digest_193 (by decide) ?_
                    refine j_i2l (v := (nI 1).toInt64) C dX3_digest_197 rfl ?_
                    refine j_ladd (z := (u * 31) + ((nI 1).toInt64)) C dX3_digest_198 rfl ?_
                    exact j_lret C hQ rfl dX3_digest_199 ⟨Nat.le_of_ble_eq_true rfl, Nat.le_of_ble_eq_true rfl⟩ ⟨_, _, rfl, rfl⟩
                | succ r ih143 =>
                  intro k u hk143 
                  refine j_iload_n C dX3_digest_143 rfl ?_
                  refine j_iconst (v := (nI 3)) C dX3_digest_144 rfl ?_
                  refine j_icmpn_ge_f (tgt := 177) C dX3_digest_145 (by decide) (by omega) (by omega) (by omega) ?_
                  refine j_lload_n C dX3_digest_148 rfl ?_
                  refine j_ldc2 C w_225 dX3_digest_149 ?_
                  refine j_lmul (z := u * 31) C dX3_digest_152 rfl ?_
                  refine j_aload_n C dX3_digest_153 rfl ?_
                  refine j_get C 4 rfl inj_X3 rfl 0 (by decide) w_73 rfl dX3_digest_154 ?_
                  refine j_iload_n C dX3_digest_157 rfl ?_
                  refine j_iload_n C dX3_digest_158 rfl ?_
                  refine j_iconst (v := (nI 3)) C dX3_digest_159 rfl ?_
                  refine j_iadd (z := (nI (k + 3))) C dX3_digest_160 (nI_add _ _) ?_
                  refine j_iload_n C dX3_digest_161 rfl ?_
                  refine j_bipush (v := (nI 6)) C dX3_digest_162 rfl ?_
                  refine j_iadd (z := (nI (k + 6))) C dX3_digest_164 (nI_add _ _) ?_
                  refine j_callVr C 0 (v := .int (cod3 (codS z g k) (codS z g (k + 3)) (codS z g (k + 6)))) (w := (dW E t sz sg la dk z g b cr ca cg ck rest)) (c_codeOfThree l E A (by omega) (by omega) (by omega) hT) ok_X2_codeOfThree w_244 (by decide) rfl rfl (Nat.le_of_ble_eq_true rfl) rfl rfl ⟨Nat.le_of_ble_eq_true rfl, Nat.le_of_ble_eq_true rfl⟩ dX3_digest_165 ?_
                  refine j_i2l (v := (cod3 (codS z g k) (codS z g (k + 3)) (codS z g (k + 6))).toInt64) C dX3_digest_168 rfl ?_
                  refine j_ladd (z := (u * 31) + ((cod3 (codS z g k) (codS z g (k + 3)) (codS z g (k + 6))).toInt64)) C dX3_digest_169 rfl ?_
                  refine j_lstore_n (lv' := [(1, .long ((u * 31) + ((cod3 (codS z g k) (codS z g (k + 3)) (codS z g (k + 6))).toInt64))), (3, .int (nI k)), (0, .ref dk)]) C dX3_digest_170 (by decide) rfl ?_
                  refine j_iinc (lv' := [(3, .int (nI (k + 1))), (1, .long ((u * 31) + ((cod3 (codS z g k) (codS z g (k + 3)) (codS z g (k + 6))).toInt64))), (0, .ref dk)]) C dX3_digest_171 rfl (nI_1 _) (by decide) rfl ?_
                  refine j_goto (tgt := 143) C dX3_digest_174 (by decide) ?_
                  refine j_lv (lv' := [(3, .int (nI (k + 1))), (1, .long ((u * 31) + ((cod3 (codS z g k) (codS z g (k + 3)) (codS z g (k + 6))).toInt64))), (0, .ref dk)]) (by simp only [List.mem_cons, List.not_mem_nil, or_false, forall_eq_or_imp, forall_eq, true_or, or_true, and_self, Nat.add_zero]) ?_
                  exact ih143 (k + 1) _ (by omega)
              refine j_lv (lv' := [(3, .int (nI 0)), (1, .long u), (0, .ref dk)]) (by simp only [List.mem_cons, List.not_mem_nil, or_false, forall_eq_or_imp, forall_eq, true_or, or_true, and_self, Nat.add_zero]) ?_
              exact L143 3 0 _ (by omega)
            | succ r ih78 =>
              intro k u hk78 
              refine j_iload_n C dX3_digest_78 rfl ?_
              refine j_bipush (v := (nI 9)) C dX3_digest_79 rfl ?_
              refine j_icmpn_ge_f (tgt := 141) C dX3_digest_81 (by decide) (by omega) (by omega) (by omega) ?_
              refine j_iconst (v := (nI 0)) C dX3_digest_84 rfl ?_
              refine j_istore (lv' := [(4, .int (nI 0)), (3, .int (nI k)), (1, .long u), (0, .ref dk)]) C dX3_digest_85 (by decide) rfl ?_
              have L87 : ∀ (r j : Nat) (u : Int64), j + r = 9 → jJ p l e R s m args below meth c E A 6 Q 0 0 87 [(4, .int (nI j)), (3, .int (nI k)), (1, .long u), (0, .ref dk)] [] (dW E t sz sg la dk z g b cr ca cg ck rest) := by
                intro r
                induction r with
                | zero =>
                  intro j u hk87 
                  refine j_iload C dX3_digest_87 rfl ?_
                  refine j_bipush (v := (nI 9)) C dX3_digest_89 rfl ?_
                  refine j_icmpn_ge_t (tgt := 135) C dX3_digest_91 (by decide) (by omega) (by omega) (by omega) ?_
                  refine j_iinc (lv' := [(3, .int (nI (k + 1))), (4, .int (nI j)), (1, .long u), (0, .ref dk)]) C dX3_digest_135 rfl (nI_1 _) (by decide) rfl ?_
                  refine j_goto (tgt := 78) C dX3_digest_138 (by decide) ?_
                  refine j_lv (lv' := [(3, .int (nI (k + 1))), (1, .long u), (0, .ref dk)]) (by simp only [List.mem_cons, List.not_mem_nil, or_false, forall_eq_or_imp, forall_eq, true_or, or_true, and_self, Nat.add_zero]) ?_
                  exact ih78 (k + 1) _ (by omega)
                | succ r ih87 =>
                  intro j u hk87 
                  refine j_iload C dX3_digest_87 rfl ?_
                  refine j_bipush (v := (nI 9)) C dX3_digest_89 rfl ?_
                  refine j_icmpn_ge_f (tgt := 135) C dX3_digest_91 (by decide) (by omega) (by omega) (by omega) ?_
                  refine j_iconst (v := (nI 0)) C dX3_digest_94 rfl ?_
                  refine j_istore (lv' := [(5, .int (nI 0)), (4, .int (nI j)), (3, .int (nI k)), (1, .long u), (0, .ref dk)]) C dX3_digest_95 (by decide) rfl ?_
                  have L97 : ∀ (r o : Nat) (u : Int64), o + r = 4 → jJ p l e R s m args below meth c E A 6 Q 0 0 97 [(5, .int (nI o)), (4, .int (nI j)), (3, .int (nI k)), (1, .long u), (0, .ref dk)] [] (dW E t sz sg la dk z g b cr ca cg ck rest) := by
                    intro r
                    induction r with
                    | zero =>
                      intro o u hk97 
                      refine j_iload C dX3_digest_97 rfl ?_
                      refine j_iconst (v := (nI 3)) C dX3_digest_99 rfl ?_
                      refine j_icmpn_gt_t (tgt := 129) C dX3_digest_100 (by decide) (by omega) (by omega) (by omega) ?_
                      refine j_iinc (lv' := [(4, .int (nI (j + 1))), (5, .int (nI o)), (3, .int (nI k)), (1, .long u), (0, .ref dk)]) C dX3_digest_129 rfl (nI_1 _) (by decide) rfl ?_
                      refine j_goto (tgt := 87) C dX3_digest_132 (by decide) ?_
                      refine j_lv (lv' := [(4, .int (nI (j + 1))), (3, .int (nI k)), (1, .long u), (0, .ref dk)]) (by simp only [List.mem_cons, List.not_mem_nil, or_false, forall_eq_or_imp, forall_eq, true_or, or_true, and_self, Nat.add_zero]) ?_
                      exact ih87 (j + 1) _ (by omega)
                    | succ r ih97 =>
                      intro o u hk97 
                      refine j_iload C dX3_digest_97 rfl ?_
                      refine j_iconst (v := (nI 3)) C dX3_digest_99 rfl ?_
                      refine j_icmpn_gt_f (tgt := 129) C dX3_digest_100 (by decide) (by omega) (by omega) (by omega) ?_
                      refine j_lload_n C dX3_digest_103 rfl ?_
                      refine j_ldc2 C w_225 dX3_digest_104 ?_
                      refine j_lmul (z := u * 31) C dX3_digest_107 rfl ?_
                      refine j_aload_n C dX3_digest_108 rfl ?_
                      refine j_get C 4 rfl inj_X3 rfl 0 (by decide) w_73 rfl dX3_digest_109 ?_
                      refine j_iload_n C dX3_digest_112 rfl ?_
                      refine j_iload C dX3_digest_113 rfl ?_
                      refine j_iload C dX3_digest_115 rfl ?_
                      refine j_callVr C 0 (v := .int (ordV z g k j o)) (w := (dW E t sz sg la dk z g b cr ca cg ck rest)) (c_ordered l E A (by omega) (by omega) (by omega) hT) ok_X2_ordered w_243 (by decide) rfl rfl (Nat.le_of_ble_eq_true rfl) rfl rfl ⟨Nat.le_of_ble_eq_true rfl, Nat.le_of_ble_eq_true rfl⟩ dX3_digest_117 ?_
                      refine j_i2l (v := (ordV z g k j o).toInt64) C dX3_digest_120 rfl ?_
                      refine j_ladd (z := (u * 31) + ((ordV z g k j o).toInt64)) C dX3_digest_121 rfl ?_
                      refine j_lstore_n (lv' := [(1, .long ((u * 31) + ((ordV z g k j o).toInt64))), (5, .int (nI o)), (4, .int (nI j)), (3, .int (nI k)), (0, .ref dk)]) C dX3_digest_122 (by decide) rfl ?_
                      refine j_iinc (lv' := [(5, .int (nI (o + 1))), (1, .long ((u * 31) + ((ordV z g k j o).toInt64))), (4, .int (nI j)), (3, .int (nI k)), (0, .ref dk)]) C dX3_digest_123 rfl (nI_1 _) (by decide) rfl ?_
                      refine j_goto (tgt := 97) C dX3_digest_126 (by decide) ?_
                      refine j_lv (lv' := [(5, .int (nI (o + 1))), (4, .int (nI j)), (3, .int (nI k)), (1, .long ((u * 31) + ((ordV z g k j o).toInt64))), (0, .ref dk)]) (by simp only [List.mem_cons, List.not_mem_nil, or_false, forall_eq_or_imp, forall_eq, true_or, or_true, and_self, Nat.add_zero]) ?_
                      exact ih97 (o + 1) _ (by omega)
                  refine j_lv (lv' := [(5, .int (nI 0)), (4, .int (nI j)), (3, .int (nI k)), (1, .long u), (0, .ref dk)]) (by simp only [List.mem_cons, List.not_mem_nil, or_false, forall_eq_or_imp, forall_eq, true_or, or_true, and_self, Nat.add_zero]) ?_
                  exact L97 4 0 _ (by omega)
              refine j_lv (lv' := [(4, .int (nI 0)), (3, .int (nI k)), (1, .long u), (0, .ref dk)]) (by simp only [List.mem_cons, List.not_mem_nil, or_false, forall_eq_or_imp, forall_eq, true_or, or_true, and_self, Nat.add_zero]) ?_
              exact L87 9 0 _ (by omega)
          refine j_lv (lv' := [(3, .int (nI 0)), (1, .long u), (0, .ref dk)]) (by simp only [List.mem_cons, List.not_mem_nil, or_false, forall_eq_or_imp, forall_eq, true_or, or_true, and_self, Nat.add_zero]) ?_
          exact L78 9 0 _ (by omega)
        | succ r ih32 =>
          intro k u hk32 
          refine j_iload_n C dX3_digest_32 rfl ?_
          refine j_bipush (v := (nI 9)) C dX3_digest_33 rfl ?_
          refine j_icmpn_ge_f (tgt := 76) C dX3_digest_35 (by decide) (by omega) (by omega) (by omega) ?_
          refine j_lload_n C dX3_digest_38 rfl ?_
          refine j_ldc2 C w_225 dX3_digest_39 ?_
          refine j_lmul (z := u * 31) C dX3_digest_42 rfl ?_
          refine j_aload_n C dX3_digest_43 rfl ?_
          refine j_get C 4 rfl inj_X3 rfl 0 (by decide) w_73 rfl dX3_digest_44 ?_
          refine j_iload_n C dX3_digest_47 rfl ?_
          refine j_callVr C 0 (v := .int (z k)) (w := (dW E t sz sg la dk z g b cr ca cg ck rest)) (c_size l E A (by omega)) ok_X2_size w_241 (by decide) rfl rfl (Nat.le_of_ble_eq_true rfl) rfl rfl ⟨Nat.le_of_ble_eq_true rfl, Nat.le_of_ble_eq_true rfl⟩ dX3_digest_48 ?_
          refine j_i2l (v := (z k).toInt64) C dX3_digest_51 rfl ?_
          refine j_ladd (z := (u * 31) + ((z k).toInt64)) C dX3_digest_52 rfl ?_
          refine j_lstore_n (lv' := [(1, .long ((u * 31) + ((z k).toInt64))), (3, .int (nI k)), (0, .ref dk)]) C dX3_digest_53 (by decide) rfl ?_
          refine j_lload_n C dX3_digest_54 rfl ?_
          refine j_ldc2 C w_225 dX3_digest_55 ?_
          refine j_lmul (z := ((u * 31) + ((z k).toInt64)) * 31) C dX3_digest_58 rfl ?_
          refine j_aload_n C dX3_digest_59 rfl ?_
          refine j_get C 4 rfl inj_X3 rfl 0 (by decide) w_73 rfl dX3_digest_60 ?_
          refine j_iload_n C dX3_digest_63 rfl ?_
          refine j_callVr C 0 (v := .int (codS z g k)) (w := (dW E t sz sg la dk z g b cr ca cg ck rest)) (c_codeOf l E A (by omega) (hT _ (by omega))) ok_X2_codeOf w_242 (by decide) rfl rfl (Nat.le_of_ble_eq_true rfl) rfl rfl ⟨Nat.le_of_ble_eq_true rfl, Nat.le_of_ble_eq_true rfl⟩ dX3_digest_64 ?_
          refine j_i2l (v := (codS z g k).toInt64) C dX3_digest_67 rfl ?_
          refine j_ladd (z := (((u * 31) + ((z k).toInt64)) * 31) + ((codS z g k).toInt64)) C dX3_digest_68 rfl ?_
          refine j_lstore_n (lv' := [(1, .long ((((u * 31) + ((z k).toInt64)) * 31) + ((codS z g k).toInt64))), (3, .int (nI k)), (0, .ref dk)]) C dX3_digest_69 (by decide) rfl ?_
          refine j_iinc (lv' := [(3, .int (nI (k + 1))), (1, .long ((((u * 31) + ((z k).toInt64)) * 31) + ((codS z g k).toInt64))), (0, .ref dk)]) C dX3_digest_70 rfl (nI_1 _) (by decide) rfl ?_
          refine j_goto (tgt := 32) C dX3_digest_73 (by decide) ?_
          refine j_lv (lv' := [(3, .int (nI (k + 1))), (1, .long ((((u * 31) + ((z k).toInt64)) * 31) + ((codS z g k).toInt64))), (0, .ref dk)]) (by simp only [List.mem_cons, List.not_mem_nil, or_false, forall_eq_or_imp, forall_eq, true_or, or_true, and_self, Nat.add_zero]) ?_
          exact ih32 (k + 1) _ (by omega)
      refine j_lv (lv' := [(3, .int (nI 0)), (1, .long u), (0, .ref dk)]) (by simp only [List.mem_cons, List.not_mem_nil, or_false, forall_eq_or_imp, forall_eq, true_or, or_true, and_self, Nat.add_zero]) ?_
      exact L32 9 0 _ (by omega)
    | succ r ih6 =>
      intro k u hk6 
      refine j_iload_n C dX3_digest_6 rfl ?_
      refine j_iconst (v := (nI 5)) C dX3_digest_7 rfl ?_
      refine j_icmpn_gt_f (tgt := 30) C dX3_digest_8 (by decide) (by omega) (by omega) (by omega) ?_
      refine j_lload_n C dX3_digest_11 rfl ?_
      refine j_ldc2 C w_225 dX3_digest_12 ?_
      refine j_lmul (z := u * 31) C dX3_digest_15 rfl ?_
      refine j_aload_n C dX3_digest_16 rfl ?_
      refine j_iload_n C dX3_digest_17 rfl ?_
      refine j_callVr C 4 (v := .int (telV z cr ca cg ck k)) (w := (dW E t sz sg la dk z g b cr ca cg ck rest)) (c_tell l E A (by omega) hT) ok_X3_tell w_226 (by decide) rfl rfl (Nat.le_of_ble_eq_true rfl) rfl rfl ⟨Nat.le_of_ble_eq_true rfl, Nat.le_of_ble_eq_true rfl⟩ dX3_digest_18 ?_
      refine j_i2l (v := (telV z cr ca cg ck k).toInt64) C dX3_digest_21 rfl ?_
      refine j_ladd (z := (u * 31) + ((telV z cr ca cg ck k).toInt64)) C dX3_digest_22 rfl ?_
      refine j_lstore_n (lv' := [(1, .long ((u * 31) + ((telV z cr ca cg ck k).toInt64))), (3, .int (nI k)), (0, .ref dk)]) C dX3_digest_23 (by decide) rfl ?_
      refine j_iinc (lv' := [(3, .int (nI (k + 1))), (1, .long ((u * 31) + ((telV z cr ca cg ck k).toInt64))), (0, .ref dk)]) C dX3_digest_24 rfl (nI_1 _) (by decide) rfl ?_
      refine j_goto (tgt := 6) C dX3_digest_27 (by decide) ?_
      refine j_lv (lv' := [(3, .int (nI (k + 1))), (1, .long ((u * 31) + ((telV z cr ca cg ck k).toInt64))), (0, .ref dk)]) (by simp only [List.mem_cons, List.not_mem_nil, or_false, forall_eq_or_imp, forall_eq, true_or, or_true, and_self, Nat.add_zero]) ?_
      exact ih6 (k + 1) _ (by omega)
  refine j_lv (lv' := [(3, .int (nI 0)), (1, .long 7777), (0, .ref dk)]) (by simp only [List.mem_cons, List.not_mem_nil, or_false, forall_eq_or_imp, forall_eq, true_or, or_true, and_self, Nat.add_zero]) ?_
  exact L6 6 0 _ (by omega)
