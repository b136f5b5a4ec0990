/-! contracts, laid by program (wip/gen) -/
abbrev tW (E : jE) (t sz sg la : Nat) (z g b : Nat → Int32) (rest : va_W) : va_W := (t, .inr (2, [.ref sz, .ref sg, .ref la])) :: (sz, .inl (E.2.1, 9, .inl z)) :: (sg, .inl (E.2.1, 216, .inl g)) :: (la, .inl (E.2.1, 24, .inl b)) :: rest
set_option maxHeartbeats 4000000 in
set_option maxRecDepth 100000 in
theorem c_far (l : Launch) (E : jE) (A : Nat → Prop) {ws : va_W} {x : Int32} : jMet l yX0_far cX0_far 1 (some .long) 0 0 0 E A [.int x] ws (jR (some (.long (x.toInt64 * 4294967296))) ws) jNo := by
  refine jMet.intro' [(0, .int x)] (by decide) (Nat.le_of_ble_eq_true rfl) rfl ?_
  intro p e R s m args below meth c Q C hQ
  refine j_iload_n C dX0_far_0 rfl ?_
  refine j_i2l (v := x.toInt64) C dX0_far_1 rfl ?_
  refine j_ldc2 C w_121 dX0_far_2 ?_
  refine j_lmul (z := x.toInt64 * 4294967296) C dX0_far_5 rfl ?_
  exact j_lret C hQ rfl dX0_far_6 ⟨Nat.le_of_ble_eq_true rfl, Nat.le_of_ble_eq_true rfl⟩ ⟨rfl, rfl⟩
set_option maxHeartbeats 4000000 in
set_option maxRecDepth 100000 in
theorem c_holdsPlace (l : Launch) (E : jE) (A : Nat → Prop) {ws : va_W} {x y : Int64} : jMet l yX0_holdsPlace cX0_holdsPlace 4 (some .boolean) 0 0 0 E A [.long x, .long y] ws (jR (some (.int (bI (¬ x < 0 ∧ ¬ y ≤ x)))) ws) jNo := by
  refine jMet.intro' [(0, .long x), (2, .long y)] (by decide) (Nat.le_of_ble_eq_true rfl) rfl ?_
  intro p e R s m args below meth c Q C hQ
  refine j_lconst (v := 0) C dX0_holdsPlace_0 rfl ?_
  refine j_lload_n C dX0_holdsPlace_1 rfl ?_
  refine j_l_gt (tgt := 16) C dX0_holdsPlace_2 dX0_holdsPlace_3 (by decide) (fun h2 => ?_) (fun h2 => ?_)
  · skip
    refine j_iconst (v := (nI 0)) C dX0_holdsPlace_16 rfl ?_
    exact j_zret C hQ rfl rfl dX0_holdsPlace_17 ⟨Nat.le_of_ble_eq_true rfl, Nat.le_of_ble_eq_true rfl⟩ ⟨by rw [bI_f (by simp only [*, not_true_eq_false, not_false_eq_true, false_and, and_false, and_self])]; rfl, rfl⟩
  · skip
    refine j_lload_n C dX0_holdsPlace_6 rfl ?_
    refine j_lload_n C dX0_holdsPlace_7 rfl ?_
    refine j_l_ge (tgt := 16) C dX0_holdsPlace_8 dX0_holdsPlace_9 (by decide) (fun h8 => ?_) (fun h8 => ?_)
    · skip
      refine j_iconst (v := (nI 0)) C dX0_holdsPlace_16 rfl ?_
      exact j_zret C hQ rfl rfl dX0_holdsPlace_17 ⟨Nat.le_of_ble_eq_true rfl, Nat.le_of_ble_eq_true rfl⟩ ⟨by rw [bI_f (by simp only [*, not_true_eq_false, not_false_eq_true, false_and, and_false, and_self])]; rfl, rfl⟩
    · skip
      refine j_iconst (v := (nI 1)) C dX0_holdsPlace_12 rfl ?_
      refine j_goto (tgt := 17) C dX0_holdsPlace_13 (by decide) ?_
      exact j_zret C hQ rfl rfl dX0_holdsPlace_17 ⟨Nat.le_of_ble_eq_true rfl, Nat.le_of_ble_eq_true rfl⟩ ⟨by rw [bI_t (by simp only [*, not_false_eq_true, and_self])]; rfl, rfl⟩
set_option maxHeartbeats 4000000 in
set_option maxRecDepth 100000 in
theorem c_holdsSpan (l : Launch) (E : jE) (A : Nat → Prop) {ws : va_W} {x y z : Int64} : jMet l yX0_holdsSpan cX0_holdsSpan 6 (some .boolean) 0 0 0 E A [.long x, .long y, .long z] ws (jR (some (.int (bI (¬ x < 0 ∧ ¬ y < x ∧ ¬ z < y)))) ws) jNo := by
  refine jMet.intro' [(0, .long x), (2, .long y), (4, .long z)] (by decide) (Nat.le_of_ble_eq_true rfl) rfl ?_
  intro p e R s m args below meth c Q C hQ
  refine j_lconst (v := 0) C dX0_holdsSpan_0 rfl ?_
  refine j_lload_n C dX0_holdsSpan_1 rfl ?_
  refine j_l_gt (tgt := 23) C dX0_holdsSpan_2 dX0_holdsSpan_3 (by decide) (fun h2 => ?_) (fun h2 => ?_)
  · skip
    refine j_iconst (v := (nI 0)) C dX0_holdsSpan_23 rfl ?_
    exact j_zret C hQ rfl rfl dX0_holdsSpan_24 ⟨Nat.le_of_ble_eq_true rfl, Nat.le_of_ble_eq_true rfl⟩ ⟨by rw [bI_f (by simp only [*, not_true_eq_false, not_false_eq_true, false_and, and_false, and_self])]; rfl, rfl⟩
  · skip
    refine j_lload_n C dX0_holdsSpan_6 rfl ?_
    refine j_lload_n C dX0_holdsSpan_7 rfl ?_
    refine j_l_gt (tgt := 23) C dX0_holdsSpan_8 dX0_holdsSpan_9 (by decide) (fun h8 => ?_) (fun h8 => ?_)
    · skip
      refine j_iconst (v := (nI 0)) C dX0_holdsSpan_23 rfl ?_
      exact j_zret C hQ rfl rfl dX0_holdsSpan_24 ⟨Nat.le_of_ble_eq_true rfl, Nat.le_of_ble_eq_true rfl⟩ ⟨by rw [bI_f (by simp only [*, not_true_eq_false, not_false_eq_true, false_and, and_false, and_self])]; rfl, rfl⟩
    · skip
      refine j_lload_n C dX0_holdsSpan_12 rfl ?_
      refine j_lload C dX0_holdsSpan_13 rfl ?_
      refine j_l_gt (tgt := 23) C dX0_holdsSpan_15 dX0_holdsSpan_16 (by decide) (fun h15 => ?_) (fun h15 => ?_)
      · skip
        refine j_iconst (v := (nI 0)) C dX0_holdsSpan_23 rfl ?_
        exact j_zret C hQ rfl rfl dX0_holdsSpan_24 ⟨Nat.le_of_ble_eq_true rfl, Nat.le_of_ble_eq_true rfl⟩ ⟨by rw [bI_f (by simp only [*, not_true_eq_false, not_false_eq_true, false_and, and_false, and_self])]; rfl, rfl⟩
      · skip
        refine j_iconst (v := (nI 1)) C dX0_holdsSpan_19 rfl ?_
        refine j_goto (tgt := 24) C dX0_holdsSpan_20 (by decide) ?_
        exact j_zret C hQ rfl rfl dX0_holdsSpan_24 ⟨Nat.le_of_ble_eq_true rfl, Nat.le_of_ble_eq_true rfl⟩ ⟨by rw [bI_t (by simp only [*, not_false_eq_true, and_self])]; rfl, rfl⟩
set_option maxHeartbeats 4000000 in
set_option maxRecDepth 100000 in
theorem c_holdsStretch (l : Launch) (E : jE) (A : Nat → Prop) {ws : va_W} {x y z : Int64} : jMet l yX0_holdsStretch cX0_holdsStretch 6 (some .boolean) 0 0 0 E A [.long x, .long y, .long z] ws (jR (some (.int (bI (¬ x < 0 ∧ ¬ y < 0 ∧ ¬ z < 0 ∧ ¬ z - y < x)))) ws) jNo := by
  refine jMet.intro' [(0, .long x), (2, .long y), (4, .long z)] (by decide) (Nat.le_of_ble_eq_true rfl) rfl ?_
  intro p e R s m args below meth c Q C hQ
  refine j_lconst (v := 0) C dX0_holdsStretch_0 rfl ?_
  refine j_lload_n C dX0_holdsStretch_1 rfl ?_
  refine j_l_gt (tgt := 32) C dX0_holdsStretch_2 dX0_holdsStretch_3 (by decide) (fun h2 => ?_) (fun h2 => ?_)
  · skip
    refine j_iconst (v := (nI 0)) C dX0_holdsStretch_32 rfl ?_
    exact j_zret C hQ rfl rfl dX0_holdsStretch_33 ⟨Nat.le_of_ble_eq_true rfl, Nat.le_of_ble_eq_true rfl⟩ ⟨by rw [bI_f (by simp only [*, not_true_eq_false, not_false_eq_true, false_and, and_false, and_self])]; rfl, rfl⟩
  · skip
    refine j_lconst (v := 0) C dX0_holdsStretch_6 rfl ?_
    refine j_lload_n C dX0_holdsStretch_7 rfl ?_
    refine j_l_gt (tgt := 32) C dX0_holdsStretch_8 dX0_holdsStretch_9 (by decide) (fun h8 => ?_) (fun h8 => ?_)
    · skip
      refine j_iconst (v := (nI 0)) C dX0_holdsStretch_32 rfl ?_
      exact j_zret C hQ rfl rfl dX0_holdsStretch_33 ⟨Nat.le_of_ble_eq_true rfl, Nat.le_of_ble_eq_true rfl⟩ ⟨by rw [bI_f (by simp only [*, not_true_eq_false, not_false_eq_true, false_and, and_false, and_self])]; rfl, rfl⟩
    · skip
      refine j_lconst (v := 0) C dX0_holdsStretch_12 rfl ?_
      refine j_lload C dX0_holdsStretch_13 rfl ?_
      refine j_l_gt (tgt := 32) C dX0_holdsStretch_15 dX0_holdsStretch_16 (by decide) (fun h15 => ?_) (fun h15 => ?_)
      · skip
        refine j_iconst (v := (nI 0)) C dX0_holdsStretch_32 rfl ?_
        exact j_zret C hQ rfl rfl dX0_holdsStretch_33 ⟨Nat.le_of_ble_eq_true rfl, Nat.le_of_ble_eq_true rfl⟩ ⟨by rw [bI_f (by simp only [*, not_true_eq_false, not_false_eq_true, false_and, and_false, and_self])]; rfl, rfl⟩
      · skip
        refine j_lload_n C dX0_holdsStretch_19 rfl ?_
        refine j_lload C dX0_holdsStretch_20 rfl ?_
        refine j_lload_n C dX0_holdsStretch_22 rfl ?_
        refine j_lsub (z := z - y) C dX0_holdsStretch_23 rfl ?_
        refine j_l_gt (tgt := 32) C dX0_holdsStretch_24 dX0_holdsStretch_25 (by decide) (fun h24 => ?_) (fun h24 => ?_)
        · skip
          refine j_iconst (v := (nI 0)) C dX0_holdsStretch_32 rfl ?_
          exact j_zret C hQ rfl rfl dX0_holdsStretch_33 ⟨Nat.le_of_ble_eq_true rfl, Nat.le_of_ble_eq_true rfl⟩ ⟨by rw [bI_f (by simp only [*, not_true_eq_false, not_false_eq_true, false_and, and_false, and_self])]; rfl, rfl⟩
        · skip
          refine j_iconst (v := (nI 1)) C dX0_holdsStretch_28 rfl ?_
          refine j_goto (tgt := 33) C dX0_holdsStretch_29 (by decide) ?_
          exact j_zret C hQ rfl rfl dX0_holdsStretch_33 ⟨Nat.le_of_ble_eq_true rfl, Nat.le_of_ble_eq_true rfl⟩ ⟨by rw [bI_t (by simp only [*, not_false_eq_true, and_self])]; rfl, rfl⟩
