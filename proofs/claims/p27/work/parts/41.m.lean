/-! contracts, laid by program (wip/gen) -/
theorem in_t {x lo hi : Nat} (h1 : lo ≤ x) (h2 : x ≤ hi) (hh : hi < 2 ^ 31) : ¬ nI x < nI lo ∧ ¬ nI hi < nI x := ⟨nI_nlt h1 (by omega), nI_nlt h2 hh⟩
theorem in_f {x : Int32} {n : Nat} (hn : n + 1 < 2 ^ 31) (h : x < 0 ∨ nI (n + 1) ≤ x) : ¬ (¬ x < nI 0 ∧ ¬ nI n < x) := by
  rintro ⟨h1, h2⟩
  rcases h with h | h
  · exact h1 h
  · obtain ⟨j, hj, rfl⟩ := nI_of (show ¬ x < 0 from h1)
    exact h2 ((nI_ltI (by omega) hj).mpr (by have := (nI_leI hn hj).mp h; omega))
theorem in_f' {x : Int32} {n : Nat} (h : x < 0 ∨ nI n < x) : ¬ (¬ x < nI 0 ∧ ¬ nI n < x) := by
  rintro ⟨h1, h2⟩
  rcases h with h | h
  · exact h1 h
  · exact h2 h
theorem le_ne_lt {x y : Int32} (h : y ≤ x) (hn : ¬ x = y) : y < x := by
  rw [Int32.lt_iff_toInt_lt]
  rw [Int32.le_iff_toInt_le] at h
  have : x.toInt ≠ y.toInt := fun q => hn (Int32.toInt_inj.mp q)
  omega
theorem smI_l {a b : Nat} (h : a < b) (hb : b < 2 ^ 31) : smI (nI a) (nI b) = -1 := by rw [smI, if_pos ((nI_ltI (by omega) hb).mpr h)]
theorem smI_g {a b : Nat} (h : b < a) (ha : a < 2 ^ 31) : smI (nI a) (nI b) = nI 1 := by rw [smI, if_neg (nI_nlt (by omega) ha), if_pos ((nI_ltI (by omega) ha).mpr h)]; rfl
theorem smI_e {a b : Nat} (h1 : a ≤ b) (h2 : b ≤ a) (ha : a < 2 ^ 31) : smI (nI a) (nI b) = nI 0 := by
  obtain rfl : a = b := by omega
  rw [smI, if_neg (nI_nlt (Nat.le_refl _) ha), if_neg (nI_nlt (Nat.le_refl _) ha)]; rfl
set_option maxHeartbeats 4000000 in
set_option maxRecDepth 100000 in
theorem m_isIn (l : Launch) (E : jE) (A : Nat → Prop) {ws : va_W} {x lo hi : Int32} : jMet l yX5_isIn cX5_isIn 3 (some .boolean) 0 0 0 E A [.int x, .int lo, .int hi] ws (jR (some (.int (bI (¬ x < lo ∧ ¬ hi < x)))) ws) jNo := by
  refine jMet.intro' [(0, .int x), (1, .int lo), (2, .int hi)] (by decide) (Nat.le_of_ble_eq_true rfl) rfl ?_
  intro p e R s m args below meth c Q C hQ
  refine j_iload_n C dX5_isIn_0 rfl ?_
  refine j_iload_n C dX5_isIn_1 rfl ?_
  refine j_icmp_lt (tgt := 14) C dX5_isIn_2 (by decide) (fun h2 => ?_) (fun h2 => ?_)
  · skip
    refine j_iconst (v := (nI 0)) C dX5_isIn_14 rfl ?_
    exact j_zret C hQ rfl rfl dX5_isIn_15 ⟨Nat.le_of_ble_eq_true rfl, Nat.le_of_ble_eq_true rfl⟩ ⟨by rw [bI_f (by simp only [*, not_true_eq_false, not_false_eq_true, false_and, and_false, and_self])]; rfl, rfl⟩
  · skip
    refine j_iload_n C dX5_isIn_5 rfl ?_
    refine j_iload_n C dX5_isIn_6 rfl ?_
    refine j_icmp_gt (tgt := 14) C dX5_isIn_7 (by decide) (fun h7 => ?_) (fun h7 => ?_)
    · skip
      refine j_iconst (v := (nI 0)) C dX5_isIn_14 rfl ?_
      exact j_zret C hQ rfl rfl dX5_isIn_15 ⟨Nat.le_of_ble_eq_true rfl, Nat.le_of_ble_eq_true rfl⟩ ⟨by rw [bI_f (by simp only [*, not_true_eq_false, not_false_eq_true, false_and, and_false, and_self])]; rfl, rfl⟩
    · skip
      refine j_iconst (v := (nI 1)) C dX5_isIn_10 rfl ?_
      refine j_goto (tgt := 15) C dX5_isIn_11 (by decide) ?_
      exact j_zret C hQ rfl rfl dX5_isIn_15 ⟨Nat.le_of_ble_eq_true rfl, Nat.le_of_ble_eq_true rfl⟩ ⟨by rw [bI_t (by simp only [*, not_false_eq_true, and_self])]; rfl, rfl⟩
set_option maxHeartbeats 4000000 in
set_option maxRecDepth 100000 in
theorem m_one (l : Launch) (E : jE) (A : Nat → Prop) {ws : va_W} {c1 : Prop} [Decidable c1] : jMet l yX5_one cX5_one 1 (some .int) 0 0 0 E A [.int (bI c1)] ws (jR (some (.int (bI c1))) ws) jNo := by
  refine jMet.intro' [(0, .int (bI c1))] (by decide) (Nat.le_of_ble_eq_true rfl) rfl ?_
  intro p e R s m args below meth c Q C hQ
  refine j_iload_n C dX5_one_0 rfl ?_
  refine j_ifb_eq (tgt := 8) C dX5_one_1 (by decide) (fun h1 => ?_) (fun h1 => ?_)
  · skip
    refine j_iconst (v := (nI 0)) C dX5_one_8 rfl ?_
    exact j_iret C hQ rfl dX5_one_9 ⟨Nat.le_of_ble_eq_true rfl, Nat.le_of_ble_eq_true rfl⟩ ⟨by rw [bI_f (by simp only [*, not_true_eq_false, not_false_eq_true, false_and, and_false, and_self])]; rfl, rfl⟩
  · skip
    refine j_iconst (v := (nI 1)) C dX5_one_4 rfl ?_
    refine j_goto (tgt := 9) C dX5_one_5 (by decide) ?_
    exact j_iret C hQ rfl dX5_one_9 ⟨Nat.le_of_ble_eq_true rfl, Nat.le_of_ble_eq_true rfl⟩ ⟨by rw [bI_t (by simp only [*, not_false_eq_true, and_self])]; rfl, rfl⟩
set_option maxHeartbeats 4000000 in
set_option maxRecDepth 100000 in
theorem m_one_1 (l : Launch) (E : jE) (A : Nat → Prop) {ws : va_W}  : jMet l yX5_one cX5_one 1 (some .int) 0 0 0 E A [.int (nI 1)] ws (jR (some (.int (nI 1))) ws) jNo := by
  refine jMet.intro' [(0, .int (nI 1))] (by decide) (Nat.le_of_ble_eq_true rfl) rfl ?_
  intro p e R s m args below meth c Q C hQ
  refine j_iload_n C dX5_one_0 rfl ?_
  refine j_ifn_eq_f (tgt := 8) C dX5_one_1 (by decide) (by omega) (by omega) ?_
  refine j_iconst (v := (nI 1)) C dX5_one_4 rfl ?_
  refine j_goto (tgt := 9) C dX5_one_5 (by decide) ?_
  exact j_iret C hQ rfl dX5_one_9 ⟨Nat.le_of_ble_eq_true rfl, Nat.le_of_ble_eq_true rfl⟩ ⟨rfl, rfl⟩
set_option maxHeartbeats 4000000 in
set_option maxRecDepth 100000 in
theorem m_one_0 (l : Launch) (E : jE) (A : Nat → Prop) {ws : va_W}  : jMet l yX5_one cX5_one 1 (some .int) 0 0 0 E A [.int (nI 0)] ws (jR (some (.int (nI 0))) ws) jNo := by
  refine jMet.intro' [(0, .int (nI 0))] (by decide) (Nat.le_of_ble_eq_true rfl) rfl ?_
  intro p e R s m args below meth c Q C hQ
  refine j_iload_n C dX5_one_0 rfl ?_
  refine j_ifn_eq_t (tgt := 8) C dX5_one_1 (by decide) (by omega) (by omega) ?_
  refine j_iconst (v := (nI 0)) C dX5_one_8 rfl ?_
  exact j_iret C hQ rfl dX5_one_9 ⟨Nat.le_of_ble_eq_true rfl, Nat.le_of_ble_eq_true rfl⟩ ⟨rfl, rfl⟩
set_option maxHeartbeats 4000000 in
set_option maxRecDepth 100000 in
theorem m_isNo_0 (l : Launch) (E : jE) (A : Nat → Prop) {ws : va_W} {i : Nat} (hi : i < 9) : jMet l yX5_isNo cX5_isNo 1 (some .boolean) 1 0 0 E A [.int (nI i)] ws (jR (some (.int (nI 0))) ws) jNo := by
  refine jMet.intro' [(0, .int (nI i))] (by decide) (Nat.le_of_ble_eq_true rfl) rfl ?_
  intro p e R s m args below meth c Q C hQ
  refine j_iload_n C dX5_isNo_0 rfl ?_
  refine j_iconst (v := (nI 0)) C dX5_isNo_1 rfl ?_
  refine j_bipush (v := (nI 8)) C dX5_isNo_2 rfl ?_
  refine j_callSr C (v := .int (bI (¬ (nI i) < (nI 0) ∧ ¬ (nI 8) < (nI i)))) (w := ws) (m_isIn l E A) ok_X5_isIn w_953 (by decide) rfl rfl (Nat.le_of_ble_eq_true rfl) ⟨Nat.le_of_ble_eq_true rfl, Nat.le_of_ble_eq_true rfl⟩ dX5_isNo_4 ?_
  refine j_ifb_ne_t (tgt := 14) C dX5_isNo_7 (by decide) (in_t (by omega) (by omega) (by omega)) ?_
  refine j_iconst (v := (nI 0)) C dX5_isNo_14 rfl ?_
  exact j_zret C hQ rfl rfl dX5_isNo_15 ⟨Nat.le_of_ble_eq_true rfl, Nat.le_of_ble_eq_true rfl⟩ ⟨rfl, rfl⟩
set_option maxHeartbeats 4000000 in
set_option maxRecDepth 100000 in
theorem m_isNo_1 (l : Launch) (E : jE) (A : Nat → Prop) {ws : va_W} {x : Int32} (hb : x < 0 ∨ nI 9 ≤ x) : jMet l yX5_isNo cX5_isNo 1 (some .boolean) 1 0 0 E A [.int x] ws (jR (some (.int (nI 1))) ws) jNo := by
  refine jMet.intro' [(0, .int x)] (by decide) (Nat.le_of_ble_eq_true rfl) rfl ?_
  intro p e R s m args below meth c Q C hQ
  refine j_iload_n C dX5_isNo_0 rfl ?_
  refine j_iconst (v := (nI 0)) C dX5_isNo_1 rfl ?_
  refine j_bipush (v := (nI 8)) C dX5_isNo_2 rfl ?_
  refine j_callSr C (v := .int (bI (¬ x < (nI 0) ∧ ¬ (nI 8) < x))) (w := ws) (m_isIn l E A) ok_X5_isIn w_953 (by decide) rfl rfl (Nat.le_of_ble_eq_true rfl) ⟨Nat.le_of_ble_eq_true rfl, Nat.le_of_ble_eq_true rfl⟩ dX5_isNo_4 ?_
  refine j_ifb_ne_f (tgt := 14) C dX5_isNo_7 (by decide) (in_f (by decide) hb) ?_
  refine j_iconst (v := (nI 1)) C dX5_isNo_10 rfl ?_
  refine j_goto (tgt := 15) C dX5_isNo_11 (by decide) ?_
  exact j_zret C hQ rfl rfl dX5_isNo_15 ⟨Nat.le_of_ble_eq_true rfl, Nat.le_of_ble_eq_true rfl⟩ ⟨rfl, rfl⟩
set_option maxHeartbeats 4000000 in
set_option maxRecDepth 100000 in
theorem m_isSign_q (l : Launch) (E : jE) (A : Nat → Prop) {ws : va_W} {i : Nat} (hi : i < 10) : jMet l yX5_isSign cX5_isSign 1 (some .boolean) 1 0 0 E A [.int (nI i)] ws (jR (some (.int (nI 1))) ws) jNo := by
  refine jMet.intro' [(0, .int (nI i))] (by decide) (Nat.le_of_ble_eq_true rfl) rfl ?_
  intro p e R s m args below meth c Q C hQ
  refine j_iload_n C dX5_isSign_0 rfl ?_
  refine j_iconst (v := (nI 0)) C dX5_isSign_1 rfl ?_
  refine j_codesM C w_951 dX5_isSign_2 (fun t1 ht1 => ?_)
  refine j_tlen C ht1 rfl dX5_isSign_5 ?_
  refine j_iconst (v := (nI 1)) C dX5_isSign_6 rfl ?_
  refine j_isub (z := (nI 9)) C dX5_isSign_7 rfl ?_
  refine j_callSr C (v := .int (bI (¬ (nI i) < (nI 0) ∧ ¬ (nI 9) < (nI i)))) (w := ws) (m_isIn l E A) ok_X5_isIn w_953 (by decide) rfl rfl (Nat.le_of_ble_eq_true rfl) ⟨Nat.le_of_ble_eq_true rfl, Nat.le_of_ble_eq_true rfl⟩ dX5_isSign_8 ?_
  exact j_zret C hQ rfl (bI_nar _) dX5_isSign_11 ⟨Nat.le_of_ble_eq_true rfl, Nat.le_of_ble_eq_true rfl⟩ ⟨by rw [bI_t (in_t (by omega) (by omega) (by omega))]; rfl, rfl⟩
theorem m_isSign_1 (l : Launch) (E : jE) (A : Nat → Prop) {ws : va_W} {v : Int32} (h : isSg v) : jMet l yX5_isSign cX5_isSign 1 (some .boolean) 1 0 0 E A [.int v] ws (jR (some (.int (nI 1))) ws) jNo := by
  obtain ⟨q, hq, rfl⟩ := h
  exact m_isSign_q l E A hq
set_option maxHeartbeats 4000000 in
set_option maxRecDepth 100000 in
theorem m_isSign_0 (l : Launch) (E : jE) (A : Nat → Prop) {ws : va_W} {x : Int32} (hb : x < 0 ∨ nI 10 ≤ x) : jMet l yX5_isSign cX5_isSign 1 (some .boolean) 1 0 0 E A [.int x] ws (jR (some (.int (nI 0))) ws) jNo := by
  refine jMet.intro' [(0, .int x)] (by decide) (Nat.le_of_ble_eq_true rfl) rfl ?_
  intro p e R s m args below meth c Q C hQ
  refine j_iload_n C dX5_isSign_0 rfl ?_
  refine j_iconst (v := (nI 0)) C dX5_isSign_1 rfl ?_
  refine j_codesM C w_951 dX5_isSign_2 (fun t1 ht1 => ?_)
  refine j_tlen C ht1 rfl dX5_isSign_5 ?_
  refine j_iconst (v := (nI 1)) C dX5_isSign_6 rfl ?_
  refine j_isub (z := (nI 9)) C dX5_isSign_7 rfl ?_
  refine j_callSr C (v := .int (bI (¬ x < (nI 0) ∧ ¬ (nI 9) < x))) (w := ws) (m_isIn l E A) ok_X5_isIn w_953 (by decide) rfl rfl (Nat.le_of_ble_eq_true rfl) ⟨Nat.le_of_ble_eq_true rfl, Nat.le_of_ble_eq_true rfl⟩ dX5_isSign_8 ?_
  exact j_zret C hQ rfl (bI_nar _) dX5_isSign_11 ⟨Nat.le_of_ble_eq_true rfl, Nat.le_of_ble_eq_true rfl⟩ ⟨by rw [bI_f (in_f (by decide) hb)]; rfl, rfl⟩
set_option maxHeartbeats 4000000 in
set_option maxRecDepth 100000 in
theorem m_isSpan (l : Launch) (E : jE) (A : Nat → Prop) {ws : va_W} {x y z : Int64} : jMet l yX5_isSpan cX5_isSpan 6 (some .boolean) 0 0 0 E A [.long x, .long y, .long z] ws (jR (some (.int (bI (¬ x < 0 ∧ ¬ y < x ∧ ¬ z < y)))) ws) jNo := by
  refine jMet.intro' [(0, .long x), (2, .long y), (4, .long z)] (by decide) (Nat.le_of_ble_eq_true rfl) rfl ?_
  intro p e R s m args below meth c Q C hQ
  refine j_lload_n C dX5_isSpan_0 rfl ?_
  refine j_lconst (v := 0) C dX5_isSpan_1 rfl ?_
  refine j_l_lt (tgt := 23) C dX5_isSpan_2 dX5_isSpan_3 (by decide) (fun h2 => ?_) (fun h2 => ?_)
  · skip
    refine j_iconst (v := (nI 0)) C dX5_isSpan_23 rfl ?_
    exact j_zret C hQ rfl rfl dX5_isSpan_24 ⟨Nat.le_of_ble_eq_true rfl, Nat.le_of_ble_eq_true rfl⟩ ⟨by rw [bI_f (by simp only [*, not_true_eq_false, not_false_eq_true, false_and, and_false, and_self])]; rfl, rfl⟩
  · skip
    refine j_lload_n C dX5_isSpan_6 rfl ?_
    refine j_lload_n C dX5_isSpan_7 rfl ?_
    refine j_l_gt (tgt := 23) C dX5_isSpan_8 dX5_isSpan_9 (by decide) (fun h8 => ?_) (fun h8 => ?_)
    · skip
      refine j_iconst (v := (nI 0)) C dX5_isSpan_23 rfl ?_
      exact j_zret C hQ rfl rfl dX5_isSpan_24 ⟨Nat.le_of_ble_eq_true rfl, Nat.le_of_ble_eq_true rfl⟩ ⟨by rw [bI_f (by simp only [*, not_true_eq_false, not_false_eq_true, false_and, and_false, and_self])]; rfl, rfl⟩
    · skip
      refine j_lload_n C dX5_isSpan_12 rfl ?_
      refine j_lload C dX5_isSpan_13 rfl ?_
      refine j_l_gt (tgt := 23) C dX5_isSpan_15 dX5_isSpan_16 (by decide) (fun h15 => ?_) (fun h15 => ?_)
      · skip
        refine j_iconst (v := (nI 0)) C dX5_isSpan_23 rfl ?_
        exact j_zret C hQ rfl rfl dX5_isSpan_24 ⟨Nat.le_of_ble_eq_true rfl, Nat.le_of_ble_eq_true rfl⟩ ⟨by rw [bI_f (by simp only [*, not_true_eq_false, not_false_eq_true, false_and, and_false, and_self])]; rfl, rfl⟩
      · skip
        refine j_iconst (v := (nI 1)) C dX5_isSpan_19 rfl ?_
        refine j_goto (tgt := 24) C dX5_isSpan_20 (by decide) ?_
        exact j_zret C hQ rfl rfl dX5_isSpan_24 ⟨Nat.le_of_ble_eq_true rfl, Nat.le_of_ble_eq_true rfl⟩ ⟨by rw [bI_t (by simp only [*, not_false_eq_true, and_self])]; rfl, rfl⟩
set_option maxHeartbeats 4000000 in
set_option maxRecDepth 100000 in
theorem m_isStretch (l : Launch) (E : jE) (A : Nat → Prop) {ws : va_W} {x y z : Int64} : jMet l yX5_isStretch cX5_isStretch 6 (some .boolean) 0 0 0 E A [.long x, .long y, .long z] ws (jR (some (.int (bI (¬ x < 0 ∧ ¬ y < 0 ∧ ¬ z < 0 ∧ ¬ z < x + y)))) ws) jNo := by
  refine jMet.intro' [(0, .long x), (2, .long y), (4, .long z)] (by decide) (Nat.le_of_ble_eq_true rfl) rfl ?_
  intro p e R s m args below meth c Q C hQ
  refine j_lload_n C dX5_isStretch_0 rfl ?_
  refine j_lconst (v := 0) C dX5_isStretch_1 rfl ?_
  refine j_l_lt (tgt := 32) C dX5_isStretch_2 dX5_isStretch_3 (by decide) (fun h2 => ?_) (fun h2 => ?_)
  · skip
    refine j_iconst (v := (nI 0)) C dX5_isStretch_32 rfl ?_
    exact j_zret C hQ rfl rfl dX5_isStretch_33 ⟨Nat.le_of_ble_eq_true rfl, Nat.le_of_ble_eq_true rfl⟩ ⟨by rw [bI_f (by simp only [*, not_true_eq_false, not_false_eq_true, false_and, and_false, and_self])]; rfl, rfl⟩
  · skip
    refine j_lload_n C dX5_isStretch_6 rfl ?_
    refine j_lconst (v := 0) C dX5_isStretch_7 rfl ?_
    refine j_l_lt (tgt := 32) C dX5_isStretch_8 dX5_isStretch_9 (by decide) (fun h8 => ?_) (fun h8 => ?_)
    · skip
      refine j_iconst (v := (nI 0)) C dX5_isStretch_32 rfl ?_
      exact j_zret C hQ rfl rfl dX5_isStretch_33 ⟨Nat.le_of_ble_eq_true rfl, Nat.le_of_ble_eq_true rfl⟩ ⟨by rw [bI_f (by simp only [*, not_true_eq_false, not_false_eq_true, false_and, and_false, and_self])]; rfl, rfl⟩
    · skip
      refine j_lload C dX5_isStretch_12 rfl ?_
      refine j_lconst (v := 0) C dX5_isStretch_14 rfl ?_
      refine j_l_lt (tgt := 32) C dX5_isStretch_15 dX5_isStretch_16 (by decide) (fun h15 => ?_) (fun h15 => ?_)
      · skip
        refine j_iconst (v := (nI 0)) C dX5_isStretch_32 rfl ?_
        exact j_zret C hQ rfl rfl dX5_isStretch_33 ⟨Nat.le_of_ble_eq_true rfl, Nat.le_of_ble_eq_true rfl⟩ ⟨by rw [bI_f (by simp only [*, not_true_eq_false, not_false_eq_true, false_and, and_false, and_self])]; rfl, rfl⟩
      · skip
        refine j_lload_n C dX5_isStretch_19 rfl ?_
        refine j_lload_n C dX5_isStretch_20 rfl ?_
        refine j_ladd (z := x + y) C dX5_isStretch_21 rfl ?_
        refine j_lload C dX5_isStretch_22 rfl ?_
        refine j_l_gt (tgt := 32) C dX5_isStretch_24 dX5_isStretch_25 (by decide) (fun h24 => ?_) (fun h24 => ?_)
        · skip
          refine j_iconst (v := (nI 0)) C dX5_isStretch_32 rfl ?_
          exact j_zret C hQ rfl rfl dX5_isStretch_33 ⟨Nat.le_of_ble_eq_true rfl, Nat.le_of_ble_eq_true rfl⟩ ⟨by rw [bI_f (by simp only [*, not_true_eq_false, not_false_eq_true, false_and, and_false, and_self])]; rfl, rfl⟩
        · skip
          refine j_iconst (v := (nI 1)) C dX5_isStretch_28 rfl ?_
          refine j_goto (tgt := 33) C dX5_isStretch_29 (by decide) ?_
          exact j_zret C hQ rfl rfl dX5_isStretch_33 ⟨Nat.le_of_ble_eq_true rfl, Nat.le_of_ble_eq_true rfl⟩ ⟨by rw [bI_t (by simp only [*, not_false_eq_true, and_self])]; rfl, rfl⟩
set_option maxHeartbeats 4000000 in
set_option maxRecDepth 100000 in
theorem m_before (l : Launch) (E : jE) (A : Nat → Prop) {ws : va_W} {x y : Int32} : jMet l yX5_before cX5_before 2 (some .int) 1 0 0 E A [.int x, .int y] ws (jR (some (.int (smI x y))) ws) jNo := by
  refine jMet.intro' [(0, .int x), (1, .int y)] (by decide) (Nat.le_of_ble_eq_true rfl) rfl ?_
  intro p e R s m args below meth c Q C hQ
  refine j_iload_n C dX5_before_0 rfl ?_
  refine j_iload_n C dX5_before_1 rfl ?_
  refine j_icmp_ge (tgt := 9) C dX5_before_2 (by decide) (fun h2 => ?_) (fun h2 => ?_)
  · skip
    refine j_iload_n C dX5_before_9 rfl ?_
    refine j_iload_n C dX5_before_10 rfl ?_
    refine j_icmp_le (tgt := 18) C dX5_before_11 (by decide) (fun h11 => ?_) (fun h11 => ?_)
    · skip
      refine j_iconst (v := (nI 0)) C dX5_before_18 rfl ?_
      refine j_callSr C (v := .int (nI 0)) (w := ws) (m_one_0 l E A) ok_X5_one w_956 (by decide) rfl rfl (Nat.le_of_ble_eq_true rfl) ⟨Nat.le_of_ble_eq_true rfl, Nat.le_of_ble_eq_true rfl⟩ dX5_before_19 ?_
      exact j_iret C hQ rfl dX5_before_22 ⟨Nat.le_of_ble_eq_true rfl, Nat.le_of_ble_eq_true rfl⟩ ⟨by rw [smI, if_neg (Int32.not_lt.mpr h2), if_neg (Int32.not_lt.mpr h11)]; rfl, rfl⟩
    · skip
      refine j_iconst (v := (nI 1)) C dX5_before_14 rfl ?_
      refine j_goto (tgt := 19) C dX5_before_15 (by decide) ?_
      refine j_callSr C (v := .int (nI 1)) (w := ws) (m_one_1 l E A) ok_X5_one w_956 (by decide) rfl rfl (Nat.le_of_ble_eq_true rfl) ⟨Nat.le_of_ble_eq_true rfl, Nat.le_of_ble_eq_true rfl⟩ dX5_before_19 ?_
      exact j_iret C hQ rfl dX5_before_22 ⟨Nat.le_of_ble_eq_true rfl, Nat.le_of_ble_eq_true rfl⟩ ⟨by rw [smI, if_neg (Int32.not_lt.mpr h2), if_pos (Int32.not_le.mp h11)]; rfl, rfl⟩
  · skip
    refine j_iconst (v := (-1)) C dX5_before_5 rfl ?_
    refine j_goto (tgt := 22) C dX5_before_6 (by decide) ?_
    exact j_iret C hQ rfl dX5_before_22 ⟨Nat.le_of_ble_eq_true rfl, Nat.le_of_ble_eq_true rfl⟩ ⟨by rw [smI, if_pos (Int32.not_le.mp h2)], rfl⟩
set_option maxHeartbeats 4000000 in
set_option maxRecDepth 100000 in
theorem m_refuse_0 (l : Launch) (E : jE) (A : Nat → Prop) {x0 x1 x2 x3 x4 x5 : Nat × va_E} {mo ou : Nat} {re ak gv kn : Int32} {ro : Nat → Option Nat} {LL : List Nat} {ff : Nat → va_E} {w : Nat} : jMet l yX5_refuse cX5_refuse 3 (some .boolean) 0 0 0 E A [.ref mo, .int (nI 0), .int (nI w)] (mW E x0 x1 x2 x3 x4 x5 mo ou (nI 0) re ak gv kn ro LL ff) (jR (some (.int (nI 0))) (mW E x0 x1 x2 x3 x4 x5 mo ou (nI 0) re ak gv kn ro LL ff)) jNo := by
  refine jMet.intro' [(0, .ref mo), (1, .int (nI 0)), (2, .int (nI w))] (by decide) (Nat.le_of_ble_eq_true rfl) rfl ?_
  intro p e R s m args below meth c Q C hQ
  refine j_iload_n C dX5_refuse_0 rfl ?_
  refine j_ifn_eq_t (tgt := 16) C dX5_refuse_1 (by decide) (by omega) (by omega) ?_
  refine j_aload_n C dX5_refuse_16 rfl ?_
  refine j_get C 6 rfl inj_X5 rfl 0 (by decide) w_921 rfl dX5_refuse_17 ?_
  refine j_ifn_le_t (tgt := 27) C dX5_refuse_20 (by decide) (by omega) (by omega) ?_
  refine j_iconst (v := (nI 0)) C dX5_refuse_27 rfl ?_
  exact j_zret C hQ rfl rfl dX5_refuse_28 ⟨Nat.le_of_ble_eq_true rfl, Nat.le_of_ble_eq_true rfl⟩ ⟨rfl, rfl⟩
set_option maxHeartbeats 4000000 in
set_option maxRecDepth 100000 in
theorem m_refuse_1 (l : Launch) (E : jE) (A : Nat → Prop) {x0 x1 x2 x3 x4 x5 : Nat × va_E} {mo ou : Nat} {re ak gv kn : Int32} {ro : Nat → Option Nat} {LL : List Nat} {ff : Nat → va_E} {w : Nat} (hw : 0 < w) (hw2 : w < 10) : jMet l yX5_refuse cX5_refuse 3 (some .boolean) 0 0 0 E A [.ref mo, .int (nI 1), .int (nI w)] (mW E x0 x1 x2 x3 x4 x5 mo ou (nI 0) re ak gv kn ro LL ff) (jR (some (.int (nI 1))) (mW E x0 x1 x2 x3 x4 x5 mo ou (nI w) re ak gv kn ro LL ff)) jNo := by
  refine jMet.intro' [(0, .ref mo), (1, .int (nI 1)), (2, .int (nI w))] (by decide) (Nat.le_of_ble_eq_true rfl) rfl ?_
  intro p e R s m args below meth c Q C hQ
  refine j_iload_n C dX5_refuse_0 rfl ?_
  refine j_ifn_eq_f (tgt := 16) C dX5_refuse_1 (by decide) (by omega) (by omega) ?_
  refine j_aload_n C dX5_refuse_4 rfl ?_
  refine j_get C 6 rfl inj_X5 rfl 0 (by decide) w_921 rfl dX5_refuse_5 ?_
  refine j_ifn_ne_f (tgt := 16) C dX5_refuse_8 (by decide) (by omega) (by omega) ?_
  refine j_aload_n C dX5_refuse_11 rfl ?_
  refine j_iload_n C dX5_refuse_12 rfl ?_
  refine j_put (ws' := (mW E x0 x1 x2 x3 x4 x5 mo ou (nI w) re ak gv kn ro LL ff)) C 6 rfl inj_X5 tyX5 tyX5_ok nmX5 rfl 0 (by decide) w_921 rfl (tyX5_ok 0 (by decide)) rfl rfl (Nat.le_of_ble_eq_true rfl) dX5_refuse_13 rfl ?_
  refine j_aload_n C dX5_refuse_16 rfl ?_
  refine j_get C 6 rfl inj_X5 rfl 0 (by decide) w_921 rfl dX5_refuse_17 ?_
  refine j_ifn_le_f (tgt := 27) C dX5_refuse_20 (by decide) (by omega) (by omega) ?_
  refine j_iconst (v := (nI 1)) C dX5_refuse_23 rfl ?_
  refine j_goto (tgt := 28) C dX5_refuse_24 (by decide) ?_
  exact j_zret C hQ rfl rfl dX5_refuse_28 ⟨Nat.le_of_ble_eq_true rfl, Nat.le_of_ble_eq_true rfl⟩ ⟨rfl, rfl⟩
set_option maxHeartbeats 4000000 in
set_option maxRecDepth 100000 in
theorem m_start_0 (l : Launch) (E : jE) (A : Nat → Prop) {x0 x1 x2 x3 x4 x5 : Nat × va_E} {mo ou : Nat} {th re ak gv kn : Int32} {ro : Nat → Option Nat} {LL : List Nat} {ff : Nat → va_E} {w : Nat} : jMet l yX5_start cX5_start 3 (some .boolean) 1 0 0 E A [.ref mo, .int (nI 0), .int (nI w)] (mW E x0 x1 x2 x3 x4 x5 mo ou th re ak gv kn ro LL ff) (jR (some (.int (nI 0))) (mW E x0 x1 x2 x3 x4 x5 mo ou (nI 0) re ak gv kn ro LL ff)) jNo := by
  refine jMet.intro' [(0, .ref mo), (1, .int (nI 0)), (2, .int (nI w))] (by decide) (Nat.le_of_ble_eq_true rfl) rfl ?_
  intro p e R s m args below meth c Q C hQ
  refine j_aload_n C dX5_start_0 rfl ?_
  refine j_iconst (v := (nI 0)) C dX5_start_1 rfl ?_
  refine j_put (ws' := (mW E x0 x1 x2 x3 x4 x5 mo ou (nI 0) re ak gv kn ro LL ff)) C 6 rfl inj_X5 tyX5 tyX5_ok nmX5 rfl 0 (by decide) w_921 rfl (tyX5_ok 0 (by decide)) rfl rfl (Nat.le_of_ble_eq_true rfl) dX5_start_2 rfl ?_
  refine j_aload_n C dX5_start_5 rfl ?_
  refine j_iload_n C dX5_start_6 rfl ?_
  refine j_iload_n C dX5_start_7 rfl ?_
  refine j_callVr C 6 (v := .int (nI 0)) (w := (mW E x0 x1 x2 x3 x4 x5 mo ou (nI 0) re ak gv kn ro LL ff)) (m_refuse_0 l E A) ok_X5_refuse w_966 (by decide) rfl rfl (Nat.le_of_ble_eq_true rfl) rfl rfl ⟨Nat.le_of_ble_eq_true rfl, Nat.le_of_ble_eq_true rfl⟩ dX5_start_8 ?_
  exact j_zret C hQ rfl rfl dX5_start_11 ⟨Nat.le_of_ble_eq_true rfl, Nat.le_of_ble_eq_true rfl⟩ ⟨rfl, rfl⟩
set_option maxHeartbeats 4000000 in
set_option maxRecDepth 100000 in
theorem m_start_1 (l : Launch) (E : jE) (A : Nat → Prop) {x0 x1 x2 x3 x4 x5 : Nat × va_E} {mo ou : Nat} {th re ak gv kn : Int32} {ro : Nat → Option Nat} {LL : List Nat} {ff : Nat → va_E} {w : Nat} (hw : 0 < w) (hw2 : w < 10) : jMet l yX5_start cX5_start 3 (some .boolean) 1 0 0 E A [.ref mo, .int (nI 1), .int (nI w)] (mW E x0 x1 x2 x3 x4 x5 mo ou th re ak gv kn ro LL ff) (jR (some (.int (nI 1))) (mW E x0 x1 x2 x3 x4 x5 mo ou (nI w) re ak gv kn ro LL ff)) jNo := by
  refine jMet.intro' [(0, .ref mo), (1, .int (nI 1)), (2, .int (nI w))] (by decide) (Nat.le_of_ble_eq_true rfl) rfl ?_
  intro p e R s m args below meth c Q C hQ
  refine j_aload_n C dX5_start_0 rfl ?_
  refine j_iconst (v := (nI 0)) C dX5_start_1 rfl ?_
  refine j_put (ws' := (mW E x0 x1 x2 x3 x4 x5 mo ou (nI 0) re ak gv kn ro LL ff)) C 6 rfl inj_X5 tyX5 tyX5_ok nmX5 rfl 0 (by decide) w_921 rfl (tyX5_ok 0 (by decide)) rfl rfl (Nat.le_of_ble_eq_true rfl) dX5_start_2 rfl ?_
  refine j_aload_n C dX5_start_5 rfl ?_
  refine j_iload_n C dX5_start_6 rfl ?_
  refine j_iload_n C dX5_start_7 rfl ?_
  refine j_callVr C 6 (v := .int (nI 1)) (w := (mW E x0 x1 x2 x3 x4 x5 mo ou (nI w) re ak gv kn ro LL ff)) (m_refuse_1 l E A hw hw2) ok_X5_refuse w_966 (by decide) rfl rfl (Nat.le_of_ble_eq_true rfl) rfl rfl ⟨Nat.le_of_ble_eq_true rfl, Nat.le_of_ble_eq_true rfl⟩ dX5_start_8 ?_
  exact j_zret C hQ rfl rfl dX5_start_11 ⟨Nat.le_of_ble_eq_true rfl, Nat.le_of_ble_eq_true rfl⟩ ⟨rfl, rfl⟩
set_option maxHeartbeats 4000000 in
set_option maxRecDepth 100000 in
theorem m_no (l : Launch) (E : jE) (A : Nat → Prop) {x0 x1 x2 x3 x4 x5 : Nat × va_E} {mo ou : Nat} {th re ak gv kn : Int32} {ro : Nat → Option Nat} {LL : List Nat} {ff : Nat → va_E}  : jMet l yX5_no cX5_no 1 (some .int) 0 0 0 E A [.ref mo] (mW E x0 x1 x2 x3 x4 x5 mo ou th re ak gv kn ro LL ff) (jR (some (.int (-9))) (mW E x0 x1 x2 x3 x4 x5 mo ou th (re + nI 1) ak gv kn ro LL ff)) jNo := by
  refine jMet.intro' [(0, .ref mo)] (by decide) (Nat.le_of_ble_eq_true rfl) rfl ?_
  intro p e R s m args below meth c Q C hQ
  refine j_aload_n C dX5_no_0 rfl ?_
  refine j_dup C dX5_no_1 rfl ?_
  refine j_get C 6 rfl inj_X5 rfl 2 (by decide) w_923 rfl dX5_no_2 ?_
  refine j_iconst (v := (nI 1)) C dX5_no_5 rfl ?_
  refine j_iadd (z := (re + (nI 1))) C dX5_no_6 rfl ?_
  refine j_put (ws' := (mW E x0 x1 x2 x3 x4 x5 mo ou th (re + (nI 1)) ak gv kn ro LL ff)) C 6 rfl inj_X5 tyX5 tyX5_ok nmX5 rfl 2 (by decide) w_923 rfl (tyX5_ok 2 (by decide)) rfl rfl (Nat.le_of_ble_eq_true rfl) dX5_no_7 rfl ?_
  refine j_bipush (v := (-9)) C dX5_no_10 rfl ?_
  exact j_iret C hQ rfl dX5_no_12 ⟨Nat.le_of_ble_eq_true rfl, Nat.le_of_ble_eq_true rfl⟩ ⟨rfl, rfl⟩
set_option maxHeartbeats 4000000 in
set_option maxRecDepth 100000 in
theorem m_many_k (l : Launch) (E : jE) (A : Nat → Prop) {x0 x1 x2 x3 x4 x5 : Nat × va_E} {mo ou : Nat} {th re ak gv kn : Int32} {ro : Nat → Option Nat} {LL : List Nat} {ff : Nat → va_E} {i : Nat} (hi : i < 9) {ai n : Nat} {h : Nat → Int32} (hrai : ro i = some ai) (hmai : ai ∈ LL) (hfai : ff ai = .inl (E.2.1, n, .inl h)) (hnai : n ≤ 24)  : jMet l yX5_many cX5_many 2 (some .int) 0 0 0 E A [.ref mo, .int (nI i)] (mW E x0 x1 x2 x3 x4 x5 mo ou th re ak gv kn ro LL ff) (jR (some (.int (nI n))) (mW E x0 x1 x2 x3 x4 x5 mo ou th re ak gv kn ro LL ff)) jNo := by
  refine jMet.intro' [(0, .ref mo), (1, .int (nI i))] (by decide) (Nat.le_of_ble_eq_true rfl) rfl ?_
  intro p e R s m args below meth c Q C hQ
  refine j_aload_n C dX5_many_0 rfl ?_
  refine j_get C 6 rfl inj_X5 rfl 1 (by decide) w_922 rfl dX5_many_1 ?_
  refine j_iload_n C dX5_many_4 rfl ?_
  refine j_aaload (v := .ref ai) C 7 i rfl rfl (by omega) (by decide) (by rw [show ro i = some ai from hrai]; rfl) dX5_many_5 ?_
  refine j_ifnonnull_t (tgt := 13) C dX5_many_6 (by decide) ?_
  refine j_aload_n C dX5_many_13 rfl ?_
  refine j_get C 6 rfl inj_X5 rfl 1 (by decide) w_922 rfl dX5_many_14 ?_
  refine j_iload_n C dX5_many_17 rfl ?_
  refine j_aaload (v := .ref ai) C 7 i rfl rfl (by omega) (by decide) (by rw [show ro i = some ai from hrai]; rfl) dX5_many_18 ?_
  refine j_alenP (n := n) C hmai hfai dX5_many_19 ?_
  exact j_iret C hQ rfl dX5_many_20 ⟨Nat.le_of_ble_eq_true rfl, Nat.le_of_ble_eq_true rfl⟩ ⟨rfl, rfl⟩
set_option maxHeartbeats 4000000 in
set_option maxRecDepth 100000 in
theorem m_many_m (l : Launch) (E : jE) (A : Nat → Prop) {x0 x1 x2 x3 x4 x5 : Nat × va_E} {mo ou : Nat} {th re ak gv kn : Int32} {ro : Nat → Option Nat} {LL : List Nat} {ff : Nat → va_E} {i : Nat} (hi : i < 9) (hri : ro i = none)  : jMet l yX5_many cX5_many 2 (some .int) 0 0 0 E A [.ref mo, .int (nI i)] (mW E x0 x1 x2 x3 x4 x5 mo ou th re ak gv kn ro LL ff) (jR (some (.int (-1))) (mW E x0 x1 x2 x3 x4 x5 mo ou th re ak gv kn ro LL ff)) jNo := by
  refine jMet.intro' [(0, .ref mo), (1, .int (nI i))] (by decide) (Nat.le_of_ble_eq_true rfl) rfl ?_
  intro p e R s m args below meth c Q C hQ
  refine j_aload_n C dX5_many_0 rfl ?_
  refine j_get C 6 rfl inj_X5 rfl 1 (by decide) w_922 rfl dX5_many_1 ?_
  refine j_iload_n C dX5_many_4 rfl ?_
  refine j_aaload (v := .null) C 7 i rfl rfl (by omega) (by decide) (by rw [show ro i = none from hri]; rfl) dX5_many_5 ?_
  refine j_ifnonnull_f C dX5_many_6 ?_
  refine j_iconst (v := (-1)) C dX5_many_9 rfl ?_
  refine j_goto (tgt := 20) C dX5_many_10 (by decide) ?_
  exact j_iret C hQ rfl dX5_many_20 ⟨Nat.le_of_ble_eq_true rfl, Nat.le_of_ble_eq_true rfl⟩ ⟨rfl, rfl⟩
set_option maxHeartbeats 4000000 in
set_option maxRecDepth 100000 in
theorem m_told_1 (l : Launch) (E : jE) (A : Nat → Prop) {x0 x1 x2 x3 x4 x5 : Nat × va_E} {mo ou : Nat} {th re ak gv kn : Int32} {ro : Nat → Option Nat} {LL : List Nat} {ff : Nat → va_E} {x : Int32} : jMet l yX5_told cX5_told 3 (some .int) 1 0 0 E A [.ref mo, .int (nI 1), .int x] (mW E x0 x1 x2 x3 x4 x5 mo ou th re ak gv kn ro LL ff) (jR (some (.int x)) (mW E x0 x1 x2 x3 x4 x5 mo ou (nI 0) re ak gv kn ro LL ff)) jNo := by
  refine jMet.intro' [(0, .ref mo), (1, .int (nI 1)), (2, .int x)] (by decide) (Nat.le_of_ble_eq_true rfl) rfl ?_
  intro p e R s m args below meth c Q C hQ
  refine j_aload_n C dX5_told_0 rfl ?_
  refine j_iconst (v := (nI 0)) C dX5_told_1 rfl ?_
  refine j_put (ws' := (mW E x0 x1 x2 x3 x4 x5 mo ou (nI 0) re ak gv kn ro LL ff)) C 6 rfl inj_X5 tyX5 tyX5_ok nmX5 rfl 0 (by decide) w_921 rfl (tyX5_ok 0 (by decide)) rfl rfl (Nat.le_of_ble_eq_true rfl) dX5_told_2 rfl ?_
  refine j_iload_n C dX5_told_5 rfl ?_
  refine j_ifn_eq_f (tgt := 13) C dX5_told_6 (by decide) (by omega) (by omega) ?_
  refine j_iload_n C dX5_told_9 rfl ?_
  refine j_goto (tgt := 17) C dX5_told_10 (by decide) ?_
  exact j_iret C hQ rfl dX5_told_17 ⟨Nat.le_of_ble_eq_true rfl, Nat.le_of_ble_eq_true rfl⟩ ⟨rfl, rfl⟩
set_option maxHeartbeats 4000000 in
set_option maxRecDepth 100000 in
theorem m_told_b1 (l : Launch) (E : jE) (A : Nat → Prop) {x0 x1 x2 x3 x4 x5 : Nat × va_E} {mo ou : Nat} {th re ak gv kn : Int32} {ro : Nat → Option Nat} {LL : List Nat} {ff : Nat → va_E} {c1 : Prop} [Decidable c1] {x : Int32} (hc : c1) : jMet l yX5_told cX5_told 3 (some .int) 1 0 0 E A [.ref mo, .int (bI c1), .int x] (mW E x0 x1 x2 x3 x4 x5 mo ou th re ak gv kn ro LL ff) (jR (some (.int x)) (mW E x0 x1 x2 x3 x4 x5 mo ou (nI 0) re ak gv kn ro LL ff)) jNo := by
  refine jMet.intro' [(0, .ref mo), (1, .int (bI c1)), (2, .int x)] (by decide) (Nat.le_of_ble_eq_true rfl) rfl ?_
  intro p e R s m args below meth c Q C hQ
  refine j_aload_n C dX5_told_0 rfl ?_
  refine j_iconst (v := (nI 0)) C dX5_told_1 rfl ?_
  refine j_put (ws' := (mW E x0 x1 x2 x3 x4 x5 mo ou (nI 0) re ak gv kn ro LL ff)) C 6 rfl inj_X5 tyX5 tyX5_ok nmX5 rfl 0 (by decide) w_921 rfl (tyX5_ok 0 (by decide)) rfl rfl (Nat.le_of_ble_eq_true rfl) dX5_told_2 rfl ?_
  refine j_iload_n C dX5_told_5 rfl ?_
  refine j_ifb_eq_f (tgt := 13) C dX5_told_6 (by decide) hc ?_
  refine j_iload_n C dX5_told_9 rfl ?_
  refine j_goto (tgt := 17) C dX5_told_10 (by decide) ?_
  exact j_iret C hQ rfl dX5_told_17 ⟨Nat.le_of_ble_eq_true rfl, Nat.le_of_ble_eq_true rfl⟩ ⟨rfl, rfl⟩
set_option maxHeartbeats 4000000 in
set_option maxRecDepth 100000 in
theorem m_told_0 (l : Launch) (E : jE) (A : Nat → Prop) {x0 x1 x2 x3 x4 x5 : Nat × va_E} {mo ou : Nat} {th re ak gv kn : Int32} {ro : Nat → Option Nat} {LL : List Nat} {ff : Nat → va_E} {x : Int32} : jMet l yX5_told cX5_told 3 (some .int) 1 0 0 E A [.ref mo, .int (nI 0), .int x] (mW E x0 x1 x2 x3 x4 x5 mo ou th re ak gv kn ro LL ff) (jR (some (.int (-9))) (mW E x0 x1 x2 x3 x4 x5 mo ou (nI 0) (re + nI 1) ak gv kn ro LL ff)) jNo := by
  refine jMet.intro' [(0, .ref mo), (1, .int (nI 0)), (2, .int x)] (by decide) (Nat.le_of_ble_eq_true rfl) rfl ?_
  intro p e R s m args below meth c Q C hQ
  refine j_aload_n C dX5_told_0 rfl ?_
  refine j_iconst (v := (nI 0)) C dX5_told_1 rfl ?_
  refine j_put (ws' := (mW E x0 x1 x2 x3 x4 x5 mo ou (nI 0) re ak gv kn ro LL ff)) C 6 rfl inj_X5 tyX5 tyX5_ok nmX5 rfl 0 (by decide) w_921 rfl (tyX5_ok 0 (by decide)) rfl rfl (Nat.le_of_ble_eq_true rfl) dX5_told_2 rfl ?_
  refine j_iload_n C dX5_told_5 rfl ?_
  refine j_ifn_eq_t (tgt := 13) C dX5_told_6 (by decide) (by omega) (by omega) ?_
  refine j_aload_n C dX5_told_13 rfl ?_
  refine j_callVr C 6 (v := .int (-9)) (w := (mW E x0 x1 x2 x3 x4 x5 mo ou (nI 0) (re + nI 1) ak gv kn ro LL ff)) (m_no l E A) ok_X5_no w_992 (by decide) rfl rfl (Nat.le_of_ble_eq_true rfl) rfl rfl ⟨Nat.le_of_ble_eq_true rfl, Nat.le_of_ble_eq_true rfl⟩ dX5_told_14 ?_
  exact j_iret C hQ rfl dX5_told_17 ⟨Nat.le_of_ble_eq_true rfl, Nat.le_of_ble_eq_true rfl⟩ ⟨rfl, rfl⟩
set_option maxHeartbeats 4000000 in
set_option maxRecDepth 100000 in
theorem m_told_b0 (l : Launch) (E : jE) (A : Nat → Prop) {x0 x1 x2 x3 x4 x5 : Nat × va_E} {mo ou : Nat} {th re ak gv kn : Int32} {ro : Nat → Option Nat} {LL : List Nat} {ff : Nat → va_E} {c1 : Prop} [Decidable c1] {x : Int32} (hc : ¬ c1) : jMet l yX5_told cX5_told 3 (some .int) 1 0 0 E A [.ref mo, .int (bI c1), .int x] (mW E x0 x1 x2 x3 x4 x5 mo ou th re ak gv kn ro LL ff) (jR (some (.int (-9))) (mW E x0 x1 x2 x3 x4 x5 mo ou (nI 0) (re + nI 1) ak gv kn ro LL ff)) jNo := by
  refine jMet.intro' [(0, .ref mo), (1, .int (bI c1)), (2, .int x)] (by decide) (Nat.le_of_ble_eq_true rfl) rfl ?_
  intro p e R s m args below meth c Q C hQ
  refine j_aload_n C dX5_told_0 rfl ?_
  refine j_iconst (v := (nI 0)) C dX5_told_1 rfl ?_
  refine j_put (ws' := (mW E x0 x1 x2 x3 x4 x5 mo ou (nI 0) re ak gv kn ro LL ff)) C 6 rfl inj_X5 tyX5 tyX5_ok nmX5 rfl 0 (by decide) w_921 rfl (tyX5_ok 0 (by decide)) rfl rfl (Nat.le_of_ble_eq_true rfl) dX5_told_2 rfl ?_
  refine j_iload_n C dX5_told_5 rfl ?_
  refine j_ifb_eq_t (tgt := 13) C dX5_told_6 (by decide) hc ?_
  refine j_aload_n C dX5_told_13 rfl ?_
  refine j_callVr C 6 (v := .int (-9)) (w := (mW E x0 x1 x2 x3 x4 x5 mo ou (nI 0) (re + nI 1) ak gv kn ro LL ff)) (m_no l E A) ok_X5_no w_992 (by decide) rfl rfl (Nat.le_of_ble_eq_true rfl) rfl rfl ⟨Nat.le_of_ble_eq_true rfl, Nat.le_of_ble_eq_true rfl⟩ dX5_told_14 ?_
  exact j_iret C hQ rfl dX5_told_17 ⟨Nat.le_of_ble_eq_true rfl, Nat.le_of_ble_eq_true rfl⟩ ⟨rfl, rfl⟩
set_option maxHeartbeats 4000000 in
set_option maxRecDepth 100000 in
theorem m_is (l : Launch) (E : jE) (A : Nat → Prop) {x0 x1 x2 x3 x4 x5 : Nat × va_E} {mo ou : Nat} {th re ak gv kn : Int32} {ro : Nat → Option Nat} {LL : List Nat} {ff : Nat → va_E} {x : Int32} (hx : narrow .boolean (.int x) = .int x) : jMet l yX5_is cX5_is 2 (some .boolean) 0 0 0 E A [.ref mo, .int x] (mW E x0 x1 x2 x3 x4 x5 mo ou th re ak gv kn ro LL ff) (jR (some (.int x)) (mW E x0 x1 x2 x3 x4 x5 mo ou (nI 0) re ak gv kn ro LL ff)) jNo := by
  refine jMet.intro' [(0, .ref mo), (1, .int x)] (by decide) (Nat.le_of_ble_eq_true rfl) rfl ?_
  intro p e R s m args below meth c Q C hQ
  refine j_aload_n C dX5_is_0 rfl ?_
  refine j_iconst (v := (nI 0)) C dX5_is_1 rfl ?_
  refine j_put (ws' := (mW E x0 x1 x2 x3 x4 x5 mo ou (nI 0) re ak gv kn ro LL ff)) C 6 rfl inj_X5 tyX5 tyX5_ok nmX5 rfl 0 (by decide) w_921 rfl (tyX5_ok 0 (by decide)) rfl rfl (Nat.le_of_ble_eq_true rfl) dX5_is_2 rfl ?_
  refine j_iload_n C dX5_is_5 rfl ?_
  exact j_zret C hQ rfl hx dX5_is_6 ⟨Nat.le_of_ble_eq_true rfl, Nat.le_of_ble_eq_true rfl⟩ ⟨rfl, rfl⟩
set_option maxHeartbeats 4000000 in
set_option maxRecDepth 100000 in
theorem m_isNone_b (l : Launch) (E : jE) (A : Nat → Prop) {x0 x1 x2 x3 x4 x5 : Nat × va_E} {mo ou : Nat} {th re ak gv kn : Int32} {ro : Nat → Option Nat} {LL : List Nat} {ff : Nat → va_E} {x : Int32} (hbx : x < 0 ∨ nI 9 ≤ x) : jMet l yX5_isNone cX5_isNone 2 (some .boolean) 2 0 0 E A [.ref mo, .int x] (mW E x0 x1 x2 x3 x4 x5 mo ou th re ak gv kn ro LL ff) (jR (some (.int (nI 1))) (mW E x0 x1 x2 x3 x4 x5 mo ou (nI 1) re ak gv kn ro LL ff)) jNo := by
  refine jMet.intro' [(0, .ref mo), (1, .int x)] (by decide) (Nat.le_of_ble_eq_true rfl) rfl ?_
  intro p e R s m args below meth c Q C hQ
  refine j_aload_n C dX5_isNone_0 rfl ?_
  refine j_iload_n C dX5_isNone_1 rfl ?_
  refine j_callSr C (v := .int (nI 1)) (w := (mW E x0 x1 x2 x3 x4 x5 mo ou th re ak gv kn ro LL ff)) (m_isNo_1 l E A hbx) ok_X5_isNo w_959 (by decide) rfl rfl (Nat.le_of_ble_eq_true rfl) ⟨Nat.le_of_ble_eq_true rfl, Nat.le_of_ble_eq_true rfl⟩ dX5_isNone_2 ?_
  refine j_iconst (v := (nI 1)) C dX5_isNone_5 rfl ?_
  refine j_callVr C 6 (v := .int (nI 1)) (w := (mW E x0 x1 x2 x3 x4 x5 mo ou (nI 1) re ak gv kn ro LL ff)) (m_start_1 l E A (by decide) (by decide)) ok_X5_start w_962 (by decide) rfl rfl (Nat.le_of_ble_eq_true rfl) rfl rfl ⟨Nat.le_of_ble_eq_true rfl, Nat.le_of_ble_eq_true rfl⟩ dX5_isNone_6 ?_
  refine j_ifn_ne_t (tgt := 34) C dX5_isNone_9 (by decide) (by omega) (by omega) ?_
  refine j_iconst (v := (nI 1)) C dX5_isNone_34 rfl ?_
  refine j_goto (tgt := 39) C dX5_isNone_35 (by decide) ?_
  exact j_zret C hQ rfl rfl dX5_isNone_39 ⟨Nat.le_of_ble_eq_true rfl, Nat.le_of_ble_eq_true rfl⟩ ⟨rfl, rfl⟩
set_option maxHeartbeats 4000000 in
set_option maxRecDepth 100000 in
theorem m_isNone_m (l : Launch) (E : jE) (A : Nat → Prop) {x0 x1 x2 x3 x4 x5 : Nat × va_E} {mo ou : Nat} {th re ak gv kn : Int32} {ro : Nat → Option Nat} {LL : List Nat} {ff : Nat → va_E} {i : Nat} (hi : i < 9) (hri : ro i = none)  : jMet l yX5_isNone cX5_isNone 2 (some .boolean) 2 0 0 E A [.ref mo, .int (nI i)] (mW E x0 x1 x2 x3 x4 x5 mo ou th re ak gv kn ro LL ff) (jR (some (.int (nI 1))) (mW E x0 x1 x2 x3 x4 x5 mo ou (nI 2) re ak gv kn ro LL ff)) jNo := by
  refine jMet.intro' [(0, .ref mo), (1, .int (nI i))] (by decide) (Nat.le_of_ble_eq_true rfl) rfl ?_
  intro p e R s m args below meth c Q C hQ
  refine j_aload_n C dX5_isNone_0 rfl ?_
  refine j_iload_n C dX5_isNone_1 rfl ?_
  refine j_callSr C (v := .int (nI 0)) (w := (mW E x0 x1 x2 x3 x4 x5 mo ou th re ak gv kn ro LL ff)) (m_isNo_0 l E A (by omega)) ok_X5_isNo w_959 (by decide) rfl rfl (Nat.le_of_ble_eq_true rfl) ⟨Nat.le_of_ble_eq_true rfl, Nat.le_of_ble_eq_true rfl⟩ dX5_isNone_2 ?_
  refine j_iconst (v := (nI 1)) C dX5_isNone_5 rfl ?_
  refine j_callVr C 6 (v := .int (nI 0)) (w := (mW E x0 x1 x2 x3 x4 x5 mo ou (nI 0) re ak gv kn ro LL ff)) (m_start_0 l E A) ok_X5_start w_962 (by decide) rfl rfl (Nat.le_of_ble_eq_true rfl) rfl rfl ⟨Nat.le_of_ble_eq_true rfl, Nat.le_of_ble_eq_true rfl⟩ dX5_isNone_6 ?_
  refine j_ifn_ne_f (tgt := 34) C dX5_isNone_9 (by decide) (by omega) (by omega) ?_
  refine j_aload_n C dX5_isNone_12 rfl ?_
  refine j_aload_n C dX5_isNone_13 rfl ?_
  refine j_get C 6 rfl inj_X5 rfl 1 (by decide) w_922 rfl dX5_isNone_14 ?_
  refine j_iload_n C dX5_isNone_17 rfl ?_
  refine j_aaload (v := .null) C 7 i rfl rfl (by omega) (by decide) (by rw [show ro i = none from hri]; rfl) dX5_isNone_18 ?_
  refine j_ifnonnull_f C dX5_isNone_19 ?_
  refine j_iconst (v := (nI 1)) C dX5_isNone_22 rfl ?_
  refine j_goto (tgt := 27) C dX5_isNone_23 (by decide) ?_
  refine j_iconst (v := (nI 2)) C dX5_isNone_27 rfl ?_
  refine j_callVr C 6 (v := .int (nI 1)) (w := (mW E x0 x1 x2 x3 x4 x5 mo ou (nI 2) re ak gv kn ro LL ff)) (m_refuse_1 l E A (by decide) (by decide)) ok_X5_refuse w_966 (by decide) rfl rfl (Nat.le_of_ble_eq_true rfl) rfl rfl ⟨Nat.le_of_ble_eq_true rfl, Nat.le_of_ble_eq_true rfl⟩ dX5_isNone_28 ?_
  refine j_ifn_eq_f (tgt := 38) C dX5_isNone_31 (by decide) (by omega) (by omega) ?_
  refine j_iconst (v := (nI 1)) C dX5_isNone_34 rfl ?_
  refine j_goto (tgt := 39) C dX5_isNone_35 (by decide) ?_
  exact j_zret C hQ rfl rfl dX5_isNone_39 ⟨Nat.le_of_ble_eq_true rfl, Nat.le_of_ble_eq_true rfl⟩ ⟨rfl, rfl⟩
set_option maxHeartbeats 4000000 in
set_option maxRecDepth 100000 in
theorem m_isNone_k (l : Launch) (E : jE) (A : Nat → Prop) {x0 x1 x2 x3 x4 x5 : Nat × va_E} {mo ou : Nat} {th re ak gv kn : Int32} {ro : Nat → Option Nat} {LL : List Nat} {ff : Nat → va_E} {i : Nat} (hi : i < 9) {ai n : Nat} {h : Nat → Int32} (hrai : ro i = some ai) (hmai : ai ∈ LL) (hfai : ff ai = .inl (E.2.1, n, .inl h)) (hnai : n ≤ 24)  : jMet l yX5_isNone cX5_isNone 2 (some .boolean) 2 0 0 E A [.ref mo, .int (nI i)] (mW E x0 x1 x2 x3 x4 x5 mo ou th re ak gv kn ro LL ff) (jR (some (.int (nI 0))) (mW E x0 x1 x2 x3 x4 x5 mo ou (nI 0) re ak gv kn ro LL ff)) jNo := by
  refine jMet.intro' [(0, .ref mo), (1, .int (nI i))] (by decide) (Nat.le_of_ble_eq_true rfl) rfl ?_
  intro p e R s m args below meth c Q C hQ
  refine j_aload_n C dX5_isNone_0 rfl ?_
  refine j_iload_n C dX5_isNone_1 rfl ?_
  refine j_callSr C (v := .int (nI 0)) (w := (mW E x0 x1 x2 x3 x4 x5 mo ou th re ak gv kn ro LL ff)) (m_isNo_0 l E A (by omega)) ok_X5_isNo w_959 (by decide) rfl rfl (Nat.le_of_ble_eq_true rfl) ⟨Nat.le_of_ble_eq_true rfl, Nat.le_of_ble_eq_true rfl⟩ dX5_isNone_2 ?_
  refine j_iconst (v := (nI 1)) C dX5_isNone_5 rfl ?_
  refine j_callVr C 6 (v := .int (nI 0)) (w := (mW E x0 x1 x2 x3 x4 x5 mo ou (nI 0) re ak gv kn ro LL ff)) (m_start_0 l E A) ok_X5_start w_962 (by decide) rfl rfl (Nat.le_of_ble_eq_true rfl) rfl rfl ⟨Nat.le_of_ble_eq_true rfl, Nat.le_of_ble_eq_true rfl⟩ dX5_isNone_6 ?_
  refine j_ifn_ne_f (tgt := 34) C dX5_isNone_9 (by decide) (by omega) (by omega) ?_
  refine j_aload_n C dX5_isNone_12 rfl ?_
  refine j_aload_n C dX5_isNone_13 rfl ?_
  refine j_get C 6 rfl inj_X5 rfl 1 (by decide) w_922 rfl dX5_isNone_14 ?_
  refine j_iload_n C dX5_isNone_17 rfl ?_
  refine j_aaload (v := .ref ai) C 7 i rfl rfl (by omega) (by decide) (by rw [show ro i = some ai from hrai]; rfl) dX5_isNone_18 ?_
  refine j_ifnonnull_t (tgt := 26) C dX5_isNone_19 (by decide) ?_
  refine j_iconst (v := (nI 0)) C dX5_isNone_26 rfl ?_
  refine j_iconst (v := (nI 2)) C dX5_isNone_27 rfl ?_
  refine j_callVr C 6 (v := .int (nI 0)) (w := (mW E x0 x1 x2 x3 x4 x5 mo ou (nI 0) re ak gv kn ro LL ff)) (m_refuse_0 l E A) ok_X5_refuse w_966 (by decide) rfl rfl (Nat.le_of_ble_eq_true rfl) rfl rfl ⟨Nat.le_of_ble_eq_true rfl, Nat.le_of_ble_eq_true rfl⟩ dX5_isNone_28 ?_
  refine j_ifn_eq_t (tgt := 38) C dX5_isNone_31 (by decide) (by omega) (by omega) ?_
  refine j_iconst (v := (nI 0)) C dX5_isNone_38 rfl ?_
  exact j_zret C hQ rfl rfl dX5_isNone_39 ⟨Nat.le_of_ble_eq_true rfl, Nat.le_of_ble_eq_true rfl⟩ ⟨rfl, rfl⟩
set_option maxHeartbeats 4000000 in
set_option maxRecDepth 100000 in
theorem m_areNo_0 (l : Launch) (E : jE) (A : Nat → Prop) {x0 x1 x2 x3 x4 x5 : Nat × va_E} {mo ou : Nat} {th re ak gv kn : Int32} {ro : Nat → Option Nat} {LL : List Nat} {ff : Nat → va_E} {i : Nat} (hi : i < 9) {j : Nat} (hj : j < 9)  : jMet l yX5_areNo cX5_areNo 3 (some .boolean) 2 0 0 E A [.ref mo, .int (nI i), .int (nI j)] (mW E x0 x1 x2 x3 x4 x5 mo ou th re ak gv kn ro LL ff) (jR (some (.int (nI 0))) (mW E x0 x1 x2 x3 x4 x5 mo ou (nI 0) re ak gv kn ro LL ff)) jNo := by
  refine jMet.intro' [(0, .ref mo), (1, .int (nI i)), (2, .int (nI j))] (by decide) (Nat.le_of_ble_eq_true rfl) rfl ?_
  intro p e R s m args below meth c Q C hQ
  refine j_aload_n C dX5_areNo_0 rfl ?_
  refine j_iload_n C dX5_areNo_1 rfl ?_
  refine j_callSr C (v := .int (nI 0)) (w := (mW E x0 x1 x2 x3 x4 x5 mo ou th re ak gv kn ro LL ff)) (m_isNo_0 l E A (by omega)) ok_X5_isNo w_959 (by decide) rfl rfl (Nat.le_of_ble_eq_true rfl) ⟨Nat.le_of_ble_eq_true rfl, Nat.le_of_ble_eq_true rfl⟩ dX5_areNo_2 ?_
  refine j_ifn_ne_f (tgt := 15) C dX5_areNo_5 (by decide) (by omega) (by omega) ?_
  refine j_iload_n C dX5_areNo_8 rfl ?_
  refine j_callSr C (v := .int (nI 0)) (w := (mW E x0 x1 x2 x3 x4 x5 mo ou th re ak gv kn ro LL ff)) (m_isNo_0 l E A (by omega)) ok_X5_isNo w_959 (by decide) rfl rfl (Nat.le_of_ble_eq_true rfl) ⟨Nat.le_of_ble_eq_true rfl, Nat.le_of_ble_eq_true rfl⟩ dX5_areNo_9 ?_
  refine j_ifn_eq_t (tgt := 19) C dX5_areNo_12 (by decide) (by omega) (by omega) ?_
  refine j_iconst (v := (nI 0)) C dX5_areNo_19 rfl ?_
  refine j_iconst (v := (nI 1)) C dX5_areNo_20 rfl ?_
  refine j_callVr C 6 (v := .int (nI 0)) (w := (mW E x0 x1 x2 x3 x4 x5 mo ou (nI 0) re ak gv kn ro LL ff)) (m_start_0 l E A) ok_X5_start w_962 (by decide) rfl rfl (Nat.le_of_ble_eq_true rfl) rfl rfl ⟨Nat.le_of_ble_eq_true rfl, Nat.le_of_ble_eq_true rfl⟩ dX5_areNo_21 ?_
  exact j_zret C hQ rfl rfl dX5_areNo_24 ⟨Nat.le_of_ble_eq_true rfl, Nat.le_of_ble_eq_true rfl⟩ ⟨rfl, rfl⟩
set_option maxHeartbeats 4000000 in
set_option maxRecDepth 100000 in
theorem m_areNo_1 (l : Launch) (E : jE) (A : Nat → Prop) {x0 x1 x2 x3 x4 x5 : Nat × va_E} {mo ou : Nat} {th re ak gv kn : Int32} {ro : Nat → Option Nat} {LL : List Nat} {ff : Nat → va_E} {x y : Int32} (hbx : x < 0 ∨ nI 9 ≤ x)  : jMet l yX5_areNo cX5_areNo 3 (some .boolean) 2 0 0 E A [.ref mo, .int x, .int y] (mW E x0 x1 x2 x3 x4 x5 mo ou th re ak gv kn ro LL ff) (jR (some (.int (nI 1))) (mW E x0 x1 x2 x3 x4 x5 mo ou (nI 1) re ak gv kn ro LL ff)) jNo := by
  refine jMet.intro' [(0, .ref mo), (1, .int x), (2, .int y)] (by decide) (Nat.le_of_ble_eq_true rfl) rfl ?_
  intro p e R s m args below meth c Q C hQ
  refine j_aload_n C dX5_areNo_0 rfl ?_
  refine j_iload_n C dX5_areNo_1 rfl ?_
  refine j_callSr C (v := .int (nI 1)) (w := (mW E x0 x1 x2 x3 x4 x5 mo ou th re ak gv kn ro LL ff)) (m_isNo_1 l E A hbx) ok_X5_isNo w_959 (by decide) rfl rfl (Nat.le_of_ble_eq_true rfl) ⟨Nat.le_of_ble_eq_true rfl, Nat.le_of_ble_eq_true rfl⟩ dX5_areNo_2 ?_
  refine j_ifn_ne_t (tgt := 15) C dX5_areNo_5 (by decide) (by omega) (by omega) ?_
  refine j_iconst (v := (nI 1)) C dX5_areNo_15 rfl ?_
  refine j_goto (tgt := 20) C dX5_areNo_16 (by decide) ?_
  refine j_iconst (v := (nI 1)) C dX5_areNo_20 rfl ?_
  refine j_callVr C 6 (v := .int (nI 1)) (w := (mW E x0 x1 x2 x3 x4 x5 mo ou (nI 1) re ak gv kn ro LL ff)) (m_start_1 l E A (by decide) (by decide)) ok_X5_start w_962 (by decide) rfl rfl (Nat.le_of_ble_eq_true rfl) rfl rfl ⟨Nat.le_of_ble_eq_true rfl, Nat.le_of_ble_eq_true rfl⟩ dX5_areNo_21 ?_
  exact j_zret C hQ rfl rfl dX5_areNo_24 ⟨Nat.le_of_ble_eq_true rfl, Nat.le_of_ble_eq_true rfl⟩ ⟨rfl, rfl⟩
set_option maxHeartbeats 4000000 in
set_option maxRecDepth 100000 in
theorem m_areNo_2 (l : Launch) (E : jE) (A : Nat → Prop) {x0 x1 x2 x3 x4 x5 : Nat × va_E} {mo ou : Nat} {th re ak gv kn : Int32} {ro : Nat → Option Nat} {LL : List Nat} {ff : Nat → va_E} {i : Nat} (hi : i < 9) {y : Int32} (hby : y < 0 ∨ nI 9 ≤ y)  : jMet l yX5_areNo cX5_areNo 3 (some .boolean) 2 0 0 E A [.ref mo, .int (nI i), .int y] (mW E x0 x1 x2 x3 x4 x5 mo ou th re ak gv kn ro LL ff) (jR (some (.int (nI 1))) (mW E x0 x1 x2 x3 x4 x5 mo ou (nI 1) re ak gv kn ro LL ff)) jNo := by
  refine jMet.intro' [(0, .ref mo), (1, .int (nI i)), (2, .int y)] (by decide) (Nat.le_of_ble_eq_true rfl) rfl ?_
  intro p e R s m args below meth c Q C hQ
  refine j_aload_n C dX5_areNo_0 rfl ?_
  refine j_iload_n C dX5_areNo_1 rfl ?_
  refine j_callSr C (v := .int (nI 0)) (w := (mW E x0 x1 x2 x3 x4 x5 mo ou th re ak gv kn ro LL ff)) (m_isNo_0 l E A (by omega)) ok_X5_isNo w_959 (by decide) rfl rfl (Nat.le_of_ble_eq_true rfl) ⟨Nat.le_of_ble_eq_true rfl, Nat.le_of_ble_eq_true rfl⟩ dX5_areNo_2 ?_
  refine j_ifn_ne_f (tgt := 15) C dX5_areNo_5 (by decide) (by omega) (by omega) ?_
  refine j_iload_n C dX5_areNo_8 rfl ?_
  refine j_callSr C (v := .int (nI 1)) (w := (mW E x0 x1 x2 x3 x4 x5 mo ou th re ak gv kn ro LL ff)) (m_isNo_1 l E A hby) ok_X5_isNo w_959 (by decide) rfl rfl (Nat.le_of_ble_eq_true rfl) ⟨Nat.le_of_ble_eq_true rfl, Nat.le_of_ble_eq_true rfl⟩ dX5_areNo_9 ?_
  refine j_ifn_eq_f (tgt := 19) C dX5_areNo_12 (by decide) (by omega) (by omega) ?_
  refine j_iconst (v := (nI 1)) C dX5_areNo_15 rfl ?_
  refine j_goto (tgt := 20) C dX5_areNo_16 (by decide) ?_
  refine j_iconst (v := (nI 1)) C dX5_areNo_20 rfl ?_
  refine j_callVr C 6 (v := .int (nI 1)) (w := (mW E x0 x1 x2 x3 x4 x5 mo ou (nI 1) re ak gv kn ro LL ff)) (m_start_1 l E A (by decide) (by decide)) ok_X5_start w_962 (by decide) rfl rfl (Nat.le_of_ble_eq_true rfl) rfl rfl ⟨Nat.le_of_ble_eq_true rfl, Nat.le_of_ble_eq_true rfl⟩ dX5_areNo_21 ?_
  exact j_zret C hQ rfl rfl dX5_areNo_24 ⟨Nat.le_of_ble_eq_true rfl, Nat.le_of_ble_eq_true rfl⟩ ⟨rfl, rfl⟩
set_option maxHeartbeats 4000000 in
set_option maxRecDepth 100000 in
theorem m_part (l : Launch) (E : jE) (A : Nat → Prop) {XX : va_W} {LL : List Nat} {ff : Nat → va_E} {ai n : Nat} {h : Nat → Int32} (hm : ai ∈ LL) (hf : ff ai = .inl (E.2.1, n, .inl h)) (hn : n ≤ 24) {u v : Nat} (huv : u ≤ v) (hvn : v ≤ n) : jMet l yX5_part cX5_part 5 (some (.array .int)) 0 1 24 E A [.ref ai, .int (nI u), .int (nI v)] (XX ++ va_pl LL ff) (jFresh E XX LL ff (v - u) (pfx (fun q => h (u + q)) (v - u))) jNo := by
  refine jMet.intro' [(0, .ref ai), (1, .int (nI u)), (2, .int (nI v))] (by decide) (Nat.le_of_ble_eq_true rfl) rfl ?_
  intro p e R s m args below meth c Q C hQ
  refine j_iload_n C dX5_part_0 rfl ?_
  refine j_iload_n C dX5_part_1 rfl ?_
  refine j_isub (z := (nI (v - u))) C dX5_part_2 (pk_sub (by omega)) ?_
  refine j_newIP C (v - u) w_72 rfl (by omega) (by omega) (by omega) dX5_part_3 (fun q1 hq1 => ?_)
  refine j_astore_n (lv' := [(3, .ref q1), (0, .ref ai), (1, .int (nI u)), (2, .int (nI v))]) C dX5_part_5 (by decide) rfl ?_
  refine j_iconst (v := (nI 0)) C dX5_part_6 rfl ?_
  refine j_istore (lv' := [(4, .int (nI 0)), (3, .ref q1), (0, .ref ai), (1, .int (nI u)), (2, .int (nI v))]) C dX5_part_7 (by decide) rfl ?_
  have L9 : ∀ (r k : Nat), k + r = v - u → jJ p l e R s m args below meth c E A 5 Q 1 (0 + (v - u)) 9 [(4, .int (nI k)), (3, .ref q1), (0, .ref ai), (1, .int (nI u)), (2, .int (nI v))] [] (XX ++ va_pl (LL ++ [q1]) (va_up ff q1 (.inl (E.2.1, v - u, .inl (pfx (fun q => h (u + q)) k))))) := by
    intro r
    induction r with
    | zero =>
      intro k  hk9 
      refine j_iload C dX5_part_9 rfl ?_
      refine j_aload_n C dX5_part_11 rfl ?_
      refine j_alenP (n := v - u) C pool_newm pool_new dX5_part_12 ?_
      refine j_icmpn_ge_t (tgt := 32) C dX5_part_13 (by decide) (by omega) (by omega) (by omega) ?_
      have ek : v - u = k := by omega
      subst ek
      refine j_aload_n C dX5_part_32 rfl ?_
      exact j_aret C hQ rfl (Or.inr ⟨_, rfl⟩) dX5_part_33 ⟨Nat.le_of_ble_eq_true rfl, by omega⟩ ⟨q1, hq1, rfl, rfl⟩
    | succ r ih9 =>
      intro k  hk9 
      refine j_iload C dX5_part_9 rfl ?_
      refine j_aload_n C dX5_part_11 rfl ?_
      refine j_alenP (n := v - u) C pool_newm pool_new dX5_part_12 ?_
      refine j_icmpn_ge_f (tgt := 32) C dX5_part_13 (by decide) (by omega) (by omega) (by omega) ?_
      refine j_aload_n C dX5_part_16 rfl ?_
      refine j_iload C dX5_part_17 rfl ?_
      refine j_aload_n C dX5_part_19 rfl ?_
      refine j_iload_n C dX5_part_20 rfl ?_
      refine j_iload C dX5_part_21 rfl ?_
      refine j_iadd (z := (nI (u + k))) C dX5_part_23 (nI_add _ _) ?_
      refine j_ialoadP (z := (h (u + k))) C (u + k) (pool_old hm) (pool_keep hm hq1 hf) rfl (by omega) (by omega) rfl dX5_part_24 ?_
      refine j_iastoreP (h' := pfx (fun q => h (u + q)) (k + 1)) C k pool_newm pool_new rfl (by omega) (by omega) dX5_part_25 (pfx_s (fun q => h (u + q)) k) ?_
      refine j_eq (ws' := (XX ++ va_pl (LL ++ [q1]) (va_up ff q1 (.inl (E.2.1, v - u, .inl (pfx (fun q => h (u + q)) (k + 1))))))) rfl rfl (by rw [pool_up2]) ?_
      refine j_iinc (lv' := [(4, .int (nI (k + 1))), (3, .ref q1), (0, .ref ai), (1, .int (nI u)), (2, .int (nI v))]) C dX5_part_26 rfl (nI_1 _) (by decide) rfl ?_
      refine j_goto (tgt := 9) C dX5_part_29 (by decide) ?_
      refine j_lv (lv' := [(4, .int (nI (k + 1))), (3, .ref q1), (0, .ref ai), (1, .int (nI u)), (2, .int (nI v))]) (by simp only [List.mem_cons, List.not_mem_nil, or_false, forall_eq_or_imp, forall_eq, true_or, or_true, and_self, Nat.add_zero]) ?_
      exact ih9 (k + 1) (by omega)
  refine j_lv (lv' := [(4, .int (nI 0)), (3, .ref q1), (0, .ref ai), (1, .int (nI u)), (2, .int (nI v))]) (by simp only [List.mem_cons, List.not_mem_nil, or_false, forall_eq_or_imp, forall_eq, true_or, or_true, and_self, Nat.add_zero]) ?_
  refine j_eq (ws' := (XX ++ va_pl (LL ++ [q1]) (va_up ff q1 (.inl (E.2.1, v - u, .inl (pfx (fun q => h (u + q)) 0)))))) rfl rfl (by rw [pfx_0]) ?_
  exact L9 (v - u) 0 (by omega)
set_option maxHeartbeats 4000000 in
set_option maxRecDepth 100000 in
theorem m_with (l : Launch) (E : jE) (A : Nat → Prop) {XX : va_W} {LL : List Nat} {ff : Nat → va_E} {ai n : Nat} {h : Nat → Int32} (hm : ai ∈ LL) (hf : ff ai = .inl (E.2.1, n, .inl h)) (hn : n ≤ 24) {x : Int32} : jMet l yX5_with cX5_with 4 (some (.array .int)) 0 1 25 E A [.ref ai, .int x] (XX ++ va_pl LL ff) (jFresh E XX LL ff (n + 1) (pfx (fun q => if q < n then h q else x) (n + 1))) jNo := by
  refine jMet.intro' [(0, .ref ai), (1, .int x)] (by decide) (Nat.le_of_ble_eq_true rfl) rfl ?_
  intro p e R s m args below meth c Q C hQ
  refine j_aload_n C dX5_with_0 rfl ?_
  refine j_alenP (n := n) C hm hf dX5_with_1 ?_
  refine j_iconst (v := (nI 1)) C dX5_with_2 rfl ?_
  refine j_iadd (z := (nI (n + 1))) C dX5_with_3 (nI_add _ _) ?_
  refine j_newIP C (n + 1) w_72 rfl (by omega) (by omega) (by omega) dX5_with_4 (fun q1 hq1 => ?_)
  refine j_astore_n (lv' := [(2, .ref q1), (0, .ref ai), (1, .int x)]) C dX5_with_6 (by decide) rfl ?_
  refine j_iconst (v := (nI 0)) C dX5_with_7 rfl ?_
  refine j_istore_n (lv' := [(3, .int (nI 0)), (2, .ref q1), (0, .ref ai), (1, .int x)]) C dX5_with_8 (by decide) rfl ?_
  have L9 : ∀ (r k : Nat), k + r = n → jJ p l e R s m args below meth c E A 4 Q 1 (0 + (n + 1)) 9 [(3, .int (nI k)), (2, .ref q1), (0, .ref ai), (1, .int x)] [] (XX ++ va_pl (LL ++ [q1]) (va_up ff q1 (.inl (E.2.1, n + 1, .inl (pfx (fun q => if q < n then h q else x) k))))) := by
    intro r
    induction r with
    | zero =>
      intro k  hk9 
      refine j_iload_n C dX5_with_9 rfl ?_
      refine j_aload_n C dX5_with_10 rfl ?_
      refine j_alenP (n := n) C (pool_old hm) (pool_keep hm hq1 hf) dX5_with_11 ?_
      refine j_icmpn_ge_t (tgt := 27) C dX5_with_12 (by decide) (by omega) (by omega) (by omega) ?_
      have ek : n = k := by omega
      subst ek
      refine j_aload_n C dX5_with_27 rfl ?_
      refine j_aload_n C dX5_with_28 rfl ?_
      refine j_alenP (n := n) C (pool_old hm) (pool_keep hm hq1 hf) dX5_with_29 ?_
      refine j_iload_n C dX5_with_30 rfl ?_
      refine j_iastoreP (h' := pfx (fun q => if q < n then h q else x) (n + 1)) C n pool_newm pool_new rfl (by omega) (by omega) dX5_with_31 (by have e := pfx_s (fun q => if q < n then h q else x) n; rwa [if_neg (show ¬ n < n by omega)] at e) ?_
      refine j_eq (ws' := (XX ++ va_pl (LL ++ [q1]) (va_up ff q1 (.inl (E.2.1, n + 1, .inl (pfx (fun q => if q < n then h q else x) (n + 1))))))) rfl rfl (by rw [pool_up2]) ?_
      refine j_aload_n C dX5_with_32 rfl ?_
      exact j_aret C hQ rfl (Or.inr ⟨_, rfl⟩) dX5_with_33 ⟨Nat.le_of_ble_eq_true rfl, by omega⟩ ⟨q1, hq1, rfl, rfl⟩
    | succ r ih9 =>
      intro k  hk9 
      refine j_iload_n C dX5_with_9 rfl ?_
      refine j_aload_n C dX5_with_10 rfl ?_
      refine j_alenP (n := n) C (pool_old hm) (pool_keep hm hq1 hf) dX5_with_11 ?_
      refine j_icmpn_ge_f (tgt := 27) C dX5_with_12 (by decide) (by omega) (by omega) (by omega) ?_
      refine j_aload_n C dX5_with_15 rfl ?_
      refine j_iload_n C dX5_with_16 rfl ?_
      refine j_aload_n C dX5_with_17 rfl ?_
      refine j_iload_n C dX5_with_18 rfl ?_
      refine j_ialoadP (z := (h k)) C k (pool_old hm) (pool_keep hm hq1 hf) rfl (by omega) (by omega) rfl dX5_with_19 ?_
      refine j_iastoreP (h' := pfx (fun q => if q < n then h q else x) (k + 1)) C k pool_newm pool_new rfl (by omega) (by omega) dX5_with_20 (by have e := pfx_s (fun q => if q < n then h q else x) k; rwa [if_pos (show k < n by omega)] at e) ?_
      refine j_eq (ws' := (XX ++ va_pl (LL ++ [q1]) (va_up ff q1 (.inl (E.2.1, n + 1, .inl (pfx (fun q => if q < n then h q else x) (k + 1))))))) rfl rfl (by rw [pool_up2]) ?_
      refine j_iinc (lv' := [(3, .int (nI (k + 1))), (2, .ref q1), (0, .ref ai), (1, .int x)]) C dX5_with_21 rfl (nI_1 _) (by decide) rfl ?_
      refine j_goto (tgt := 9) C dX5_with_24 (by decide) ?_
      refine j_lv (lv' := [(3, .int (nI (k + 1))), (2, .ref q1), (0, .ref ai), (1, .int x)]) (by simp only [List.mem_cons, List.not_mem_nil, or_false, forall_eq_or_imp, forall_eq, true_or, or_true, and_self, Nat.add_zero]) ?_
      exact ih9 (k + 1) (by omega)
  refine j_lv (lv' := [(3, .int (nI 0)), (2, .ref q1), (0, .ref ai), (1, .int x)]) (by simp only [List.mem_cons, List.not_mem_nil, or_false, forall_eq_or_imp, forall_eq, true_or, or_true, and_self, Nat.add_zero]) ?_
  refine j_eq (ws' := (XX ++ va_pl (LL ++ [q1]) (va_up ff q1 (.inl (E.2.1, n + 1, .inl (pfx (fun q => if q < n then h q else x) 0)))))) rfl rfl (by rw [pfx_0]) ?_
  exact L9 n 0 (by omega)
set_option maxHeartbeats 4000000 in
set_option maxRecDepth 100000 in
theorem m_codeOf_k (l : Launch) (E : jE) (A : Nat → Prop) {XX : va_W} {LL : List Nat} {ff : Nat → va_E} {ai n : Nat} {h : Nat → Int32} (hm : ai ∈ LL) (hf : ff ai = .inl (E.2.1, n, .inl h)) (hn : n ≤ 24) (hs : ∀ k, k < n → isSg (h k)) : jMet l yX5_codeOf cX5_codeOf 3 (some .int) 0 0 0 E A [.ref ai] (XX ++ va_pl LL ff) (jR (some (.int (codeF h n))) (XX ++ va_pl LL ff)) jNo := by
  refine jMet.intro' [(0, .ref ai)] (by decide) (Nat.le_of_ble_eq_true rfl) rfl ?_
  intro p e R s m args below meth c Q C hQ
  refine j_iconst (v := (nI 0)) C dX5_codeOf_0 rfl ?_
  refine j_istore_n (lv' := [(1, .int (nI 0)), (0, .ref ai)]) C dX5_codeOf_1 (by decide) rfl ?_
  refine j_iconst (v := (nI 0)) C dX5_codeOf_2 rfl ?_
  refine j_istore_n (lv' := [(2, .int (nI 0)), (1, .int (nI 0)), (0, .ref ai)]) C dX5_codeOf_3 (by decide) rfl ?_
  have L4 : ∀ (r k : Nat), k + r = n → jJ p l e R s m args below meth c E A 3 Q 0 0 4 [(2, .int (nI k)), (1, .int (codeF h k)), (0, .ref ai)] [] (XX ++ va_pl LL ff) := by
    intro r
    induction r with
    | zero =>
      intro k  hk4 
      refine j_aload_n C dX5_codeOf_4 rfl ?_
      refine j_ifnull_f C dX5_codeOf_5 ?_
      refine j_iload_n C dX5_codeOf_8 rfl ?_
      refine j_aload_n C dX5_codeOf_9 rfl ?_
      refine j_alenP (n := n) C hm hf dX5_codeOf_10 ?_
      refine j_icmpn_ge_t (tgt := 33) C dX5_codeOf_11 (by decide) (by omega) (by omega) (by omega) ?_
      have ek : n = k := by omega
      subst ek
      refine j_iload_n C dX5_codeOf_33 rfl ?_
      exact j_iret C hQ rfl dX5_codeOf_34 ⟨Nat.le_of_ble_eq_true rfl, Nat.le_of_ble_eq_true rfl⟩ ⟨rfl, rfl⟩
    | succ r ih4 =>
      intro k  hk4 
      refine j_aload_n C dX5_codeOf_4 rfl ?_
      refine j_ifnull_f C dX5_codeOf_5 ?_
      refine j_iload_n C dX5_codeOf_8 rfl ?_
      refine j_aload_n C dX5_codeOf_9 rfl ?_
      refine j_alenP (n := n) C hm hf dX5_codeOf_10 ?_
      refine j_icmpn_ge_f (tgt := 33) C dX5_codeOf_11 (by decide) (by omega) (by omega) (by omega) ?_
      refine j_iload_n C dX5_codeOf_14 rfl ?_
      refine j_bipush (v := (nI 31)) C dX5_codeOf_15 rfl ?_
      refine j_imul (z := ((codeF h k) * (nI 31))) C dX5_codeOf_17 rfl ?_
      refine j_codesM C w_951 dX5_codeOf_18 (fun t1 ht1 => ?_)
      refine j_aload_n C dX5_codeOf_21 rfl ?_
      refine j_iload_n C dX5_codeOf_22 rfl ?_
      refine j_ialoadP (z := (h k)) C k hm hf rfl (by omega) (by omega) rfl dX5_codeOf_23 ?_
      obtain ⟨qs, hqs, hqe⟩ := hs k (by omega)
      refine j_tld (z := (jCod (h k).toNatClampNeg)) C (f := jCod) ht1 qs hqe (by omega) (by decide) (by rw [hqe, nI_clamp (by omega)]) dX5_codeOf_24 ?_
      refine j_iadd (z := (((codeF h k) * (nI 31)) + (jCod (h k).toNatClampNeg))) C dX5_codeOf_25 rfl ?_
      refine j_istore_n (lv' := [(1, .int (((codeF h k) * (nI 31)) + (jCod (h k).toNatClampNeg))), (2, .int (nI k)), (0, .ref ai)]) C dX5_codeOf_26 (by decide) rfl ?_
      refine j_eq (lv' := [(1, .int (codeF h (k + 1))), (2, .int (nI k)), (0, .ref ai)]) rfl rfl rfl ?_
      refine j_iinc (lv' := [(2, .int (nI (k + 1))), (1, .int (codeF h (k + 1))), (0, .ref ai)]) C dX5_codeOf_27 rfl (nI_1 _) (by decide) rfl ?_
      refine j_goto (tgt := 4) C dX5_codeOf_30 (by decide) ?_
      refine j_lv (lv' := [(2, .int (nI (k + 1))), (1, .int (codeF h (k + 1))), (0, .ref ai)]) (by simp only [List.mem_cons, List.not_mem_nil, or_false, forall_eq_or_imp, forall_eq, true_or, or_true, and_self, Nat.add_zero]) ?_
      exact ih4 (k + 1) (by omega)
  refine j_eq (lv' := [(2, .int (nI 0)), (1, .int (codeF h 0)), (0, .ref ai)]) rfl rfl rfl ?_
  refine j_lv (lv' := [(2, .int (nI 0)), (1, .int (codeF h 0)), (0, .ref ai)]) (by simp only [List.mem_cons, List.not_mem_nil, or_false, forall_eq_or_imp, forall_eq, true_or, or_true, and_self, Nat.add_zero]) ?_
  exact L4 n 0 (by omega)
set_option maxHeartbeats 4000000 in
set_option maxRecDepth 100000 in
theorem m_codeOf_m (l : Launch) (E : jE) (A : Nat → Prop) {XX : va_W} {LL : List Nat} {ff : Nat → va_E}  : jMet l yX5_codeOf cX5_codeOf 3 (some .int) 0 0 0 E A [.null] (XX ++ va_pl LL ff) (jR (some (.int (nI 0))) (XX ++ va_pl LL ff)) jNo := by
  refine jMet.intro' [(0, .null)] (by decide) (Nat.le_of_ble_eq_true rfl) rfl ?_
  intro p e R s m args below meth c Q C hQ
  refine j_iconst (v := (nI 0)) C dX5_codeOf_0 rfl ?_
  refine j_istore_n (lv' := [(1, .int (nI 0)), (0, .null)]) C dX5_codeOf_1 (by decide) rfl ?_
  refine j_iconst (v := (nI 0)) C dX5_codeOf_2 rfl ?_
  refine j_istore_n (lv' := [(2, .int (nI 0)), (1, .int (nI 0)), (0, .null)]) C dX5_codeOf_3 (by decide) rfl ?_
  refine j_aload_nN C dX5_codeOf_4 rfl ?_
  refine j_ifnull_t (tgt := 33) C dX5_codeOf_5 (by decide) ?_
  refine j_iload_n C dX5_codeOf_33 rfl ?_
  exact j_iret C hQ rfl dX5_codeOf_34 ⟨Nat.le_of_ble_eq_true rfl, Nat.le_of_ble_eq_true rfl⟩ ⟨rfl, rfl⟩
set_option maxHeartbeats 4000000 in
set_option maxRecDepth 100000 in
theorem m_compared (l : Launch) (E : jE) (A : Nat → Prop) {XX : va_W} {LL : List Nat} {ff : Nat → va_E} {ai aj n o : Nat} {h g : Nat → Int32} (hm : ai ∈ LL) (hf : ff ai = .inl (E.2.1, n, .inl h)) (hn : n ≤ 24) (hm2 : aj ∈ LL) (hf2 : ff aj = .inl (E.2.1, o, .inl g)) (ho : o ≤ 24)  : jMet l yX5_compared cX5_compared 3 (some .int) 1 0 0 E A [.ref ai, .ref aj] (XX ++ va_pl LL ff) (jR (some (.int (cmpF h g (smI (nI n) (nI o)) 0 (min n o - 0)))) (XX ++ va_pl LL ff)) jNo := by
  refine jMet.intro' [(0, .ref ai), (1, .ref aj)] (by decide) (Nat.le_of_ble_eq_true rfl) rfl ?_
  intro p e R s m args below meth c Q C hQ
  refine j_iconst (v := (nI 0)) C dX5_compared_0 rfl ?_
  refine j_istore_n (lv' := [(2, .int (nI 0)), (0, .ref ai), (1, .ref aj)]) C dX5_compared_1 (by decide) rfl ?_
  have L2 : ∀ (r k : Nat), k + r = min n o → cmpF h g (smI (nI n) (nI o)) 0 (min n o - 0) = cmpF h g (smI (nI n) (nI o)) k r → jJ p l e R s m args below meth c E A 3 Q 0 0 2 [(2, .int (nI k)), (0, .ref ai), (1, .ref aj)] [] (XX ++ va_pl LL ff) := by
    intro r
    induction r with
    | zero =>
      intro k  hk2 inv
      refine j_iload_n C dX5_compared_2 rfl ?_
      refine j_aload_n C dX5_compared_3 rfl ?_
      refine j_alenP (n := n) C hm hf dX5_compared_4 ?_
      refine j_icmpn_ge (tgt := 44) C dX5_compared_5 (by decide) (by omega) (by omega) (fun h5 => ?_) (fun h5 => ?_)
      · skip
        refine j_aload_n C dX5_compared_44 rfl ?_
        refine j_alenP (n := n) C hm hf dX5_compared_45 ?_
        refine j_aload_n C dX5_compared_46 rfl ?_
        refine j_alenP (n := o) C hm2 hf2 dX5_compared_47 ?_
        refine j_icmpn_ge (tgt := 55) C dX5_compared_48 (by decide) (by omega) (by omega) (fun h48 => ?_) (fun h48 => ?_)
        · skip
          refine j_aload_n C dX5_compared_55 rfl ?_
          refine j_alenP (n := n) C hm hf dX5_compared_56 ?_
          refine j_aload_n C dX5_compared_57 rfl ?_
          refine j_alenP (n := o) C hm2 hf2 dX5_compared_58 ?_
          refine j_icmpn_le (tgt := 66) C dX5_compared_59 (by decide) (by omega) (by omega) (fun h59 => ?_) (fun h59 => ?_)
          · skip
            refine j_iconst (v := (nI 0)) C dX5_compared_66 rfl ?_
            refine j_callSr C (v := .int (nI 0)) (w := (XX ++ va_pl LL ff)) (m_one_0 l E A) ok_X5_one w_956 (by decide) rfl rfl (Nat.le_of_ble_eq_true rfl) ⟨Nat.le_of_ble_eq_true rfl, Nat.le_of_ble_eq_true rfl⟩ dX5_compared_67 ?_
            exact j_iret C hQ rfl dX5_compared_70 ⟨Nat.le_of_ble_eq_true rfl, Nat.le_of_ble_eq_true rfl⟩ ⟨congrArg (fun q => some (Value.int q)) (inv.trans (smI_e (by omega) (by omega) (by omega))).symm, rfl⟩
          · skip
            refine j_iconst (v := (nI 1)) C dX5_compared_62 rfl ?_
            refine j_goto (tgt := 67) C dX5_compared_63 (by decide) ?_
            refine j_callSr C (v := .int (nI 1)) (w := (XX ++ va_pl LL ff)) (m_one_1 l E A) ok_X5_one w_956 (by decide) rfl rfl (Nat.le_of_ble_eq_true rfl) ⟨Nat.le_of_ble_eq_true rfl, Nat.le_of_ble_eq_true rfl⟩ dX5_compared_67 ?_
            exact j_iret C hQ rfl dX5_compared_70 ⟨Nat.le_of_ble_eq_true rfl, Nat.le_of_ble_eq_true rfl⟩ ⟨congrArg (fun q => some (Value.int q)) (inv.trans (smI_g (by omega) (by omega))).symm, rfl⟩
        · skip
          refine j_iconst (v := (-1)) C dX5_compared_51 rfl ?_
          refine j_goto (tgt := 70) C dX5_compared_52 (by decide) ?_
          exact j_iret C hQ rfl dX5_compared_70 ⟨Nat.le_of_ble_eq_true rfl, Nat.le_of_ble_eq_true rfl⟩ ⟨congrArg (fun q => some (Value.int q)) (inv.trans (smI_l (by omega) (by omega))).symm, rfl⟩
      · skip
        refine j_iload_n C dX5_compared_8 rfl ?_
        refine j_aload_n C dX5_compared_9 rfl ?_
        refine j_alenP (n := o) C hm2 hf2 dX5_compared_10 ?_
        refine j_icmpn_ge_t (tgt := 44) C dX5_compared_11 (by decide) (by omega) (by omega) (by omega) ?_
        refine j_aload_n C dX5_compared_44 rfl ?_
        refine j_alenP (n := n) C hm hf dX5_compared_45 ?_
        refine j_aload_n C dX5_compared_46 rfl ?_
        refine j_alenP (n := o) C hm2 hf2 dX5_compared_47 ?_
        refine j_icmpn_ge (tgt := 55) C dX5_compared_48 (by decide) (by omega) (by omega) (fun h48 => ?_) (fun h48 => ?_)
        · skip
          refine j_aload_n C dX5_compared_55 rfl ?_
          refine j_alenP (n := n) C hm hf dX5_compared_56 ?_
          refine j_aload_n C dX5_compared_57 rfl ?_
          refine j_alenP (n := o) C hm2 hf2 dX5_compared_58 ?_
          refine j_icmpn_le (tgt := 66) C dX5_compared_59 (by decide) (by omega) (by omega) (fun h59 => ?_) (fun h59 => ?_)
          · skip
            refine j_iconst (v := (nI 0)) C dX5_compared_66 rfl ?_
            refine j_callSr C (v := .int (nI 0)) (w := (XX ++ va_pl LL ff)) (m_one_0 l E A) ok_X5_one w_956 (by decide) rfl rfl (Nat.le_of_ble_eq_true rfl) ⟨Nat.le_of_ble_eq_true rfl, Nat.le_of_ble_eq_true rfl⟩ dX5_compared_67 ?_
            exact j_iret C hQ rfl dX5_compared_70 ⟨Nat.le_of_ble_eq_true rfl, Nat.le_of_ble_eq_true rfl⟩ ⟨congrArg (fun q => some (Value.int q)) (inv.trans (smI_e (by omega) (by omega) (by omega))).symm, rfl⟩
          · skip
            refine j_iconst (v := (nI 1)) C dX5_compared_62 rfl ?_
            refine j_goto (tgt := 67) C dX5_compared_63 (by decide) ?_
            refine j_callSr C (v := .int (nI 1)) (w := (XX ++ va_pl LL ff)) (m_one_1 l E A) ok_X5_one w_956 (by decide) rfl rfl (Nat.le_of_ble_eq_true rfl) ⟨Nat.le_of_ble_eq_true rfl, Nat.le_of_ble_eq_true rfl⟩ dX5_compared_67 ?_
            exact j_iret C hQ rfl dX5_compared_70 ⟨Nat.le_of_ble_eq_true rfl, Nat.le_of_ble_eq_true rfl⟩ ⟨congrArg (fun q => some (Value.int q)) (inv.trans (smI_g (by omega) (by omega))).symm, rfl⟩
        · skip
          refine j_iconst (v := (-1)) C dX5_compared_51 rfl ?_
          refine j_goto (tgt := 70) C dX5_compared_52 (by decide) ?_
          exact j_iret C hQ rfl dX5_compared_70 ⟨Nat.le_of_ble_eq_true rfl, Nat.le_of_ble_eq_true rfl⟩ ⟨congrArg (fun q => some (Value.int q)) (inv.trans (smI_l (by omega) (by omega))).symm, rfl⟩
    | succ r ih2 =>
      intro k  hk2 inv
      refine j_iload_n C dX5_compared_2 rfl ?_
      refine j_aload_n C dX5_compared_3 rfl ?_
      refine j_alenP (n := n) C hm hf dX5_compared_4 ?_
      refine j_icmpn_ge_f (tgt := 44) C dX5_compared_5 (by decide) (by omega) (by omega) (by omega) ?_
      refine j_iload_n C dX5_compared_8 rfl ?_
      refine j_aload_n C dX5_compared_9 rfl ?_
      refine j_alenP (n := o) C hm2 hf2 dX5_compared_10 ?_
      refine j_icmpn_ge_f (tgt := 44) C dX5_compared_11 (by decide) (by omega) (by omega) (by omega) ?_
      refine j_aload_n C dX5_compared_14 rfl ?_
      refine j_iload_n C dX5_compared_15 rfl ?_
      refine j_ialoadP (z := (h k)) C k hm hf rfl (by omega) (by omega) rfl dX5_compared_16 ?_
      refine j_aload_n C dX5_compared_17 rfl ?_
      refine j_iload_n C dX5_compared_18 rfl ?_
      refine j_ialoadP (z := (g k)) C k hm2 hf2 rfl (by omega) (by omega) rfl dX5_compared_19 ?_
      refine j_icmp_eq (tgt := 38) C dX5_compared_20 (by decide) (fun h20 => ?_) (fun h20 => ?_)
      · skip
        refine j_iinc (lv' := [(2, .int (nI (k + 1))), (0, .ref ai), (1, .ref aj)]) C dX5_compared_38 rfl (nI_1 _) (by decide) rfl ?_
        refine j_goto (tgt := 2) C dX5_compared_41 (by decide) ?_
        refine j_lv (lv' := [(2, .int (nI (k + 1))), (0, .ref ai), (1, .ref aj)]) (by simp only [List.mem_cons, List.not_mem_nil, or_false, forall_eq_or_imp, forall_eq, true_or, or_true, and_self, Nat.add_zero]) ?_
        exact ih2 (k + 1) (by omega) (inv.trans (cmpF_eq (smI_0.mpr ⟨fun q => by rw [h20] at q; exact Int32.lt_irrefl q, fun q => by rw [h20] at q; exact Int32.lt_irrefl q⟩)))
      · skip
        refine j_aload_n C dX5_compared_23 rfl ?_
        refine j_iload_n C dX5_compared_24 rfl ?_
        refine j_ialoadP (z := (h k)) C k hm hf rfl (by omega) (by omega) rfl dX5_compared_25 ?_
        refine j_aload_n C dX5_compared_26 rfl ?_
        refine j_iload_n C dX5_compared_27 rfl ?_
        refine j_ialoadP (z := (g k)) C k hm2 hf2 rfl (by omega) (by omega) rfl dX5_compared_28 ?_
        refine j_icmp_ge (tgt := 36) C dX5_compared_29 (by decide) (fun h29 => ?_) (fun h29 => ?_)
        · skip
          refine j_iconst (v := (nI 1)) C dX5_compared_36 rfl ?_
          exact j_iret C hQ rfl dX5_compared_37 ⟨Nat.le_of_ble_eq_true rfl, Nat.le_of_ble_eq_true rfl⟩ ⟨congrArg (fun q => some (Value.int q)) (inv.trans (by rw [cmpF, if_neg (Int32.not_lt.mpr h29), if_pos (le_ne_lt h29 h20)]; rfl)).symm, rfl⟩
        · skip
          refine j_iconst (v := (-1)) C dX5_compared_32 rfl ?_
          refine j_goto (tgt := 37) C dX5_compared_33 (by decide) ?_
          exact j_iret C hQ rfl dX5_compared_37 ⟨Nat.le_of_ble_eq_true rfl, Nat.le_of_ble_eq_true rfl⟩ ⟨congrArg (fun q => some (Value.int q)) (inv.trans (by rw [cmpF, if_pos (Int32.not_le.mp h29)])).symm, rfl⟩
  refine j_lv (lv' := [(2, .int (nI 0)), (0, .ref ai), (1, .ref aj)]) (by simp only [List.mem_cons, List.not_mem_nil, or_false, forall_eq_or_imp, forall_eq, true_or, or_true, and_self, Nat.add_zero]) ?_
  exact L2 (min n o) 0 (by omega) rfl
set_option maxHeartbeats 4000000 in
set_option maxRecDepth 100000 in
theorem m_smalls (l : Launch) (E : jE) (A : Nat → Prop) {XX : va_W} {LL : List Nat} {ff : Nat → va_E} {ai n : Nat} {h : Nat → Int32} (hm : ai ∈ LL) (hf : ff ai = .inl (E.2.1, n, .inl h)) (hn : n ≤ 24)  : jMet l yX5_smalls cX5_smalls 6 (some .int) 1 0 0 E A [.ref ai] (XX ++ va_pl LL ff) (jR (some (.int (nI (cntF h (nI 6) n)))) (XX ++ va_pl LL ff)) jNo := by
  refine jMet.intro' [(0, .ref ai)] (by decide) (Nat.le_of_ble_eq_true rfl) rfl ?_
  intro p e R s m args below meth c Q C hQ
  refine j_iconst (v := (nI 0)) C dX5_smalls_0 rfl ?_
  refine j_istore_n (lv' := [(1, .int (nI 0)), (0, .ref ai)]) C dX5_smalls_1 (by decide) rfl ?_
  refine j_aload_n C dX5_smalls_2 rfl ?_
  refine j_astore_n (lv' := [(2, .ref ai), (1, .int (nI 0)), (0, .ref ai)]) C dX5_smalls_3 (by decide) rfl ?_
  refine j_aload_n C dX5_smalls_4 rfl ?_
  refine j_alenP (n := n) C hm hf dX5_smalls_5 ?_
  refine j_istore_n (lv' := [(3, .int (nI n)), (2, .ref ai), (1, .int (nI 0)), (0, .ref ai)]) C dX5_smalls_6 (by decide) rfl ?_
  refine j_iconst (v := (nI 0)) C dX5_smalls_7 rfl ?_
  refine j_istore (lv' := [(4, .int (nI 0)), (3, .int (nI n)), (2, .ref ai), (1, .int (nI 0)), (0, .ref ai)]) C dX5_smalls_8 (by decide) rfl ?_
  have L10 : ∀ (r k : Nat), k + r = n → jJ p l e R s m args below meth c E A 6 Q 0 0 10 [(4, .int (nI k)), (3, .int (nI n)), (2, .ref ai), (1, .int (nI (cntF h (nI 6) k))), (0, .ref ai)] [] (XX ++ va_pl LL ff) := by
    intro r
    induction r with
    | zero =>
      intro k  hk10 
      refine j_iload C dX5_smalls_10 rfl ?_
      refine j_iload_n C dX5_smalls_12 rfl ?_
      refine j_icmpn_ge_t (tgt := 46) C dX5_smalls_13 (by decide) (by omega) (by omega) (by omega) ?_
      have ek : n = k := by omega
      subst ek
      refine j_iload_n C dX5_smalls_46 rfl ?_
      exact j_iret C hQ rfl dX5_smalls_47 ⟨Nat.le_of_ble_eq_true rfl, Nat.le_of_ble_eq_true rfl⟩ ⟨rfl, rfl⟩
    | succ r ih10 =>
      intro k  hk10 
      refine j_iload C dX5_smalls_10 rfl ?_
      refine j_iload_n C dX5_smalls_12 rfl ?_
      refine j_icmpn_ge_f (tgt := 46) C dX5_smalls_13 (by decide) (by omega) (by omega) (by omega) ?_
      refine j_aload_n C dX5_smalls_16 rfl ?_
      refine j_iload C dX5_smalls_17 rfl ?_
      refine j_ialoadP (z := (h k)) C k hm hf rfl (by omega) (by omega) rfl dX5_smalls_19 ?_
      refine j_istore (lv' := [(5, .int (h k)), (4, .int (nI k)), (3, .int (nI n)), (2, .ref ai), (1, .int (nI (cntF h (nI 6) k))), (0, .ref ai)]) C dX5_smalls_20 (by decide) rfl ?_
      refine j_iload_n C dX5_smalls_22 rfl ?_
      refine j_iload C dX5_smalls_23 rfl ?_
      refine j_bipush (v := (nI 6)) C dX5_smalls_25 rfl ?_
      refine j_icmp_ne (tgt := 34) C dX5_smalls_27 (by decide) (fun h27 => ?_) (fun h27 => ?_)
      · skip
        refine j_iconst (v := (nI 0)) C dX5_smalls_34 rfl ?_
        refine j_callSr C (v := .int (nI 0)) (w := (XX ++ va_pl LL ff)) (m_one_0 l E A) ok_X5_one w_956 (by decide) rfl rfl (Nat.le_of_ble_eq_true rfl) ⟨Nat.le_of_ble_eq_true rfl, Nat.le_of_ble_eq_true rfl⟩ dX5_smalls_35 ?_
        refine j_iadd (z := (nI (cntF h (nI 6) k + 0))) C dX5_smalls_38 (nI_add _ _) ?_
        refine j_istore_n (lv' := [(1, .int (nI (cntF h (nI 6) k + 0))), (5, .int (h k)), (4, .int (nI k)), (3, .int (nI n)), (2, .ref ai), (0, .ref ai)]) C dX5_smalls_39 (by decide) rfl ?_
        refine j_iinc (lv' := [(4, .int (nI (k + 1))), (1, .int (nI (cntF h (nI 6) k + 0))), (5, .int (h k)), (3, .int (nI n)), (2, .ref ai), (0, .ref ai)]) C dX5_smalls_40 rfl (nI_1 _) (by decide) rfl ?_
        refine j_goto (tgt := 10) C dX5_smalls_43 (by decide) ?_
        refine j_eq (lv' := [(4, .int (nI (k + 1))), (1, .int (nI (cntF h (nI 6) (k + 1)))), (5, .int (h k)), (3, .int (nI n)), (2, .ref ai), (0, .ref ai)]) (by rw [cntF_n h27]; rfl) rfl rfl ?_
        refine j_lv (lv' := [(4, .int (nI (k + 1))), (3, .int (nI n)), (2, .ref ai), (1, .int (nI (cntF h (nI 6) (k + 1)))), (0, .ref ai)]) (by simp only [List.mem_cons, List.not_mem_nil, or_false, forall_eq_or_imp, forall_eq, true_or, or_true, and_self, Nat.add_zero]) ?_
        exact ih10 (k + 1) (by omega)
      · skip
        refine j_iconst (v := (nI 1)) C dX5_smalls_30 rfl ?_
        refine j_goto (tgt := 35) C dX5_smalls_31 (by decide) ?_
        refine j_callSr C (v := .int (nI 1)) (w := (XX ++ va_pl LL ff)) (m_one_1 l E A) ok_X5_one w_956 (by decide) rfl rfl (Nat.le_of_ble_eq_true rfl) ⟨Nat.le_of_ble_eq_true rfl, Nat.le_of_ble_eq_true rfl⟩ dX5_smalls_35 ?_
        refine j_iadd (z := (nI (cntF h (nI 6) k + 1))) C dX5_smalls_38 (nI_add _ _) ?_
        refine j_istore_n (lv' := [(1, .int (nI (cntF h (nI 6) k + 1))), (5, .int (h k)), (4, .int (nI k)), (3, .int (nI n)), (2, .ref ai), (0, .ref ai)]) C dX5_smalls_39 (by decide) rfl ?_
        refine j_iinc (lv' := [(4, .int (nI (k + 1))), (1, .int (nI (cntF h (nI 6) k + 1))), (5, .int (h k)), (3, .int (nI n)), (2, .ref ai), (0, .ref ai)]) C dX5_smalls_40 rfl (nI_1 _) (by decide) rfl ?_
        refine j_goto (tgt := 10) C dX5_smalls_43 (by decide) ?_
        refine j_eq (lv' := [(4, .int (nI (k + 1))), (1, .int (nI (cntF h (nI 6) (k + 1)))), (5, .int (h k)), (3, .int (nI n)), (2, .ref ai), (0, .ref ai)]) (by rw [cntF_y h27]) rfl rfl ?_
        refine j_lv (lv' := [(4, .int (nI (k + 1))), (3, .int (nI n)), (2, .ref ai), (1, .int (nI (cntF h (nI 6) (k + 1)))), (0, .ref ai)]) (by simp only [List.mem_cons, List.not_mem_nil, or_false, forall_eq_or_imp, forall_eq, true_or, or_true, and_self, Nat.add_zero]) ?_
        exact ih10 (k + 1) (by omega)
  refine j_eq (lv' := [(4, .int (nI 0)), (3, .int (nI n)), (2, .ref ai), (1, .int (nI (cntF h (nI 6) 0))), (0, .ref ai)]) rfl rfl rfl ?_
  refine j_lv (lv' := [(4, .int (nI 0)), (3, .int (nI n)), (2, .ref ai), (1, .int (nI (cntF h (nI 6) 0))), (0, .ref ai)]) (by simp only [List.mem_cons, List.not_mem_nil, or_false, forall_eq_or_imp, forall_eq, true_or, or_true, and_self, Nat.add_zero]) ?_
  exact L10 n 0 (by omega)
