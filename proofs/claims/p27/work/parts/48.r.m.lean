/-! contracts, laid by program (wip/gen) -/
theorem and01 {a b : Int32} (h : P01 a) (q : P01 b) : P01 (a &&& b) := by
  rcases h with rfl | rfl <;> rcases q with rfl | rfl <;> first | exact Or.inl rfl | exact Or.inr rfl
theorem iC_b {f : Nat → Bool} {k : Nat} (c : Prop) [Decidable c] (h : f k = decide c) : iC f (k + 1) = iC f k + bI c := by
  by_cases q : c
  · rw [iC_y (by rw [h]; exact decide_eq_true q), bI_t q]
  · rw [iC_n (by rw [h]; exact fun w => q (of_decide_eq_true w)), bI_f q]; exact (Int32.add_zero _).symm
theorem iD_b {f : Nat → Nat → Bool} {k j : Nat} (c : Prop) [Decidable c] (h : f k j = decide c) : iD f k + iC (f k) (j + 1) = iD f k + iC (f k) j + bI c := by
  rw [iC_b c h, Int32.add_assoc]
abbrev gP (L : Int32) : Nat → Bool := fun k => decide (¬ mI k < nI 0 ∧ ¬ L - nI 1 < mI k)
abbrev gS (L : Int32) : Nat → Nat → Bool := fun k j => decide (¬ (mI k).toInt64 < 0 ∧ ¬ (mI j).toInt64 < (mI k).toInt64 ∧ ¬ L.toInt64 < (mI j).toInt64)
abbrev gT (L : Int32) : Nat → Nat → Bool := fun k j => decide (¬ (mI k).toInt64 < 0 ∧ ¬ (mI j).toInt64 < 0 ∧ ¬ L.toInt64 < 0 ∧ ¬ L.toInt64 < (mI k).toInt64 + (mI j).toInt64)
def insM (L : Int32) (w : Nat) : Int32 := if w = 0 then iC (gP L) 29 else if w = 1 then iD (gS L) 29 else iD (gT L) 29
theorem m_many_z (l : Launch) (E : jE) (A : Nat → Prop) {x0 x1 x2 x3 x4 x5 : Nat × va_E} {mo ou : Nat} {th re ak gv kn : Int32} {ro : Nat → Option Nat} {LL : List Nat} {ff : Nat → va_E} {z g : Nat → Int32} (hR : Rel E z g ro LL ff) {i : Nat} (hi : i < 9) : jMet l yX5_many cX5_many 2 (some .int) 0 0 0 E A [.ref mo, .int (nI i)] (mW E x0 x1 x2 x3 x4 x5 mo ou th re ak gv kn ro LL ff) (jR (some (.int (z i))) (mW E x0 x1 x2 x3 x4 x5 mo ou th re ak gv kn ro LL ff)) jNo := by
  rcases hR.1 i hi with ⟨h1, r1⟩ | ⟨a1, n1, f1, q1, h1, r1, m1, e1, s1⟩
  · rw [h1]; exact m_many_m l E A hi r1
  · rw [h1]; exact m_many_k l E A hi r1 m1 e1 q1
theorem m_one_v (l : Launch) (E : jE) (A : Nat → Prop) {ws : va_W} {x : Int32} (h : P01 x) : jMet l yX5_one cX5_one 1 (some .int) 0 0 0 E A [.int x] ws (jR (some (.int x)) ws) jNo := by
  rcases h with rfl | rfl
  · exact m_one_0 l E A
  · exact m_one_1 l E A
set_option maxHeartbeats 4000000 in
set_option maxRecDepth 100000 in
theorem m_add (l : Launch) (E : jE) (A : Nat → Prop) {ws : va_W} {x y : Int64} : jMet l yX5_add cX5_add 4 (some .long) 0 0 0 E A [.long x, .long y] ws (jR (some (.long (x * 31 + y))) ws) jNo := by
  refine jMet.intro' [(0, .long x), (2, .long y)] (by decide) (Nat.le_of_ble_eq_true rfl) rfl ?_
  intro p e R s m args below meth c Q C hQ
  refine j_lload_n C dX5_add_0 rfl ?_
  refine j_ldc2 C w_1209 dX5_add_1 ?_
  refine j_lmul (z := x * 31) C dX5_add_4 rfl ?_
  refine j_lload_n C dX5_add_5 rfl ?_
  refine j_ladd (z := (x * 31) + y) C dX5_add_6 rfl ?_
  exact j_lret C hQ rfl dX5_add_7 ⟨Nat.le_of_ble_eq_true rfl, Nat.le_of_ble_eq_true rfl⟩ ⟨rfl, rfl⟩
set_option maxHeartbeats 4000000 in
set_option maxRecDepth 100000 in
theorem g_insides_b (l : Launch) (E : jE) (A : Nat → Prop) {x0 x1 x2 x3 x4 x5 : Nat × va_E} {mo ou : Nat} {th re ak gv kn : Int32} {ro : Nat → Option Nat} {LL : List Nat} {ff : Nat → va_E} {x w : Int32} (hbx : x < 0 ∨ nI 9 ≤ x) : jMet l yX5_insides cX5_insides 6 (some .int) 5 0 0 E A [.ref mo, .int x, .int w] (mW E x0 x1 x2 x3 x4 x5 mo ou th re ak gv kn ro LL ff) (jR (some (.int (nI 0))) (mW E x0 x1 x2 x3 x4 x5 mo ou (nI 1) re ak gv kn ro LL ff)) jNo := by
  refine jMet.intro' [(0, .ref mo), (1, .int x), (2, .int w)] (by decide) (Nat.le_of_ble_eq_true rfl) rfl ?_
  intro p e R s m args below meth c Q C hQ
  refine j_aload_n C dX5_insides_0 rfl ?_
  refine j_iload_n C dX5_insides_1 rfl ?_
  refine j_callSr C (v := .int (nI 1)) (w := (mW E x0 x1 x2 x3 x4 x5 mo ou th re ak gv kn ro LL ff)) (m_isNo_1 l E A hbx) ok_X5_isNo w_959 (by decide) rfl rfl (Nat.le_of_ble_eq_true rfl) ⟨Nat.le_of_ble_eq_true rfl, Nat.le_of_ble_eq_true rfl⟩ dX5_insides_2 ?_
  refine j_iconst (v := (nI 1)) C dX5_insides_5 rfl ?_
  refine j_callVr C 6 (v := .int (nI 1)) (w := (mW E x0 x1 x2 x3 x4 x5 mo ou (nI 1) re ak gv kn ro LL ff)) (m_start_1 l E A (by decide) (by decide)) ok_X5_start w_962 (by decide) rfl rfl (Nat.le_of_ble_eq_true rfl) rfl rfl ⟨Nat.le_of_ble_eq_true rfl, Nat.le_of_ble_eq_true rfl⟩ dX5_insides_6 ?_
  refine j_ifn_ne_t (tgt := 56) C dX5_insides_9 (by decide) (by omega) (by omega) ?_
  refine j_iconst (v := (nI 0)) C dX5_insides_56 rfl ?_
  exact j_iret C hQ rfl dX5_insides_57 ⟨Nat.le_of_ble_eq_true rfl, Nat.le_of_ble_eq_true rfl⟩ ⟨rfl, rfl⟩
set_option maxHeartbeats 4000000 in
set_option maxRecDepth 100000 in
theorem g_insides_a (l : Launch) (E : jE) (A : Nat → Prop) {x0 x1 x2 x3 x4 x5 : Nat × va_E} {mo ou : Nat} {th re ak gv kn : Int32} {ro : Nat → Option Nat} {LL : List Nat} {ff : Nat → va_E} {i : Nat} {w : Int32} (hi : i < 9) (hbw : w < 0 ∨ nI 2 < w) : jMet l yX5_insides cX5_insides 6 (some .int) 5 0 0 E A [.ref mo, .int (nI i), .int w] (mW E x0 x1 x2 x3 x4 x5 mo ou th re ak gv kn ro LL ff) (jR (some (.int (nI 0))) (mW E x0 x1 x2 x3 x4 x5 mo ou (nI 2) re ak gv kn ro LL ff)) jNo := by
  refine jMet.intro' [(0, .ref mo), (1, .int (nI i)), (2, .int w)] (by decide) (Nat.le_of_ble_eq_true rfl) rfl ?_
  intro p e R s m args below meth c Q C hQ
  refine j_aload_n C dX5_insides_0 rfl ?_
  refine j_iload_n C dX5_insides_1 rfl ?_
  refine j_callSr C (v := .int (nI 0)) (w := (mW E x0 x1 x2 x3 x4 x5 mo ou th re ak gv kn ro LL ff)) (m_isNo_0 l E A (by omega)) ok_X5_isNo w_959 (by decide) rfl rfl (Nat.le_of_ble_eq_true rfl) ⟨Nat.le_of_ble_eq_true rfl, Nat.le_of_ble_eq_true rfl⟩ dX5_insides_2 ?_
  refine j_iconst (v := (nI 1)) C dX5_insides_5 rfl ?_
  refine j_callVr C 6 (v := .int (nI 0)) (w := (mW E x0 x1 x2 x3 x4 x5 mo ou (nI 0) re ak gv kn ro LL ff)) (m_start_0 l E A) ok_X5_start w_962 (by decide) rfl rfl (Nat.le_of_ble_eq_true rfl) rfl rfl ⟨Nat.le_of_ble_eq_true rfl, Nat.le_of_ble_eq_true rfl⟩ dX5_insides_6 ?_
  refine j_ifn_ne_f (tgt := 56) C dX5_insides_9 (by decide) (by omega) (by omega) ?_
  refine j_aload_n C dX5_insides_12 rfl ?_
  refine j_iload_n C dX5_insides_13 rfl ?_
  refine j_iconst (v := (nI 0)) C dX5_insides_14 rfl ?_
  refine j_iconst (v := (nI 2)) C dX5_insides_15 rfl ?_
  refine j_callSr C (v := .int (bI (¬ w < (nI 0) ∧ ¬ (nI 2) < w))) (w := (mW E x0 x1 x2 x3 x4 x5 mo ou (nI 0) re ak gv kn ro LL ff)) (m_isIn l E A) ok_X5_isIn w_953 (by decide) rfl rfl (Nat.le_of_ble_eq_true rfl) ⟨Nat.le_of_ble_eq_true rfl, Nat.le_of_ble_eq_true rfl⟩ dX5_insides_16 ?_
  refine j_ifb_ne_f (tgt := 26) C dX5_insides_19 (by decide) (in_f' hbw) ?_
  refine j_iconst (v := (nI 1)) C dX5_insides_22 rfl ?_
  refine j_goto (tgt := 27) C dX5_insides_23 (by decide) ?_
  refine j_iconst (v := (nI 2)) C dX5_insides_27 rfl ?_
  refine j_callVr C 6 (v := .int (nI 1)) (w := (mW E x0 x1 x2 x3 x4 x5 mo ou (nI 2) re ak gv kn ro LL ff)) (m_refuse_1 l E A (by decide) (by decide)) ok_X5_refuse w_966 (by decide) rfl rfl (Nat.le_of_ble_eq_true rfl) rfl rfl ⟨Nat.le_of_ble_eq_true rfl, Nat.le_of_ble_eq_true rfl⟩ dX5_insides_28 ?_
  refine j_ifn_ne_t (tgt := 56) C dX5_insides_31 (by decide) (by omega) (by omega) ?_
  refine j_iconst (v := (nI 0)) C dX5_insides_56 rfl ?_
  exact j_iret C hQ rfl dX5_insides_57 ⟨Nat.le_of_ble_eq_true rfl, Nat.le_of_ble_eq_true rfl⟩ ⟨rfl, rfl⟩
set_option maxHeartbeats 4000000 in
set_option maxRecDepth 100000 in
theorem g_insides_m (l : Launch) (E : jE) (A : Nat → Prop) {x0 x1 x2 x3 x4 x5 : Nat × va_E} {mo ou : Nat} {th re ak gv kn : Int32} {ro : Nat → Option Nat} {LL : List Nat} {ff : Nat → va_E} {i w : Nat} (hi : i < 9) (hw : w ≤ 2) (hri : ro i = none)  : jMet l yX5_insides cX5_insides 6 (some .int) 5 0 0 E A [.ref mo, .int (nI i), .int (nI w)] (mW E x0 x1 x2 x3 x4 x5 mo ou th re ak gv kn ro LL ff) (jR (some (.int (nI 0))) (mW E x0 x1 x2 x3 x4 x5 mo ou (nI 3) re ak gv kn ro LL ff)) jNo := by
  refine jMet.intro' [(0, .ref mo), (1, .int (nI i)), (2, .int (nI w))] (by decide) (Nat.le_of_ble_eq_true rfl) rfl ?_
  intro p e R s m args below meth c Q C hQ
  refine j_aload_n C dX5_insides_0 rfl ?_
  refine j_iload_n C dX5_insides_1 rfl ?_
  refine j_callSr C (v := .int (nI 0)) (w := (mW E x0 x1 x2 x3 x4 x5 mo ou th re ak gv kn ro LL ff)) (m_isNo_0 l E A (by omega)) ok_X5_isNo w_959 (by decide) rfl rfl (Nat.le_of_ble_eq_true rfl) ⟨Nat.le_of_ble_eq_true rfl, Nat.le_of_ble_eq_true rfl⟩ dX5_insides_2 ?_
  refine j_iconst (v := (nI 1)) C dX5_insides_5 rfl ?_
  refine j_callVr C 6 (v := .int (nI 0)) (w := (mW E x0 x1 x2 x3 x4 x5 mo ou (nI 0) re ak gv kn ro LL ff)) (m_start_0 l E A) ok_X5_start w_962 (by decide) rfl rfl (Nat.le_of_ble_eq_true rfl) rfl rfl ⟨Nat.le_of_ble_eq_true rfl, Nat.le_of_ble_eq_true rfl⟩ dX5_insides_6 ?_
  refine j_ifn_ne_f (tgt := 56) C dX5_insides_9 (by decide) (by omega) (by omega) ?_
  refine j_aload_n C dX5_insides_12 rfl ?_
  refine j_iload_n C dX5_insides_13 rfl ?_
  refine j_iconst (v := (nI 0)) C dX5_insides_14 rfl ?_
  refine j_iconst (v := (nI 2)) C dX5_insides_15 rfl ?_
  refine j_callSr C (v := .int (bI (¬ (nI w) < (nI 0) ∧ ¬ (nI 2) < (nI w)))) (w := (mW E x0 x1 x2 x3 x4 x5 mo ou (nI 0) re ak gv kn ro LL ff)) (m_isIn l E A) ok_X5_isIn w_953 (by decide) rfl rfl (Nat.le_of_ble_eq_true rfl) ⟨Nat.le_of_ble_eq_true rfl, Nat.le_of_ble_eq_true rfl⟩ dX5_insides_16 ?_
  refine j_ifb_ne_t (tgt := 26) C dX5_insides_19 (by decide) (in_t (by omega) (by omega) (by omega)) ?_
  refine j_iconst (v := (nI 0)) C dX5_insides_26 rfl ?_
  refine j_iconst (v := (nI 2)) C dX5_insides_27 rfl ?_
  refine j_callVr C 6 (v := .int (nI 0)) (w := (mW E x0 x1 x2 x3 x4 x5 mo ou (nI 0) re ak gv kn ro LL ff)) (m_refuse_0 l E A) ok_X5_refuse w_966 (by decide) rfl rfl (Nat.le_of_ble_eq_true rfl) rfl rfl ⟨Nat.le_of_ble_eq_true rfl, Nat.le_of_ble_eq_true rfl⟩ dX5_insides_28 ?_
  refine j_ifn_ne_f (tgt := 56) C dX5_insides_31 (by decide) (by omega) (by omega) ?_
  refine j_aload_n C dX5_insides_34 rfl ?_
  refine j_aload_n C dX5_insides_35 rfl ?_
  refine j_get C 6 rfl inj_X5 rfl 1 (by decide) w_922 rfl dX5_insides_36 ?_
  refine j_iload_n C dX5_insides_39 rfl ?_
  refine j_aaload (v := .null) C 7 i rfl rfl (by omega) (by decide) (by rw [show ro i = none from hri]; rfl) dX5_insides_40 ?_
  refine j_ifnonnull_f C dX5_insides_41 ?_
  refine j_iconst (v := (nI 1)) C dX5_insides_44 rfl ?_
  refine j_goto (tgt := 49) C dX5_insides_45 (by decide) ?_
  refine j_iconst (v := (nI 3)) C dX5_insides_49 rfl ?_
  refine j_callVr C 6 (v := .int (nI 1)) (w := (mW E x0 x1 x2 x3 x4 x5 mo ou (nI 3) re ak gv kn ro LL ff)) (m_refuse_1 l E A (by decide) (by decide)) ok_X5_refuse w_966 (by decide) rfl rfl (Nat.le_of_ble_eq_true rfl) rfl rfl ⟨Nat.le_of_ble_eq_true rfl, Nat.le_of_ble_eq_true rfl⟩ dX5_insides_50 ?_
  refine j_ifn_eq_f (tgt := 58) C dX5_insides_53 (by decide) (by omega) (by omega) ?_
  refine j_iconst (v := (nI 0)) C dX5_insides_56 rfl ?_
  exact j_iret C hQ rfl dX5_insides_57 ⟨Nat.le_of_ble_eq_true rfl, Nat.le_of_ble_eq_true rfl⟩ ⟨rfl, rfl⟩
set_option maxHeartbeats 4000000 in
set_option maxRecDepth 100000 in
theorem g_insides_k0 (l : Launch) (E : jE) (A : Nat → Prop) {x0 x1 x2 x3 x4 x5 : Nat × va_E} {mo ou : Nat} {th re ak gv kn : Int32} {ro : Nat → Option Nat} {LL : List Nat} {ff : Nat → va_E} {i : Nat} (hi : i < 9) {ai n : Nat} {h : Nat → Int32} (hrai : ro i = some ai) (hmai : ai ∈ LL) (hfai : ff ai = .inl (E.2.1, n, .inl h)) (hnai : n ≤ 24)  : jMet l yX5_insides cX5_insides 6 (some .int) 5 0 0 E A [.ref mo, .int (nI i), .int (nI 0)] (mW E x0 x1 x2 x3 x4 x5 mo ou th re ak gv kn ro LL ff) (jR (some (.int (iC (gP (nI n)) 29))) (mW E x0 x1 x2 x3 x4 x5 mo ou (nI 0) re ak gv kn ro LL ff)) jNo := by
  refine jMet.intro' [(0, .ref mo), (1, .int (nI i)), (2, .int (nI 0))] (by decide) (Nat.le_of_ble_eq_true rfl) rfl ?_
  intro p e R s m args below meth c Q C hQ
  refine j_aload_n C dX5_insides_0 rfl ?_
  refine j_iload_n C dX5_insides_1 rfl ?_
  refine j_callSr C (v := .int (nI 0)) (w := (mW E x0 x1 x2 x3 x4 x5 mo ou th re ak gv kn ro LL ff)) (m_isNo_0 l E A (by omega)) ok_X5_isNo w_959 (by decide) rfl rfl (Nat.le_of_ble_eq_true rfl) ⟨Nat.le_of_ble_eq_true rfl, Nat.le_of_ble_eq_true rfl⟩ dX5_insides_2 ?_
  refine j_iconst (v := (nI 1)) C dX5_insides_5 rfl ?_
  refine j_callVr C 6 (v := .int (nI 0)) (w := (mW E x0 x1 x2 x3 x4 x5 mo ou (nI 0) re ak gv kn ro LL ff)) (m_start_0 l E A) ok_X5_start w_962 (by decide) rfl rfl (Nat.le_of_ble_eq_true rfl) rfl rfl ⟨Nat.le_of_ble_eq_true rfl, Nat.le_of_ble_eq_true rfl⟩ dX5_insides_6 ?_
  refine j_ifn_ne_f (tgt := 56) C dX5_insides_9 (by decide) (by omega) (by omega) ?_
  refine j_aload_n C dX5_insides_12 rfl ?_
  refine j_iload_n C dX5_insides_13 rfl ?_
  refine j_iconst (v := (nI 0)) C dX5_insides_14 rfl ?_
  refine j_iconst (v := (nI 2)) C dX5_insides_15 rfl ?_
  refine j_callSr C (v := .int (bI (¬ (nI 0) < (nI 0) ∧ ¬ (nI 2) < (nI 0)))) (w := (mW E x0 x1 x2 x3 x4 x5 mo ou (nI 0) re ak gv kn ro LL ff)) (m_isIn l E A) ok_X5_isIn w_953 (by decide) rfl rfl (Nat.le_of_ble_eq_true rfl) ⟨Nat.le_of_ble_eq_true rfl, Nat.le_of_ble_eq_true rfl⟩ dX5_insides_16 ?_
  refine j_ifb_ne_t (tgt := 26) C dX5_insides_19 (by decide) (in_t (by omega) (by omega) (by omega)) ?_
  refine j_iconst (v := (nI 0)) C dX5_insides_26 rfl ?_
  refine j_iconst (v := (nI 2)) C dX5_insides_27 rfl ?_
  refine j_callVr C 6 (v := .int (nI 0)) (w := (mW E x0 x1 x2 x3 x4 x5 mo ou (nI 0) re ak gv kn ro LL ff)) (m_refuse_0 l E A) ok_X5_refuse w_966 (by decide) rfl rfl (Nat.le_of_ble_eq_true rfl) rfl rfl ⟨Nat.le_of_ble_eq_true rfl, Nat.le_of_ble_eq_true rfl⟩ dX5_insides_28 ?_
  refine j_ifn_ne_f (tgt := 56) C dX5_insides_31 (by decide) (by omega) (by omega) ?_
  refine j_aload_n C dX5_insides_34 rfl ?_
  refine j_aload_n C dX5_insides_35 rfl ?_
  refine j_get C 6 rfl inj_X5 rfl 1 (by decide) w_922 rfl dX5_insides_36 ?_
  refine j_iload_n C dX5_insides_39 rfl ?_
  refine j_aaload (v := .ref ai) C 7 i rfl rfl (by omega) (by decide) (by rw [show ro i = some ai from hrai]; rfl) dX5_insides_40 ?_
  refine j_ifnonnull_t (tgt := 48) C dX5_insides_41 (by decide) ?_
  refine j_iconst (v := (nI 0)) C dX5_insides_48 rfl ?_
  refine j_iconst (v := (nI 3)) C dX5_insides_49 rfl ?_
  refine j_callVr C 6 (v := .int (nI 0)) (w := (mW E x0 x1 x2 x3 x4 x5 mo ou (nI 0) re ak gv kn ro LL ff)) (m_refuse_0 l E A) ok_X5_refuse w_966 (by decide) rfl rfl (Nat.le_of_ble_eq_true rfl) rfl rfl ⟨Nat.le_of_ble_eq_true rfl, Nat.le_of_ble_eq_true rfl⟩ dX5_insides_50 ?_
  refine j_ifn_eq_t (tgt := 58) C dX5_insides_53 (by decide) (by omega) (by omega) ?_
  refine j_iconst (v := (nI 0)) C dX5_insides_58 rfl ?_
  refine j_istore_n (lv' := [(3, .int (nI 0)), (0, .ref mo), (1, .int (nI i)), (2, .int (nI 0))]) C dX5_insides_59 (by decide) rfl ?_
  refine j_bipush (v := (-2)) C dX5_insides_60 rfl ?_
  refine j_istore (lv' := [(4, .int (-2)), (3, .int (nI 0)), (0, .ref mo), (1, .int (nI i)), (2, .int (nI 0))]) C dX5_insides_62 (by decide) rfl ?_
  have L64 : ∀ (r k : Nat), k + r = 29 → jJ p l e R s m args below meth c E A 6 Q 0 0 64 [(4, .int (mI k)), (3, .int (iC (gP (nI n)) k)), (0, .ref mo), (1, .int (nI i)), (2, .int (nI 0))] [] (mW E x0 x1 x2 x3 x4 x5 mo ou (nI 0) re ak gv kn ro LL ff) := by
    intro r
    induction r with
    | zero =>
      intro k  hk64 
      refine j_iload C dX5_insides_64 rfl ?_
      refine j_bipush (v := (nI 26)) C dX5_insides_66 rfl ?_
      refine j_icmp_gt_t (tgt := 165) C dX5_insides_68 (by decide) (mI_end (by omega)) ?_
      have ek : 29 = k := by omega
      subst ek
      refine j_iload_n C dX5_insides_165 rfl ?_
      exact j_iret C hQ rfl dX5_insides_166 ⟨Nat.le_of_ble_eq_true rfl, Nat.le_of_ble_eq_true rfl⟩ ⟨rfl, rfl⟩
    | succ r ih64 =>
      intro k  hk64 
      refine j_iload C dX5_insides_64 rfl ?_
      refine j_bipush (v := (nI 26)) C dX5_insides_66 rfl ?_
      refine j_icmp_gt_f (tgt := 165) C dX5_insides_68 (by decide) (mI_in (by omega)) ?_
      refine j_iload_n C dX5_insides_71 rfl ?_
      refine j_ifn_ne_f (tgt := 94) C dX5_insides_72 (by decide) (by omega) (by omega) ?_
      refine j_iload_n C dX5_insides_75 rfl ?_
      refine j_iload C dX5_insides_76 rfl ?_
      refine j_iconst (v := (nI 0)) C dX5_insides_78 rfl ?_
      refine j_aload_n C dX5_insides_79 rfl ?_
      refine j_iload_n C dX5_insides_80 rfl ?_
      refine j_callVr C 6 (v := .int (nI n)) (w := (mW E x0 x1 x2 x3 x4 x5 mo ou (nI 0) re ak gv kn ro LL ff)) (m_many_k l E A (by omega) hrai hmai hfai (by omega)) ok_X5_many w_970 (by decide) rfl rfl (Nat.le_of_ble_eq_true rfl) rfl rfl ⟨Nat.le_of_ble_eq_true rfl, Nat.le_of_ble_eq_true rfl⟩ dX5_insides_81 ?_
      refine j_iconst (v := (nI 1)) C dX5_insides_84 rfl ?_
      refine j_isub (z := ((nI n) - (nI 1))) C dX5_insides_85 rfl ?_
      refine j_callSr C (v := .int (bI (¬ (mI k) < (nI 0) ∧ ¬ ((nI n) - (nI 1)) < (mI k)))) (w := (mW E x0 x1 x2 x3 x4 x5 mo ou (nI 0) re ak gv kn ro LL ff)) (m_isIn l E A) ok_X5_isIn w_953 (by decide) rfl rfl (Nat.le_of_ble_eq_true rfl) ⟨Nat.le_of_ble_eq_true rfl, Nat.le_of_ble_eq_true rfl⟩ dX5_insides_86 ?_
      refine j_callSr C (v := .int (bI (¬ (mI k) < (nI 0) ∧ ¬ ((nI n) - (nI 1)) < (mI k)))) (w := (mW E x0 x1 x2 x3 x4 x5 mo ou (nI 0) re ak gv kn ro LL ff)) (m_one l E A) ok_X5_one w_956 (by decide) rfl rfl (Nat.le_of_ble_eq_true rfl) ⟨Nat.le_of_ble_eq_true rfl, Nat.le_of_ble_eq_true rfl⟩ dX5_insides_89 ?_
      refine j_iadd (z := ((iC (gP (nI n)) k) + (bI (¬ (mI k) < (nI 0) ∧ ¬ ((nI n) - (nI 1)) < (mI k))))) C dX5_insides_92 rfl ?_
      refine j_istore_n (lv' := [(3, .int ((iC (gP (nI n)) k) + (bI (¬ (mI k) < (nI 0) ∧ ¬ ((nI n) - (nI 1)) < (mI k))))), (4, .int (mI k)), (0, .ref mo), (1, .int (nI i)), (2, .int (nI 0))]) C dX5_insides_93 (by decide) rfl ?_
      refine j_bipush (v := (-2)) C dX5_insides_94 rfl ?_
      refine j_istore (lv' := [(5, .int (-2)), (3, .int ((iC (gP (nI n)) k) + (bI (¬ (mI k) < (nI 0) ∧ ¬ ((nI n) - (nI 1)) < (mI k))))), (4, .int (mI k)), (0, .ref mo), (1, .int (nI i)), (2, .int (nI 0))]) C dX5_insides_96 (by decide) rfl ?_
      refine j_iload C dX5_insides_98 rfl ?_
      refine j_bipush (v := (nI 26)) C dX5_insides_100 rfl ?_
      refine j_icmp_gt_f (tgt := 159) C dX5_insides_102 (by decide) (by decide) ?_
      refine j_iload_n C dX5_insides_105 rfl ?_
      refine j_ifn_le_t (tgt := 159) C dX5_insides_106 (by decide) (by omega) (by omega) ?_
      refine j_iinc (lv' := [(4, .int (mI (k + 1))), (5, .int (-2)), (3, .int ((iC (gP (nI n)) k) + (bI (¬ (mI k) < (nI 0) ∧ ¬ ((nI n) - (nI 1)) < (mI k))))), (0, .ref mo), (1, .int (nI i)), (2, .int (nI 0))]) C dX5_insides_159 rfl (mI_s _) (by decide) rfl ?_
      refine j_goto (tgt := 64) C dX5_insides_162 (by decide) ?_
      refine j_eq (lv' := [(4, .int (mI (k + 1))), (5, .int (-2)), (3, .int (iC (gP (nI n)) (k + 1))), (0, .ref mo), (1, .int (nI i)), (2, .int (nI 0))]) (by rw [iC_b (f := gP (nI n)) _ rfl]) rfl rfl ?_
      refine j_lv (lv' := [(4, .int (mI (k + 1))), (3, .int (iC (gP (nI n)) (k + 1))), (0, .ref mo), (1, .int (nI i)), (2, .int (nI 0))]) (by simp only [List.mem_cons, List.not_mem_nil, or_false, forall_eq_or_imp, forall_eq, true_or, or_true, and_self, Nat.add_zero]) ?_
      exact ih64 (k + 1)  (by omega)
  refine j_eq (lv' := [(4, .int (mI 0)), (3, .int (nI 0)), (0, .ref mo), (1, .int (nI i)), (2, .int (nI 0))]) rfl rfl rfl ?_
  refine j_eq (lv' := [(4, .int (mI 0)), (3, .int (iC (gP (nI n)) 0)), (0, .ref mo), (1, .int (nI i)), (2, .int (nI 0))]) rfl rfl rfl ?_
  refine j_lv (lv' := [(4, .int (mI 0)), (3, .int (iC (gP (nI n)) 0)), (0, .ref mo), (1, .int (nI i)), (2, .int (nI 0))]) (by simp only [List.mem_cons, List.not_mem_nil, or_false, forall_eq_or_imp, forall_eq, true_or, or_true, and_self, Nat.add_zero]) ?_
  exact L64 29 0  (by omega)
set_option maxHeartbeats 4000000 in
set_option maxRecDepth 100000 in
theorem g_insides_k1 (l : Launch) (E : jE) (A : Nat → Prop) {x0 x1 x2 x3 x4 x5 : Nat × va_E} {mo ou : Nat} {th re ak gv kn : Int32} {ro : Nat → Option Nat} {LL : List Nat} {ff : Nat → va_E} {i : Nat} (hi : i < 9) {ai n : Nat} {h : Nat → Int32} (hrai : ro i = some ai) (hmai : ai ∈ LL) (hfai : ff ai = .inl (E.2.1, n, .inl h)) (hnai : n ≤ 24)  : jMet l yX5_insides cX5_insides 6 (some .int) 5 0 0 E A [.ref mo, .int (nI i), .int (nI 1)] (mW E x0 x1 x2 x3 x4 x5 mo ou th re ak gv kn ro LL ff) (jR (some (.int (iD (gS (nI n)) 29))) (mW E x0 x1 x2 x3 x4 x5 mo ou (nI 0) re ak gv kn ro LL ff)) jNo := by
  refine jMet.intro' [(0, .ref mo), (1, .int (nI i)), (2, .int (nI 1))] (by decide) (Nat.le_of_ble_eq_true rfl) rfl ?_
  intro p e R s m args below meth c Q C hQ
  refine j_aload_n C dX5_insides_0 rfl ?_
  refine j_iload_n C dX5_insides_1 rfl ?_
  refine j_callSr C (v := .int (nI 0)) (w := (mW E x0 x1 x2 x3 x4 x5 mo ou th re ak gv kn ro LL ff)) (m_isNo_0 l E A (by omega)) ok_X5_isNo w_959 (by decide) rfl rfl (Nat.le_of_ble_eq_true rfl) ⟨Nat.le_of_ble_eq_true rfl, Nat.le_of_ble_eq_true rfl⟩ dX5_insides_2 ?_
  refine j_iconst (v := (nI 1)) C dX5_insides_5 rfl ?_
  refine j_callVr C 6 (v := .int (nI 0)) (w := (mW E x0 x1 x2 x3 x4 x5 mo ou (nI 0) re ak gv kn ro LL ff)) (m_start_0 l E A) ok_X5_start w_962 (by decide) rfl rfl (Nat.le_of_ble_eq_true rfl) rfl rfl ⟨Nat.le_of_ble_eq_true rfl, Nat.le_of_ble_eq_true rfl⟩ dX5_insides_6 ?_
  refine j_ifn_ne_f (tgt := 56) C dX5_insides_9 (by decide) (by omega) (by omega) ?_
  refine j_aload_n C dX5_insides_12 rfl ?_
  refine j_iload_n C dX5_insides_13 rfl ?_
  refine j_iconst (v := (nI 0)) C dX5_insides_14 rfl ?_
  refine j_iconst (v := (nI 2)) C dX5_insides_15 rfl ?_
  refine j_callSr C (v := .int (bI (¬ (nI 1) < (nI 0) ∧ ¬ (nI 2) < (nI 1)))) (w := (mW E x0 x1 x2 x3 x4 x5 mo ou (nI 0) re ak gv kn ro LL ff)) (m_isIn l E A) ok_X5_isIn w_953 (by decide) rfl rfl (Nat.le_of_ble_eq_true rfl) ⟨Nat.le_of_ble_eq_true rfl, Nat.le_of_ble_eq_true rfl⟩ dX5_insides_16 ?_
  refine j_ifb_ne_t (tgt := 26) C dX5_insides_19 (by decide) (in_t (by omega) (by omega) (by omega)) ?_
  refine j_iconst (v := (nI 0)) C dX5_insides_26 rfl ?_
  refine j_iconst (v := (nI 2)) C dX5_insides_27 rfl ?_
  refine j_callVr C 6 (v := .int (nI 0)) (w := (mW E x0 x1 x2 x3 x4 x5 mo ou (nI 0) re ak gv kn ro LL ff)) (m_refuse_0 l E A) ok_X5_refuse w_966 (by decide) rfl rfl (Nat.le_of_ble_eq_true rfl) rfl rfl ⟨Nat.le_of_ble_eq_true rfl, Nat.le_of_ble_eq_true rfl⟩ dX5_insides_28 ?_
  refine j_ifn_ne_f (tgt := 56) C dX5_insides_31 (by decide) (by omega) (by omega) ?_
  refine j_aload_n C dX5_insides_34 rfl ?_
  refine j_aload_n C dX5_insides_35 rfl ?_
  refine j_get C 6 rfl inj_X5 rfl 1 (by decide) w_922 rfl dX5_insides_36 ?_
  refine j_iload_n C dX5_insides_39 rfl ?_
  refine j_aaload (v := .ref ai) C 7 i rfl rfl (by omega) (by decide) (by rw [show ro i = some ai from hrai]; rfl) dX5_insides_40 ?_
  refine j_ifnonnull_t (tgt := 48) C dX5_insides_41 (by decide) ?_
  refine j_iconst (v := (nI 0)) C dX5_insides_48 rfl ?_
  refine j_iconst (v := (nI 3)) C dX5_insides_49 rfl ?_
  refine j_callVr C 6 (v := .int (nI 0)) (w := (mW E x0 x1 x2 x3 x4 x5 mo ou (nI 0) re ak gv kn ro LL ff)) (m_refuse_0 l E A) ok_X5_refuse w_966 (by decide) rfl rfl (Nat.le_of_ble_eq_true rfl) rfl rfl ⟨Nat.le_of_ble_eq_true rfl, Nat.le_of_ble_eq_true rfl⟩ dX5_insides_50 ?_
  refine j_ifn_eq_t (tgt := 58) C dX5_insides_53 (by decide) (by omega) (by omega) ?_
  refine j_iconst (v := (nI 0)) C dX5_insides_58 rfl ?_
  refine j_istore_n (lv' := [(3, .int (nI 0)), (0, .ref mo), (1, .int (nI i)), (2, .int (nI 1))]) C dX5_insides_59 (by decide) rfl ?_
  refine j_bipush (v := (-2)) C dX5_insides_60 rfl ?_
  refine j_istore (lv' := [(4, .int (-2)), (3, .int (nI 0)), (0, .ref mo), (1, .int (nI i)), (2, .int (nI 1))]) C dX5_insides_62 (by decide) rfl ?_
  have L64 : ∀ (r k : Nat), k + r = 29 → jJ p l e R s m args below meth c E A 6 Q 0 0 64 [(4, .int (mI k)), (3, .int (iD (gS (nI n)) k)), (0, .ref mo), (1, .int (nI i)), (2, .int (nI 1))] [] (mW E x0 x1 x2 x3 x4 x5 mo ou (nI 0) re ak gv kn ro LL ff) := by
    intro r
    induction r with
    | zero =>
      intro k  hk64 
      refine j_iload C dX5_insides_64 rfl ?_
      refine j_bipush (v := (nI 26)) C dX5_insides_66 rfl ?_
      refine j_icmp_gt_t (tgt := 165) C dX5_insides_68 (by decide) (mI_end (by omega)) ?_
      have ek : 29 = k := by omega
      subst ek
      refine j_iload_n C dX5_insides_165 rfl ?_
      exact j_iret C hQ rfl dX5_insides_166 ⟨Nat.le_of_ble_eq_true rfl, Nat.le_of_ble_eq_true rfl⟩ ⟨rfl, rfl⟩
    | succ r ih64 =>
      intro k  hk64 
      refine j_iload C dX5_insides_64 rfl ?_
      refine j_bipush (v := (nI 26)) C dX5_insides_66 rfl ?_
      refine j_icmp_gt_f (tgt := 165) C dX5_insides_68 (by decide) (mI_in (by omega)) ?_
      refine j_iload_n C dX5_insides_71 rfl ?_
      refine j_ifn_ne_t (tgt := 94) C dX5_insides_72 (by decide) (by omega) (by omega) ?_
      refine j_bipush (v := (-2)) C dX5_insides_94 rfl ?_
      refine j_istore (lv' := [(5, .int (-2)), (4, .int (mI k)), (3, .int (iD (gS (nI n)) k)), (0, .ref mo), (1, .int (nI i)), (2, .int (nI 1))]) C dX5_insides_96 (by decide) rfl ?_
      have L98 : ∀ (r j : Nat), j + r = 29 → jJ p l e R s m args below meth c E A 6 Q 0 0 98 [(5, .int (mI j)), (4, .int (mI k)), (3, .int (iD (gS (nI n)) k + iC (gS (nI n) k) j)), (0, .ref mo), (1, .int (nI i)), (2, .int (nI 1))] [] (mW E x0 x1 x2 x3 x4 x5 mo ou (nI 0) re ak gv kn ro LL ff) := by
        intro r
        induction r with
        | zero =>
          intro j  hk98 
          refine j_iload C dX5_insides_98 rfl ?_
          refine j_bipush (v := (nI 26)) C dX5_insides_100 rfl ?_
          refine j_icmp_gt_t (tgt := 159) C dX5_insides_102 (by decide) (mI_end (by omega)) ?_
          have ek : 29 = j := by omega
          subst ek
          refine j_eq (lv' := [(5, .int (mI (29))), (4, .int (mI k)), (3, .int (iD (gS (nI n)) (k + 1))), (0, .ref mo), (1, .int (nI i)), (2, .int (nI 1))]) rfl rfl rfl ?_
          refine j_iinc (lv' := [(4, .int (mI (k + 1))), (5, .int (mI (29))), (3, .int (iD (gS (nI n)) (k + 1))), (0, .ref mo), (1, .int (nI i)), (2, .int (nI 1))]) C dX5_insides_159 rfl (mI_s _) (by decide) rfl ?_
          refine j_goto (tgt := 64) C dX5_insides_162 (by decide) ?_
          refine j_lv (lv' := [(4, .int (mI (k + 1))), (3, .int (iD (gS (nI n)) (k + 1))), (0, .ref mo), (1, .int (nI i)), (2, .int (nI 1))]) (by simp only [List.mem_cons, List.not_mem_nil, or_false, forall_eq_or_imp, forall_eq, true_or, or_true, and_self, Nat.add_zero]) ?_
          exact ih64 (k + 1)  (by omega)
        | succ r ih98 =>
          intro j  hk98 
          refine j_iload C dX5_insides_98 rfl ?_
          refine j_bipush (v := (nI 26)) C dX5_insides_100 rfl ?_
          refine j_icmp_gt_f (tgt := 159) C dX5_insides_102 (by decide) (mI_in (by omega)) ?_
          refine j_iload_n C dX5_insides_105 rfl ?_
          refine j_ifn_le_f (tgt := 159) C dX5_insides_106 (by decide) (by omega) (by omega) ?_
          refine j_iload_n C dX5_insides_109 rfl ?_
          refine j_iload_n C dX5_insides_110 rfl ?_
          refine j_iconst (v := (nI 1)) C dX5_insides_111 rfl ?_
          refine j_icmpn_ne_f (tgt := 133) C dX5_insides_112 (by decide) (by omega) (by omega) (by omega) ?_
          refine j_iload C dX5_insides_115 rfl ?_
          refine j_i2l (v := (mI k).toInt64) C dX5_insides_117 rfl ?_
          refine j_iload C dX5_insides_118 rfl ?_
          refine j_i2l (v := (mI j).toInt64) C dX5_insides_120 rfl ?_
          refine j_aload_n C dX5_insides_121 rfl ?_
          refine j_iload_n C dX5_insides_122 rfl ?_
          refine j_callVr C 6 (v := .int (nI n)) (w := (mW E x0 x1 x2 x3 x4 x5 mo ou (nI 0) re ak gv kn ro LL ff)) (m_many_k l E A (by omega) hrai hmai hfai (by omega)) ok_X5_many w_970 (by decide) rfl rfl (Nat.le_of_ble_eq_true rfl) rfl rfl ⟨Nat.le_of_ble_eq_true rfl, Nat.le_of_ble_eq_true rfl⟩ dX5_insides_123 ?_
          refine j_i2l (v := (nI n).toInt64) C dX5_insides_126 rfl ?_
          refine j_callSr C (v := .int (bI (¬ ((mI k).toInt64) < 0 ∧ ¬ ((mI j).toInt64) < ((mI k).toInt64) ∧ ¬ ((nI n).toInt64) < ((mI j).toInt64)))) (w := (mW E x0 x1 x2 x3 x4 x5 mo ou (nI 0) re ak gv kn ro LL ff)) (m_isSpan l E A) ok_X5_isSpan w_989 (by decide) rfl rfl (Nat.le_of_ble_eq_true rfl) ⟨Nat.le_of_ble_eq_true rfl, Nat.le_of_ble_eq_true rfl⟩ dX5_insides_127 ?_
          refine j_goto (tgt := 148) C dX5_insides_130 (by decide) ?_
          refine j_callSr C (v := .int (bI (¬ ((mI k).toInt64) < 0 ∧ ¬ ((mI j).toInt64) < ((mI k).toInt64) ∧ ¬ ((nI n).toInt64) < ((mI j).toInt64)))) (w := (mW E x0 x1 x2 x3 x4 x5 mo ou (nI 0) re ak gv kn ro LL ff)) (m_one l E A) ok_X5_one w_956 (by decide) rfl rfl (Nat.le_of_ble_eq_true rfl) ⟨Nat.le_of_ble_eq_true rfl, Nat.le_of_ble_eq_true rfl⟩ dX5_insides_148 ?_
          refine j_iadd (z := ((iD (gS (nI n)) k + iC (gS (nI n) k) j) + (bI (¬ ((mI k).toInt64) < 0 ∧ ¬ ((mI j).toInt64) < ((mI k).toInt64) ∧ ¬ ((nI n).toInt64) < ((mI j).toInt64))))) C dX5_insides_151 rfl ?_
          refine j_istore_n (lv' := [(3, .int ((iD (gS (nI n)) k + iC (gS (nI n) k) j) + (bI (¬ ((mI k).toInt64) < 0 ∧ ¬ ((mI j).toInt64) < ((mI k).toInt64) ∧ ¬ ((nI n).toInt64) < ((mI j).toInt64))))), (5, .int (mI j)), (4, .int (mI k)), (0, .ref mo), (1, .int (nI i)), (2, .int (nI 1))]) C dX5_insides_152 (by decide) rfl ?_
          refine j_iinc (lv' := [(5, .int (mI (j + 1))), (3, .int ((iD (gS (nI n)) k + iC (gS (nI n) k) j) + (bI (¬ ((mI k).toInt64) < 0 ∧ ¬ ((mI j).toInt64) < ((mI k).toInt64) ∧ ¬ ((nI n).toInt64) < ((mI j).toInt64))))), (4, .int (mI k)), (0, .ref mo), (1, .int (nI i)), (2, .int (nI 1))]) C dX5_insides_153 rfl (mI_s _) (by decide) rfl ?_
          refine j_goto (tgt := 98) C dX5_insides_156 (by decide) ?_
          refine j_eq (lv' := [(5, .int (mI (j + 1))), (3, .int (iD (gS (nI n)) k + iC (gS (nI n) k) (j + 1))), (4, .int (mI k)), (0, .ref mo), (1, .int (nI i)), (2, .int (nI 1))]) (by rw [iD_b (f := gS (nI n)) _ rfl]) rfl rfl ?_
          refine j_lv (lv' := [(5, .int (mI (j + 1))), (4, .int (mI k)), (3, .int (iD (gS (nI n)) k + iC (gS (nI n) k) (j + 1))), (0, .ref mo), (1, .int (nI i)), (2, .int (nI 1))]) (by simp only [List.mem_cons, List.not_mem_nil, or_false, forall_eq_or_imp, forall_eq, true_or, or_true, and_self, Nat.add_zero]) ?_
          exact ih98 (j + 1)  (by omega)
      refine j_eq (lv' := [(5, .int (mI 0)), (4, .int (mI k)), (3, .int (iD (gS (nI n)) k)), (0, .ref mo), (1, .int (nI i)), (2, .int (nI 1))]) rfl rfl rfl ?_
      refine j_eq (lv' := [(5, .int (mI 0)), (4, .int (mI k)), (3, .int (iD (gS (nI n)) k + iC (gS (nI n) k) 0)), (0, .ref mo), (1, .int (nI i)), (2, .int (nI 1))]) (by rw [show iD (gS (nI n)) k + iC (gS (nI n) k) 0 = iD (gS (nI n)) k from Int32.add_zero _]) rfl rfl ?_
      refine j_lv (lv' := [(5, .int (mI 0)), (4, .int (mI k)), (3, .int (iD (gS (nI n)) k + iC (gS (nI n) k) 0)), (0, .ref mo), (1, .int (nI i)), (2, .int (nI 1))]) (by simp only [List.mem_cons, List.not_mem_nil, or_false, forall_eq_or_imp, forall_eq, true_or, or_true, and_self, Nat.add_zero]) ?_
      exact L98 29 0  (by omega)
  refine j_eq (lv' := [(4, .int (mI 0)), (3, .int (nI 0)), (0, .ref mo), (1, .int (nI i)), (2, .int (nI 1))]) rfl rfl rfl ?_
  refine j_eq (lv' := [(4, .int (mI 0)), (3, .int (iD (gS (nI n)) 0)), (0, .ref mo), (1, .int (nI i)), (2, .int (nI 1))]) rfl rfl rfl ?_
  refine j_lv (lv' := [(4, .int (mI 0)), (3, .int (iD (gS (nI n)) 0)), (0, .ref mo), (1, .int (nI i)), (2, .int (nI 1))]) (by simp only [List.mem_cons, List.not_mem_nil, or_false, forall_eq_or_imp, forall_eq, true_or, or_true, and_self, Nat.add_zero]) ?_
  exact L64 29 0  (by omega)
set_option maxHeartbeats 4000000 in
set_option maxRecDepth 100000 in
theorem g_insides_k2 (l : Launch) (E : jE) (A : Nat → Prop) {x0 x1 x2 x3 x4 x5 : Nat × va_E} {mo ou : Nat} {th re ak gv kn : Int32} {ro : Nat → Option Nat} {LL : List Nat} {ff : Nat → va_E} {i : Nat} (hi : i < 9) {ai n : Nat} {h : Nat → Int32} (hrai : ro i = some ai) (hmai : ai ∈ LL) (hfai : ff ai = .inl (E.2.1, n, .inl h)) (hnai : n ≤ 24)  : jMet l yX5_insides cX5_insides 6 (some .int) 5 0 0 E A [.ref mo, .int (nI i), .int (nI 2)] (mW E x0 x1 x2 x3 x4 x5 mo ou th re ak gv kn ro LL ff) (jR (some (.int (iD (gT (nI n)) 29))) (mW E x0 x1 x2 x3 x4 x5 mo ou (nI 0) re ak gv kn ro LL ff)) jNo := by
  refine jMet.intro' [(0, .ref mo), (1, .int (nI i)), (2, .int (nI 2))] (by decide) (Nat.le_of_ble_eq_true rfl) rfl ?_
  intro p e R s m args below meth c Q C hQ
  refine j_aload_n C dX5_insides_0 rfl ?_
  refine j_iload_n C dX5_insides_1 rfl ?_
  refine j_callSr C (v := .int (nI 0)) (w := (mW E x0 x1 x2 x3 x4 x5 mo ou th re ak gv kn ro LL ff)) (m_isNo_0 l E A (by omega)) ok_X5_isNo w_959 (by decide) rfl rfl (Nat.le_of_ble_eq_true rfl) ⟨Nat.le_of_ble_eq_true rfl, Nat.le_of_ble_eq_true rfl⟩ dX5_insides_2 ?_
  refine j_iconst (v := (nI 1)) C dX5_insides_5 rfl ?_
  refine j_callVr C 6 (v := .int (nI 0)) (w := (mW E x0 x1 x2 x3 x4 x5 mo ou (nI 0) re ak gv kn ro LL ff)) (m_start_0 l E A) ok_X5_start w_962 (by decide) rfl rfl (Nat.le_of_ble_eq_true rfl) rfl rfl ⟨Nat.le_of_ble_eq_true rfl, Nat.le_of_ble_eq_true rfl⟩ dX5_insides_6 ?_
  refine j_ifn_ne_f (tgt := 56) C dX5_insides_9 (by decide) (by omega) (by omega) ?_
  refine j_aload_n C dX5_insides_12 rfl ?_
  refine j_iload_n C dX5_insides_13 rfl ?_
  refine j_iconst (v := (nI 0)) C dX5_insides_14 rfl ?_
  refine j_iconst (v := (nI 2)) C dX5_insides_15 rfl ?_
  refine j_callSr C (v := .int (bI (¬ (nI 2) < (nI 0) ∧ ¬ (nI 2) < (nI 2)))) (w := (mW E x0 x1 x2 x3 x4 x5 mo ou (nI 0) re ak gv kn ro LL ff)) (m_isIn l E A) ok_X5_isIn w_953 (by decide) rfl rfl (Nat.le_of_ble_eq_true rfl) ⟨Nat.le_of_ble_eq_true rfl, Nat.le_of_ble_eq_true rfl⟩ dX5_insides_16 ?_
  refine j_ifb_ne_t (tgt := 26) C dX5_insides_19 (by decide) (in_t (by omega) (by omega) (by omega)) ?_
  refine j_iconst (v := (nI 0)) C dX5_insides_26 rfl ?_
  refine j_iconst (v := (nI 2)) C dX5_insides_27 rfl ?_
  refine j_callVr C 6 (v := .int (nI 0)) (w := (mW E x0 x1 x2 x3 x4 x5 mo ou (nI 0) re ak gv kn ro LL ff)) (m_refuse_0 l E A) ok_X5_refuse w_966 (by decide) rfl rfl (Nat.le_of_ble_eq_true rfl) rfl rfl ⟨Nat.le_of_ble_eq_true rfl, Nat.le_of_ble_eq_true rfl⟩ dX5_insides_28 ?_
  refine j_ifn_ne_f (tgt := 56) C dX5_insides_31 (by decide) (by omega) (by omega) ?_
  refine j_aload_n C dX5_insides_34 rfl ?_
  refine j_aload_n C dX5_insides_35 rfl ?_
  refine j_get C 6 rfl inj_X5 rfl 1 (by decide) w_922 rfl dX5_insides_36 ?_
  refine j_iload_n C dX5_insides_39 rfl ?_
  refine j_aaload (v := .ref ai) C 7 i rfl rfl (by omega) (by decide) (by rw [show ro i = some ai from hrai]; rfl) dX5_insides_40 ?_
  refine j_ifnonnull_t (tgt := 48) C dX5_insides_41 (by decide) ?_
  refine j_iconst (v := (nI 0)) C dX5_insides_48 rfl ?_
  refine j_iconst (v := (nI 3)) C dX5_insides_49 rfl ?_
  refine j_callVr C 6 (v := .int (nI 0)) (w := (mW E x0 x1 x2 x3 x4 x5 mo ou (nI 0) re ak gv kn ro LL ff)) (m_refuse_0 l E A) ok_X5_refuse w_966 (by decide) rfl rfl (Nat.le_of_ble_eq_true rfl) rfl rfl ⟨Nat.le_of_ble_eq_true rfl, Nat.le_of_ble_eq_true rfl⟩ dX5_insides_50 ?_
  refine j_ifn_eq_t (tgt := 58) C dX5_insides_53 (by decide) (by omega) (by omega) ?_
  refine j_iconst (v := (nI 0)) C dX5_insides_58 rfl ?_
  refine j_istore_n (lv' := [(3, .int (nI 0)), (0, .ref mo), (1, .int (nI i)), (2, .int (nI 2))]) C dX5_insides_59 (by decide) rfl ?_
  refine j_bipush (v := (-2)) C dX5_insides_60 rfl ?_
  refine j_istore (lv' := [(4, .int (-2)), (3, .int (nI 0)), (0, .ref mo), (1, .int (nI i)), (2, .int (nI 2))]) C dX5_insides_62 (by decide) rfl ?_
  have L64 : ∀ (r k : Nat), k + r = 29 → jJ p l e R s m args below meth c E A 6 Q 0 0 64 [(4, .int (mI k)), (3, .int (iD (gT (nI n)) k)), (0, .ref mo), (1, .int (nI i)), (2, .int (nI 2))] [] (mW E x0 x1 x2 x3 x4 x5 mo ou (nI 0) re ak gv kn ro LL ff) := by
    intro r
    induction r with
    | zero =>
      intro k  hk64 
      refine j_iload C dX5_insides_64 rfl ?_
      refine j_bipush (v := (nI 26)) C dX5_insides_66 rfl ?_
      refine j_icmp_gt_t (tgt := 165) C dX5_insides_68 (by decide) (mI_end (by omega)) ?_
      have ek : 29 = k := by omega
      subst ek
      refine j_iload_n C dX5_insides_165 rfl ?_
      exact j_iret C hQ rfl dX5_insides_166 ⟨Nat.le_of_ble_eq_true rfl, Nat.le_of_ble_eq_true rfl⟩ ⟨rfl, rfl⟩
    | succ r ih64 =>
      intro k  hk64 
      refine j_iload C dX5_insides_64 rfl ?_
      refine j_bipush (v := (nI 26)) C dX5_insides_66 rfl ?_
      refine j_icmp_gt_f (tgt := 165) C dX5_insides_68 (by decide) (mI_in (by omega)) ?_
      refine j_iload_n C dX5_insides_71 rfl ?_
      refine j_ifn_ne_t (tgt := 94) C dX5_insides_72 (by decide) (by omega) (by omega) ?_
      refine j_bipush (v := (-2)) C dX5_insides_94 rfl ?_
      refine j_istore (lv' := [(5, .int (-2)), (4, .int (mI k)), (3, .int (iD (gT (nI n)) k)), (0, .ref mo), (1, .int (nI i)), (2, .int (nI 2))]) C dX5_insides_96 (by decide) rfl ?_
      have L98 : ∀ (r j : Nat), j + r = 29 → jJ p l e R s m args below meth c E A 6 Q 0 0 98 [(5, .int (mI j)), (4, .int (mI k)), (3, .int (iD (gT (nI n)) k + iC (gT (nI n) k) j)), (0, .ref mo), (1, .int (nI i)), (2, .int (nI 2))] [] (mW E x0 x1 x2 x3 x4 x5 mo ou (nI 0) re ak gv kn ro LL ff) := by
        intro r
        induction r with
        | zero =>
          intro j  hk98 
          refine j_iload C dX5_insides_98 rfl ?_
          refine j_bipush (v := (nI 26)) C dX5_insides_100 rfl ?_
          refine j_icmp_gt_t (tgt := 159) C dX5_insides_102 (by decide) (mI_end (by omega)) ?_
          have ek : 29 = j := by omega
          subst ek
          refine j_eq (lv' := [(5, .int (mI (29))), (4, .int (mI k)), (3, .int (iD (gT (nI n)) (k + 1))), (0, .ref mo), (1, .int (nI i)), (2, .int (nI 2))]) rfl rfl rfl ?_
          refine j_iinc (lv' := [(4, .int (mI (k + 1))), (5, .int (mI (29))), (3, .int (iD (gT (nI n)) (k + 1))), (0, .ref mo), (1, .int (nI i)), (2, .int (nI 2))]) C dX5_insides_159 rfl (mI_s _) (by decide) rfl ?_
          refine j_goto (tgt := 64) C dX5_insides_162 (by decide) ?_
          refine j_lv (lv' := [(4, .int (mI (k + 1))), (3, .int (iD (gT (nI n)) (k + 1))), (0, .ref mo), (1, .int (nI i)), (2, .int (nI 2))]) (by simp only [List.mem_cons, List.not_mem_nil, or_false, forall_eq_or_imp, forall_eq, true_or, or_true, and_self, Nat.add_zero]) ?_
          exact ih64 (k + 1)  (by omega)
        | succ r ih98 =>
          intro j  hk98 
          refine j_iload C dX5_insides_98 rfl ?_
          refine j_bipush (v := (nI 26)) C dX5_insides_100 rfl ?_
          refine j_icmp_gt_f (tgt := 159) C dX5_insides_102 (by decide) (mI_in (by omega)) ?_
          refine j_iload_n C dX5_insides_105 rfl ?_
          refine j_ifn_le_f (tgt := 159) C dX5_insides_106 (by decide) (by omega) (by omega) ?_
          refine j_iload_n C dX5_insides_109 rfl ?_
          refine j_iload_n C dX5_insides_110 rfl ?_
          refine j_iconst (v := (nI 1)) C dX5_insides_111 rfl ?_
          refine j_icmpn_ne_t (tgt := 133) C dX5_insides_112 (by decide) (by omega) (by omega) (by omega) ?_
          refine j_iload C dX5_insides_133 rfl ?_
          refine j_i2l (v := (mI k).toInt64) C dX5_insides_135 rfl ?_
          refine j_iload C dX5_insides_136 rfl ?_
          refine j_i2l (v := (mI j).toInt64) C dX5_insides_138 rfl ?_
          refine j_aload_n C dX5_insides_139 rfl ?_
          refine j_iload_n C dX5_insides_140 rfl ?_
          refine j_callVr C 6 (v := .int (nI n)) (w := (mW E x0 x1 x2 x3 x4 x5 mo ou (nI 0) re ak gv kn ro LL ff)) (m_many_k l E A (by omega) hrai hmai hfai (by omega)) ok_X5_many w_970 (by decide) rfl rfl (Nat.le_of_ble_eq_true rfl) rfl rfl ⟨Nat.le_of_ble_eq_true rfl, Nat.le_of_ble_eq_true rfl⟩ dX5_insides_141 ?_
          refine j_i2l (v := (nI n).toInt64) C dX5_insides_144 rfl ?_
          refine j_callSr C (v := .int (bI (¬ ((mI k).toInt64) < 0 ∧ ¬ ((mI j).toInt64) < 0 ∧ ¬ ((nI n).toInt64) < 0 ∧ ¬ ((nI n).toInt64) < ((mI k).toInt64) + ((mI j).toInt64)))) (w := (mW E x0 x1 x2 x3 x4 x5 mo ou (nI 0) re ak gv kn ro LL ff)) (m_isStretch l E A) ok_X5_isStretch w_1003 (by decide) rfl rfl (Nat.le_of_ble_eq_true rfl) ⟨Nat.le_of_ble_eq_true rfl, Nat.le_of_ble_eq_true rfl⟩ dX5_insides_145 ?_
          refine j_callSr C (v := .int (bI (¬ ((mI k).toInt64) < 0 ∧ ¬ ((mI j).toInt64) < 0 ∧ ¬ ((nI n).toInt64) < 0 ∧ ¬ ((nI n).toInt64) < ((mI k).toInt64) + ((mI j).toInt64)))) (w := (mW E x0 x1 x2 x3 x4 x5 mo ou (nI 0) re ak gv kn ro LL ff)) (m_one l E A) ok_X5_one w_956 (by decide) rfl rfl (Nat.le_of_ble_eq_true rfl) ⟨Nat.le_of_ble_eq_true rfl, Nat.le_of_ble_eq_true rfl⟩ dX5_insides_148 ?_
          refine j_iadd (z := ((iD (gT (nI n)) k + iC (gT (nI n) k) j) + (bI (¬ ((mI k).toInt64) < 0 ∧ ¬ ((mI j).toInt64) < 0 ∧ ¬ ((nI n).toInt64) < 0 ∧ ¬ ((nI n).toInt64) < ((mI k).toInt64) + ((mI j).toInt64))))) C dX5_insides_151 rfl ?_
          refine j_istore_n (lv' := [(3, .int ((iD (gT (nI n)) k + iC (gT (nI n) k) j) + (bI (¬ ((mI k).toInt64) < 0 ∧ ¬ ((mI j).toInt64) < 0 ∧ ¬ ((nI n).toInt64) < 0 ∧ ¬ ((nI n).toInt64) < ((mI k).toInt64) + ((mI j).toInt64))))), (5, .int (mI j)), (4, .int (mI k)), (0, .ref mo), (1, .int (nI i)), (2, .int (nI 2))]) C dX5_insides_152 (by decide) rfl ?_
          refine j_iinc (lv' := [(5, .int (mI (j + 1))), (3, .int ((iD (gT (nI n)) k + iC (gT (nI n) k) j) + (bI (¬ ((mI k).toInt64) < 0 ∧ ¬ ((mI j).toInt64) < 0 ∧ ¬ ((nI n).toInt64) < 0 ∧ ¬ ((nI n).toInt64) < ((mI k).toInt64) + ((mI j).toInt64))))), (4, .int (mI k)), (0, .ref mo), (1, .int (nI i)), (2, .int (nI 2))]) C dX5_insides_153 rfl (mI_s _) (by decide) rfl ?_
          refine j_goto (tgt := 98) C dX5_insides_156 (by decide) ?_
          refine j_eq (lv' := [(5, .int (mI (j + 1))), (3, .int (iD (gT (nI n)) k + iC (gT (nI n) k) (j + 1))), (4, .int (mI k)), (0, .ref mo), (1, .int (nI i)), (2, .int (nI 2))]) (by rw [iD_b (f := gT (nI n)) _ rfl]) rfl rfl ?_
          refine j_lv (lv' := [(5, .int (mI (j + 1))), (4, .int (mI k)), (3, .int (iD (gT (nI n)) k + iC (gT (nI n) k) (j + 1))), (0, .ref mo), (1, .int (nI i)), (2, .int (nI 2))]) (by simp only [List.mem_cons, List.not_mem_nil, or_false, forall_eq_or_imp, forall_eq, true_or, or_true, and_self, Nat.add_zero]) ?_
          exact ih98 (j + 1)  (by omega)
      refine j_eq (lv' := [(5, .int (mI 0)), (4, .int (mI k)), (3, .int (iD (gT (nI n)) k)), (0, .ref mo), (1, .int (nI i)), (2, .int (nI 2))]) rfl rfl rfl ?_
      refine j_eq (lv' := [(5, .int (mI 0)), (4, .int (mI k)), (3, .int (iD (gT (nI n)) k + iC (gT (nI n) k) 0)), (0, .ref mo), (1, .int (nI i)), (2, .int (nI 2))]) (by rw [show iD (gT (nI n)) k + iC (gT (nI n) k) 0 = iD (gT (nI n)) k from Int32.add_zero _]) rfl rfl ?_
      refine j_lv (lv' := [(5, .int (mI 0)), (4, .int (mI k)), (3, .int (iD (gT (nI n)) k + iC (gT (nI n) k) 0)), (0, .ref mo), (1, .int (nI i)), (2, .int (nI 2))]) (by simp only [List.mem_cons, List.not_mem_nil, or_false, forall_eq_or_imp, forall_eq, true_or, or_true, and_self, Nat.add_zero]) ?_
      exact L98 29 0  (by omega)
  refine j_eq (lv' := [(4, .int (mI 0)), (3, .int (nI 0)), (0, .ref mo), (1, .int (nI i)), (2, .int (nI 2))]) rfl rfl rfl ?_
  refine j_eq (lv' := [(4, .int (mI 0)), (3, .int (iD (gT (nI n)) 0)), (0, .ref mo), (1, .int (nI i)), (2, .int (nI 2))]) rfl rfl rfl ?_
  refine j_lv (lv' := [(4, .int (mI 0)), (3, .int (iD (gT (nI n)) 0)), (0, .ref mo), (1, .int (nI i)), (2, .int (nI 2))]) (by simp only [List.mem_cons, List.not_mem_nil, or_false, forall_eq_or_imp, forall_eq, true_or, or_true, and_self, Nat.add_zero]) ?_
  exact L64 29 0  (by omega)
theorem g_insides_k (l : Launch) (E : jE) (A : Nat → Prop) {x0 x1 x2 x3 x4 x5 : Nat × va_E} {mo ou : Nat} {th re ak gv kn : Int32} {ro : Nat → Option Nat} {LL : List Nat} {ff : Nat → va_E} {i w : Nat} (hi : i < 9) (hw : w ≤ 2) {ai n : Nat} {h : Nat → Int32} (hrai : ro i = some ai) (hmai : ai ∈ LL) (hfai : ff ai = .inl (E.2.1, n, .inl h)) (hnai : n ≤ 24) : jMet l yX5_insides cX5_insides 6 (some .int) 5 0 0 E A [.ref mo, .int (nI i), .int (nI w)] (mW E x0 x1 x2 x3 x4 x5 mo ou th re ak gv kn ro LL ff) (jR (some (.int (insM (nI n) w))) (mW E x0 x1 x2 x3 x4 x5 mo ou (nI 0) re ak gv kn ro LL ff)) jNo := by
  obtain rfl | rfl | rfl : w = 0 ∨ w = 1 ∨ w = 2 := by omega
  · exact g_insides_k0 l E A hi hrai hmai hfai hnai
  · exact g_insides_k1 l E A hi hrai hmai hfai hnai
  · exact g_insides_k2 l E A hi hrai hmai hfai hnai
set_option maxHeartbeats 4000000 in
set_option maxRecDepth 100000 in
theorem m_isWhole (l : Launch) (E : jE) (A : Nat → Prop) {x0 x1 x2 x3 x4 x5 : Nat × va_E} {mo ou : Nat} {th re ak gv kn : Int32} {ro : Nat → Option Nat} {LL : List Nat} {ff : Nat → va_E} {z g : Nat → Int32} (hR : Rel E z g ro LL ff)  : jMet l yX5_isWhole cX5_isWhole 5 (some .boolean) 4 0 0 E A [.ref mo] (mW E x0 x1 x2 x3 x4 x5 mo ou th re ak gv kn ro LL ff) (jRe P01 (mW E x0 x1 x2 x3 x4 x5 mo ou th re ak gv kn ro LL ff)) jNo := by
  refine jMet.intro' [(0, .ref mo)] (by decide) (Nat.le_of_ble_eq_true rfl) rfl ?_
  intro p e R s m args below meth c Q C hQ
  refine j_iconst (v := (nI 1)) C dX5_isWhole_0 rfl ?_
  refine j_istore_n (lv' := [(1, .int (nI 1)), (0, .ref mo)]) C dX5_isWhole_1 (by decide) rfl ?_
  refine j_iconst (v := (nI 0)) C dX5_isWhole_2 rfl ?_
  refine j_istore_n (lv' := [(2, .int (nI 0)), (1, .int (nI 1)), (0, .ref mo)]) C dX5_isWhole_3 (by decide) rfl ?_
  have L4 : ∀ (r k : Nat) (u : Int32), k + r = 9 → P01 u → jJ p l e R s m args below meth c E A 5 Q 0 0 4 [(2, .int (nI k)), (1, .int u), (0, .ref mo)] [] (mW E x0 x1 x2 x3 x4 x5 mo ou th re ak gv kn ro LL ff) := by
    intro r
    induction r with
    | zero =>
      intro k u hk4 hu
      refine j_iload_n C dX5_isWhole_4 rfl ?_
      refine j_bipush (v := (nI 9)) C dX5_isWhole_5 rfl ?_
      refine j_icmpn_ge_t (tgt := 191) C dX5_isWhole_7 (by decide) (by omega) (by omega) (by omega) ?_
      refine j_iload_n C dX5_isWhole_191 rfl ?_
      exact j_zret C hQ rfl (nar01 hu) dX5_isWhole_192 ⟨Nat.le_of_ble_eq_true rfl, Nat.le_of_ble_eq_true rfl⟩ ⟨⟨_, rfl, hu⟩, rfl⟩
    | succ r ih4 =>
      intro k u hk4 hu
      refine j_iload_n C dX5_isWhole_4 rfl ?_
      refine j_bipush (v := (nI 9)) C dX5_isWhole_5 rfl ?_
      refine j_icmpn_ge_f (tgt := 191) C dX5_isWhole_7 (by decide) (by omega) (by omega) (by omega) ?_
      refine j_iconst (v := (nI 0)) C dX5_isWhole_10 rfl ?_
      refine j_istore_n (lv' := [(3, .int (nI 0)), (2, .int (nI k)), (1, .int u), (0, .ref mo)]) C dX5_isWhole_11 (by decide) rfl ?_
      have L12 : ∀ (r j : Nat) (u : Int32), j + r = 9 → P01 u → jJ p l e R s m args below meth c E A 5 Q 0 0 12 [(3, .int (nI j)), (2, .int (nI k)), (1, .int u), (0, .ref mo)] [] (mW E x0 x1 x2 x3 x4 x5 mo ou th re ak gv kn ro LL ff) := by
        intro r
        induction r with
        | zero =>
          intro j u hk12 hu
          refine j_iload_n C dX5_isWhole_12 rfl ?_
          refine j_bipush (v := (nI 9)) C dX5_isWhole_13 rfl ?_
          refine j_icmpn_ge_t (tgt := 185) C dX5_isWhole_15 (by decide) (by omega) (by omega) (by omega) ?_
          refine j_iinc (lv' := [(2, .int (nI (k + 1))), (3, .int (nI j)), (1, .int u), (0, .ref mo)]) C dX5_isWhole_185 rfl (nI_1 _) (by decide) rfl ?_
          refine j_goto (tgt := 4) C dX5_isWhole_188 (by decide) ?_
          refine j_lv (lv' := [(2, .int (nI (k + 1))), (1, .int u), (0, .ref mo)]) (by simp only [List.mem_cons, List.not_mem_nil, or_false, forall_eq_or_imp, forall_eq, true_or, or_true, and_self, Nat.add_zero]) ?_
          exact ih4 (k + 1) _ (by omega) (by first | exact hu | exact and01 hu (Or.inl rfl) | exact and01 hu (Or.inr rfl) | exact Or.inr rfl)
        | succ r ih12 =>
          intro j u hk12 hu
          refine j_iload_n C dX5_isWhole_12 rfl ?_
          refine j_bipush (v := (nI 9)) C dX5_isWhole_13 rfl ?_
          refine j_icmpn_ge_f (tgt := 185) C dX5_isWhole_15 (by decide) (by omega) (by omega) (by omega) ?_
          refine j_iconst (v := (nI 0)) C dX5_isWhole_18 rfl ?_
          refine j_istore (lv' := [(4, .int (nI 0)), (3, .int (nI j)), (2, .int (nI k)), (1, .int u), (0, .ref mo)]) C dX5_isWhole_19 (by decide) rfl ?_
          have L21 : ∀ (r o : Nat) (u : Int32), o + r = 4 → P01 u → jJ p l e R s m args below meth c E A 5 Q 0 0 21 [(4, .int (nI o)), (3, .int (nI j)), (2, .int (nI k)), (1, .int u), (0, .ref mo)] [] (mW E x0 x1 x2 x3 x4 x5 mo ou th re ak gv kn ro LL ff) := by
            intro r
            induction r with
            | zero =>
              intro o u hk21 hu
              refine j_iload C dX5_isWhole_21 rfl ?_
              refine j_iconst (v := (nI 4)) C dX5_isWhole_23 rfl ?_
              refine j_icmpn_ge_t (tgt := 61) C dX5_isWhole_24 (by decide) (by omega) (by omega) (by omega) ?_
              refine j_iload_n C dX5_isWhole_61 rfl ?_
              refine j_aload_n C dX5_isWhole_62 rfl ?_
              refine j_iload_n C dX5_isWhole_63 rfl ?_
              refine j_iload_n C dX5_isWhole_64 rfl ?_
              refine j_iconst (v := (nI 0)) C dX5_isWhole_65 rfl ?_
              refine j_callVr C 6 (v := .int (ordV z g k j 0)) (w := (mW E x0 x1 x2 x3 x4 x5 mo ou th re ak gv kn ro LL ff)) (m_ordered l E A (by omega) (by omega) (by omega) hR) ok_X5_ordered w_1116 (by decide) rfl rfl (Nat.le_of_ble_eq_true rfl) rfl rfl ⟨Nat.le_of_ble_eq_true rfl, Nat.le_of_ble_eq_true rfl⟩ dX5_isWhole_66 ?_
              refine j_if_ne (tgt := 76) C dX5_isWhole_69 (by decide) (fun h69 => ?_) (fun h69 => ?_)
              · skip
                refine j_iconst (v := (nI 0)) C dX5_isWhole_76 rfl ?_
                refine j_aload_n C dX5_isWhole_77 rfl ?_
                refine j_iload_n C dX5_isWhole_78 rfl ?_
                refine j_iload_n C dX5_isWhole_79 rfl ?_
                refine j_callVr C 6 (v := .int (samS z g k j)) (w := (mW E x0 x1 x2 x3 x4 x5 mo ou th re ak gv kn ro LL ff)) (m_areLike l E A (by omega) (by omega) hR) ok_X5_areLike w_1162 (by decide) rfl rfl (Nat.le_of_ble_eq_true rfl) rfl rfl ⟨Nat.le_of_ble_eq_true rfl, Nat.le_of_ble_eq_true rfl⟩ dX5_isWhole_80 ?_
                refine j_icmp_ne (tgt := 120) C dX5_isWhole_83 (by decide) (fun h83 => ?_) (fun h83 => ?_)
                · skip
                  refine j_iconst (v := (nI 0)) C dX5_isWhole_120 rfl ?_
                  refine j_iand (z := (u &&& (nI 0))) C dX5_isWhole_121 rfl ?_
                  refine j_istore_n (lv' := [(1, .int (u &&& (nI 0))), (4, .int (nI o)), (3, .int (nI j)), (2, .int (nI k)), (0, .ref mo)]) C dX5_isWhole_122 (by decide) rfl ?_
                  refine j_iconst (v := (nI 0)) C dX5_isWhole_123 rfl ?_
                  refine j_istore (lv' := [(4, .int (nI 0)), (1, .int (u &&& (nI 0))), (3, .int (nI j)), (2, .int (nI k)), (0, .ref mo)]) C dX5_isWhole_124 (by decide) rfl ?_
                  have L126 : ∀ (r q : Nat) (u : Int32), q + r = 9 → P01 u → jJ p l e R s m args below meth c E A 5 Q 0 0 126 [(4, .int (nI q)), (3, .int (nI j)), (2, .int (nI k)), (1, .int u), (0, .ref mo)] [] (mW E x0 x1 x2 x3 x4 x5 mo ou th re ak gv kn ro LL ff) := by
                    intro r
                    induction r with
                    | zero =>
                      intro q u hk126 hu
                      refine j_iload C dX5_isWhole_126 rfl ?_
                      refine j_bipush (v := (nI 9)) C dX5_isWhole_128 rfl ?_
                      refine j_icmpn_ge_t (tgt := 179) C dX5_isWhole_130 (by decide) (by omega) (by omega) (by omega) ?_
                      refine j_iinc (lv' := [(3, .int (nI (j + 1))), (4, .int (nI q)), (2, .int (nI k)), (1, .int u), (0, .ref mo)]) C dX5_isWhole_179 rfl (nI_1 _) (by decide) rfl ?_
                      refine j_goto (tgt := 12) C dX5_isWhole_182 (by decide) ?_
                      refine j_lv (lv' := [(3, .int (nI (j + 1))), (2, .int (nI k)), (1, .int u), (0, .ref mo)]) (by simp only [List.mem_cons, List.not_mem_nil, or_false, forall_eq_or_imp, forall_eq, true_or, or_true, and_self, Nat.add_zero]) ?_
                      exact ih12 (j + 1) _ (by omega) (by first | exact hu | exact and01 hu (Or.inl rfl) | exact and01 hu (Or.inr rfl) | exact Or.inr rfl)
                    | succ r ih126 =>
                      intro q u hk126 hu
                      refine j_iload C dX5_isWhole_126 rfl ?_
                      refine j_bipush (v := (nI 9)) C dX5_isWhole_128 rfl ?_
                      refine j_icmpn_ge_f (tgt := 179) C dX5_isWhole_130 (by decide) (by omega) (by omega) (by omega) ?_
                      refine j_iload_n C dX5_isWhole_133 rfl ?_
                      refine j_aload_n C dX5_isWhole_134 rfl ?_
                      refine j_iload_n C dX5_isWhole_135 rfl ?_
                      refine j_iload_n C dX5_isWhole_136 rfl ?_
                      refine j_iconst (v := (nI 0)) C dX5_isWhole_137 rfl ?_
                      refine j_callVr C 6 (v := .int (ordV z g k j 0)) (w := (mW E x0 x1 x2 x3 x4 x5 mo ou th re ak gv kn ro LL ff)) (m_ordered l E A (by omega) (by omega) (by omega) hR) ok_X5_ordered w_1116 (by decide) rfl rfl (Nat.le_of_ble_eq_true rfl) rfl rfl ⟨Nat.le_of_ble_eq_true rfl, Nat.le_of_ble_eq_true rfl⟩ dX5_isWhole_138 ?_
                      refine j_if_ge (tgt := 166) C dX5_isWhole_141 (by decide) (fun h141 => ?_) (fun h141 => ?_)
                      · skip
                        refine j_iconst (v := (nI 1)) C dX5_isWhole_166 rfl ?_
                        refine j_goto (tgt := 171) C dX5_isWhole_167 (by decide) ?_
                        refine j_iand (z := (u &&& (nI 1))) C dX5_isWhole_171 rfl ?_
                        refine j_istore_n (lv' := [(1, .int (u &&& (nI 1))), (4, .int (nI q)), (3, .int (nI j)), (2, .int (nI k)), (0, .ref mo)]) C dX5_isWhole_172 (by decide) rfl ?_
                        refine j_iinc (lv' := [(4, .int (nI (q + 1))), (1, .int (u &&& (nI 1))), (3, .int (nI j)), (2, .int (nI k)), (0, .ref mo)]) C dX5_isWhole_173 rfl (nI_1 _) (by decide) rfl ?_
                        refine j_goto (tgt := 126) C dX5_isWhole_176 (by decide) ?_
                        refine j_lv (lv' := [(4, .int (nI (q + 1))), (3, .int (nI j)), (2, .int (nI k)), (1, .int (u &&& (nI 1))), (0, .ref mo)]) (by simp only [List.mem_cons, List.not_mem_nil, or_false, forall_eq_or_imp, forall_eq, true_or, or_true, and_self, Nat.add_zero]) ?_
                        exact ih126 (q + 1) _ (by omega) (by first | exact hu | exact and01 hu (Or.inl rfl) | exact and01 hu (Or.inr rfl) | exact Or.inr rfl)
                      · skip
                        refine j_aload_n C dX5_isWhole_144 rfl ?_
                        refine j_iload_n C dX5_isWhole_145 rfl ?_
                        refine j_iload C dX5_isWhole_146 rfl ?_
                        refine j_iconst (v := (nI 0)) C dX5_isWhole_148 rfl ?_
                        refine j_callVr C 6 (v := .int (ordV z g j q 0)) (w := (mW E x0 x1 x2 x3 x4 x5 mo ou th re ak gv kn ro LL ff)) (m_ordered l E A (by omega) (by omega) (by omega) hR) ok_X5_ordered w_1116 (by decide) rfl rfl (Nat.le_of_ble_eq_true rfl) rfl rfl ⟨Nat.le_of_ble_eq_true rfl, Nat.le_of_ble_eq_true rfl⟩ dX5_isWhole_149 ?_
                        refine j_if_ge (tgt := 166) C dX5_isWhole_152 (by decide) (fun h152 => ?_) (fun h152 => ?_)
                        · skip
                          refine j_iconst (v := (nI 1)) C dX5_isWhole_166 rfl ?_
                          refine j_goto (tgt := 171) C dX5_isWhole_167 (by decide) ?_
                          refine j_iand (z := (u &&& (nI 1))) C dX5_isWhole_171 rfl ?_
                          refine j_istore_n (lv' := [(1, .int (u &&& (nI 1))), (4, .int (nI q)), (3, .int (nI j)), (2, .int (nI k)), (0, .ref mo)]) C dX5_isWhole_172 (by decide) rfl ?_
                          refine j_iinc (lv' := [(4, .int (nI (q + 1))), (1, .int (u &&& (nI 1))), (3, .int (nI j)), (2, .int (nI k)), (0, .ref mo)]) C dX5_isWhole_173 rfl (nI_1 _) (by decide) rfl ?_
                          refine j_goto (tgt := 126) C dX5_isWhole_176 (by decide) ?_
                          refine j_lv (lv' := [(4, .int (nI (q + 1))), (3, .int (nI j)), (2, .int (nI k)), (1, .int (u &&& (nI 1))), (0, .ref mo)]) (by simp only [List.mem_cons, List.not_mem_nil, or_false, forall_eq_or_imp, forall_eq, true_or, or_true, and_self, Nat.add_zero]) ?_
                          exact ih126 (q + 1) _ (by omega) (by first | exact hu | exact and01 hu (Or.inl rfl) | exact and01 hu (Or.inr rfl) | exact Or.inr rfl)
                        · skip
                          refine j_aload_n C dX5_isWhole_155 rfl ?_
                          refine j_iload_n C dX5_isWhole_156 rfl ?_
                          refine j_iload C dX5_isWhole_157 rfl ?_
                          refine j_iconst (v := (nI 0)) C dX5_isWhole_159 rfl ?_
                          refine j_callVr C 6 (v := .int (ordV z g k q 0)) (w := (mW E x0 x1 x2 x3 x4 x5 mo ou th re ak gv kn ro LL ff)) (m_ordered l E A (by omega) (by omega) (by omega) hR) ok_X5_ordered w_1116 (by decide) rfl rfl (Nat.le_of_ble_eq_true rfl) rfl rfl ⟨Nat.le_of_ble_eq_true rfl, Nat.le_of_ble_eq_true rfl⟩ dX5_isWhole_160 ?_
                          refine j_if_ge (tgt := 170) C dX5_isWhole_163 (by decide) (fun h163 => ?_) (fun h163 => ?_)
                          · skip
                            refine j_iconst (v := (nI 0)) C dX5_isWhole_170 rfl ?_
                            refine j_iand (z := (u &&& (nI 0))) C dX5_isWhole_171 rfl ?_
                            refine j_istore_n (lv' := [(1, .int (u &&& (nI 0))), (4, .int (nI q)), (3, .int (nI j)), (2, .int (nI k)), (0, .ref mo)]) C dX5_isWhole_172 (by decide) rfl ?_
                            refine j_iinc (lv' := [(4, .int (nI (q + 1))), (1, .int (u &&& (nI 0))), (3, .int (nI j)), (2, .int (nI k)), (0, .ref mo)]) C dX5_isWhole_173 rfl (nI_1 _) (by decide) rfl ?_
                            refine j_goto (tgt := 126) C dX5_isWhole_176 (by decide) ?_
                            refine j_lv (lv' := [(4, .int (nI (q + 1))), (3, .int (nI j)), (2, .int (nI k)), (1, .int (u &&& (nI 0))), (0, .ref mo)]) (by simp only [List.mem_cons, List.not_mem_nil, or_false, forall_eq_or_imp, forall_eq, true_or, or_true, and_self, Nat.add_zero]) ?_
                            exact ih126 (q + 1) _ (by omega) (by first | exact hu | exact and01 hu (Or.inl rfl) | exact and01 hu (Or.inr rfl) | exact Or.inr rfl)
                          · skip
                            refine j_iconst (v := (nI 1)) C dX5_isWhole_166 rfl ?_
                            refine j_goto (tgt := 171) C dX5_isWhole_167 (by decide) ?_
                            refine j_iand (z := (u &&& (nI 1))) C dX5_isWhole_171 rfl ?_
                            refine j_istore_n (lv' := [(1, .int (u &&& (nI 1))), (4, .int (nI q)), (3, .int (nI j)), (2, .int (nI k)), (0, .ref mo)]) C dX5_isWhole_172 (by decide) rfl ?_
                            refine j_iinc (lv' := [(4, .int (nI (q + 1))), (1, .int (u &&& (nI 1))), (3, .int (nI j)), (2, .int (nI k)), (0, .ref mo)]) C dX5_isWhole_173 rfl (nI_1 _) (by decide) rfl ?_
                            refine j_goto (tgt := 126) C dX5_isWhole_176 (by decide) ?_
                            refine j_lv (lv' := [(4, .int (nI (q + 1))), (3, .int (nI j)), (2, .int (nI k)), (1, .int (u &&& (nI 1))), (0, .ref mo)]) (by simp only [List.mem_cons, List.not_mem_nil, or_false, forall_eq_or_imp, forall_eq, true_or, or_true, and_self, Nat.add_zero]) ?_
                            exact ih126 (q + 1) _ (by omega) (by first | exact hu | exact and01 hu (Or.inl rfl) | exact and01 hu (Or.inr rfl) | exact Or.inr rfl)
                  refine j_lv (lv' := [(4, .int (nI 0)), (3, .int (nI j)), (2, .int (nI k)), (1, .int (u &&& (nI 0))), (0, .ref mo)]) (by simp only [List.mem_cons, List.not_mem_nil, or_false, forall_eq_or_imp, forall_eq, true_or, or_true, and_self, Nat.add_zero]) ?_
                  exact L126 9 0 _ (by omega) (by first | exact hu | exact and01 hu (Or.inl rfl) | exact and01 hu (Or.inr rfl) | exact Or.inr rfl)
                · skip
                  refine j_aload_n C dX5_isWhole_86 rfl ?_
                  refine j_iload_n C dX5_isWhole_87 rfl ?_
                  refine j_iload_n C dX5_isWhole_88 rfl ?_
                  refine j_callVr C 6 (v := .int (samS z g k j)) (w := (mW E x0 x1 x2 x3 x4 x5 mo ou th re ak gv kn ro LL ff)) (m_areLike l E A (by omega) (by omega) hR) ok_X5_areLike w_1162 (by decide) rfl rfl (Nat.le_of_ble_eq_true rfl) rfl rfl ⟨Nat.le_of_ble_eq_true rfl, Nat.le_of_ble_eq_true rfl⟩ dX5_isWhole_89 ?_
                  refine j_if_eq (tgt := 116) C dX5_isWhole_92 (by decide) (fun h92 => ?_) (fun h92 => ?_)
                  · skip
                    refine j_iconst (v := (nI 1)) C dX5_isWhole_116 rfl ?_
                    refine j_goto (tgt := 121) C dX5_isWhole_117 (by decide) ?_
                    refine j_iand (z := (u &&& (nI 1))) C dX5_isWhole_121 rfl ?_
                    refine j_istore_n (lv' := [(1, .int (u &&& (nI 1))), (4, .int (nI o)), (3, .int (nI j)), (2, .int (nI k)), (0, .ref mo)]) C dX5_isWhole_122 (by decide) rfl ?_
                    refine j_iconst (v := (nI 0)) C dX5_isWhole_123 rfl ?_
                    refine j_istore (lv' := [(4, .int (nI 0)), (1, .int (u &&& (nI 1))), (3, .int (nI j)), (2, .int (nI k)), (0, .ref mo)]) C dX5_isWhole_124 (by decide) rfl ?_
                    have L126 : ∀ (r q : Nat) (u : Int32), q + r = 9 → P01 u → jJ p l e R s m args below meth c E A 5 Q 0 0 126 [(4, .int (nI q)), (3, .int (nI j)), (2, .int (nI k)), (1, .int u), (0, .ref mo)] [] (mW E x0 x1 x2 x3 x4 x5 mo ou th re ak gv kn ro LL ff) := by
                      intro r
                      induction r with
                      | zero =>
                        intro q u hk126 hu
                        refine j_iload C dX5_isWhole_126 rfl ?_
                        refine j_bipush (v := (nI 9)) C dX5_isWhole_128 rfl ?_
                        refine j_icmpn_ge_t (tgt := 179) C dX5_isWhole_130 (by decide) (by omega) (by omega) (by omega) ?_
                        refine j_iinc (lv' := [(3, .int (nI (j + 1))), (4, .int (nI q)), (2, .int (nI k)), (1, .int u), (0, .ref mo)]) C dX5_isWhole_179 rfl (nI_1 _) (by decide) rfl ?_
                        refine j_goto (tgt := 12) C dX5_isWhole_182 (by decide) ?_
                        refine j_lv (lv' := [(3, .int (nI (j + 1))), (2, .int (nI k)), (1, .int u), (0, .ref mo)]) (by simp only [List.mem_cons, List.not_mem_nil, or_false, forall_eq_or_imp, forall_eq, true_or, or_true, and_self, Nat.add_zero]) ?_
                        exact ih12 (j + 1) _ (by omega) (by first | exact hu | exact and01 hu (Or.inl rfl) | exact and01 hu (Or.inr rfl) | exact Or.inr rfl)
                      | succ r ih126 =>
                        intro q u hk126 hu
                        refine j_iload C dX5_isWhole_126 rfl ?_
                        refine j_bipush (v := (nI 9)) C dX5_isWhole_128 rfl ?_
                        refine j_icmpn_ge_f (tgt := 179) C dX5_isWhole_130 (by decide) (by omega) (by omega) (by omega) ?_
                        refine j_iload_n C dX5_isWhole_133 rfl ?_
                        refine j_aload_n C dX5_isWhole_134 rfl ?_
                        refine j_iload_n C dX5_isWhole_135 rfl ?_
                        refine j_iload_n C dX5_isWhole_136 rfl ?_
                        refine j_iconst (v := (nI 0)) C dX5_isWhole_137 rfl ?_
                        refine j_callVr C 6 (v := .int (ordV z g k j 0)) (w := (mW E x0 x1 x2 x3 x4 x5 mo ou th re ak gv kn ro LL ff)) (m_ordered l E A (by omega) (by omega) (by omega) hR) ok_X5_ordered w_1116 (by decide) rfl rfl (Nat.le_of_ble_eq_true rfl) rfl rfl ⟨Nat.le_of_ble_eq_true rfl, Nat.le_of_ble_eq_true rfl⟩ dX5_isWhole_138 ?_
                        refine j_if_ge (tgt := 166) C dX5_isWhole_141 (by decide) (fun h141 => ?_) (fun h141 => ?_)
                        · skip
                          refine j_iconst (v := (nI 1)) C dX5_isWhole_166 rfl ?_
                          refine j_goto (tgt := 171) C dX5_isWhole_167 (by decide) ?_
                          refine j_iand (z := (u &&& (nI 1))) C dX5_isWhole_171 rfl ?_
                          refine j_istore_n (lv' := [(1, .int (u &&& (nI 1))), (4, .int (nI q)), (3, .int (nI j)), (2, .int (nI k)), (0, .ref mo)]) C dX5_isWhole_172 (by decide) rfl ?_
                          refine j_iinc (lv' := [(4, .int (nI (q + 1))), (1, .int (u &&& (nI 1))), (3, .int (nI j)), (2, .int (nI k)), (0, .ref mo)]) C dX5_isWhole_173 rfl (nI_1 _) (by decide) rfl ?_
                          refine j_goto (tgt := 126) C dX5_isWhole_176 (by decide) ?_
                          refine j_lv (lv' := [(4, .int (nI (q + 1))), (3, .int (nI j)), (2, .int (nI k)), (1, .int (u &&& (nI 1))), (0, .ref mo)]) (by simp only [List.mem_cons, List.not_mem_nil, or_false, forall_eq_or_imp, forall_eq, true_or, or_true, and_self, Nat.add_zero]) ?_
                          exact ih126 (q + 1) _ (by omega) (by first | exact hu | exact and01 hu (Or.inl rfl) | exact and01 hu (Or.inr rfl) | exact Or.inr rfl)
                        · skip
                          refine j_aload_n C dX5_isWhole_144 rfl ?_
                          refine j_iload_n C dX5_isWhole_145 rfl ?_
                          refine j_iload C dX5_isWhole_146 rfl ?_
                          refine j_iconst (v := (nI 0)) C dX5_isWhole_148 rfl ?_
                          refine j_callVr C 6 (v := .int (ordV z g j q 0)) (w := (mW E x0 x1 x2 x3 x4 x5 mo ou th re ak gv kn ro LL ff)) (m_ordered l E A (by omega) (by omega) (by omega) hR) ok_X5_ordered w_1116 (by decide) rfl rfl (Nat.le_of_ble_eq_true rfl) rfl rfl ⟨Nat.le_of_ble_eq_true rfl, Nat.le_of_ble_eq_true rfl⟩ dX5_isWhole_149 ?_
                          refine j_if_ge (tgt := 166) C dX5_isWhole_152 (by decide) (fun h152 => ?_) (fun h152 => ?_)
                          · skip
                            refine j_iconst (v := (nI 1)) C dX5_isWhole_166 rfl ?_
                            refine j_goto (tgt := 171) C dX5_isWhole_167 (by decide) ?_
                            refine j_iand (z := (u &&& (nI 1))) C dX5_isWhole_171 rfl ?_
                            refine j_istore_n (lv' := [(1, .int (u &&& (nI 1))), (4, .int (nI q)), (3, .int (nI j)), (2, .int (nI k)), (0, .ref mo)]) C dX5_isWhole_172 (by decide) rfl ?_
                            refine j_iinc (lv' := [(4, .int (nI (q + 1))), (1, .int (u &&& (nI 1))), (3, .int (nI j)), (2, .int (nI k)), (0, .ref mo)]) C dX5_isWhole_173 rfl (nI_1 _) (by decide) rfl ?_
                            refine j_goto (tgt := 126) C dX5_isWhole_176 (by decide) ?_
                            refine j_lv (lv' := [(4, .int (nI (q + 1))), (3, .int (nI j)), (2, .int (nI k)), (1, .int (u &&& (nI 1))), (0, .ref mo)]) (by simp only [List.mem_cons, List.not_mem_nil, or_false, forall_eq_or_imp, forall_eq, true_or, or_true, and_self, Nat.add_zero]) ?_
                            exact ih126 (q + 1) _ (by omega) (by first | exact hu | exact and01 hu (Or.inl rfl) | exact and01 hu (Or.inr rfl) | exact Or.inr rfl)
                          · skip
                            refine j_aload_n C dX5_isWhole_155 rfl ?_
                            refine j_iload_n C dX5_isWhole_156 rfl ?_
                            refine j_iload C dX5_isWhole_157 rfl ?_
                            refine j_iconst (v := (nI 0)) C dX5_isWhole_159 rfl ?_
                            refine j_callVr C 6 (v := .int (ordV z g k q 0)) (w := (mW E x0 x1 x2 x3 x4 x5 mo ou th re ak gv kn ro LL ff)) (m_ordered l E A (by omega) (by omega) (by omega) hR) ok_X5_ordered w_1116 (by decide) rfl rfl (Nat.le_of_ble_eq_true rfl) rfl rfl ⟨Nat.le_of_ble_eq_true rfl, Nat.le_of_ble_eq_true rfl⟩ dX5_isWhole_160 ?_
                            refine j_if_ge (tgt := 170) C dX5_isWhole_163 (by decide) (fun h163 => ?_) (fun h163 => ?_)
                            · skip
                              refine j_iconst (v := (nI 0)) C dX5_isWhole_170 rfl ?_
                              refine j_iand (z := (u &&& (nI 0))) C dX5_isWhole_171 rfl ?_
                              refine j_istore_n (lv' := [(1, .int (u &&& (nI 0))), (4, .int (nI q)), (3, .int (nI j)), (2, .int (nI k)), (0, .ref mo)]) C dX5_isWhole_172 (by decide) rfl ?_
                              refine j_iinc (lv' := [(4, .int (nI (q + 1))), (1, .int (u &&& (nI 0))), (3, .int (nI j)), (2, .int (nI k)), (0, .ref mo)]) C dX5_isWhole_173 rfl (nI_1 _) (by decide) rfl ?_
                              refine j_goto (tgt := 126) C dX5_isWhole_176 (by decide) ?_
                              refine j_lv (lv' := [(4, .int (nI (q + 1))), (3, .int (nI j)), (2, .int (nI k)), (1, .int (u &&& (nI 0))), (0, .ref mo)]) (by simp only [List.mem_cons, List.not_mem_nil, or_false, forall_eq_or_imp, forall_eq, true_or, or_true, and_self, Nat.add_zero]) ?_
                              exact ih126 (q + 1) _ (by omega) (by first | exact hu | exact and01 hu (Or.inl rfl) | exact and01 hu (Or.inr rfl) | exact Or.inr rfl)
                            · skip
                              refine j_iconst (v := (nI 1)) C dX5_isWhole_166 rfl ?_
                              refine j_goto (tgt := 171) C dX5_isWhole_167 (by decide) ?_
                              refine j_iand (z := (u &&& (nI 1))) C dX5_isWhole_171 rfl ?_
                              refine j_istore_n (lv' := [(1, .int (u &&& (nI 1))), (4, .int (nI q)), (3, .int (nI j)), (2, .int (nI k)), (0, .ref mo)]) C dX5_isWhole_172 (by decide) rfl ?_
                              refine j_iinc (lv' := [(4, .int (nI (q + 1))), (1, .int (u &&& (nI 1))), (3, .int (nI j)), (2, .int (nI k)), (0, .ref mo)]) C dX5_isWhole_173 rfl (nI_1 _) (by decide) rfl ?_
                              refine j_goto (tgt := 126) C dX5_isWhole_176 (by decide) ?_
                              refine j_lv (lv' := [(4, .int (nI (q + 1))), (3, .int (nI j)), (2, .int (nI k)), (1, .int (u &&& (nI 1))), (0, .ref mo)]) (by simp only [List.mem_cons, List.not_mem_nil, or_false, forall_eq_or_imp, forall_eq, true_or, or_true, and_self, Nat.add_zero]) ?_
                              exact ih126 (q + 1) _ (by omega) (by first | exact hu | exact and01 hu (Or.inl rfl) | exact and01 hu (Or.inr rfl) | exact Or.inr rfl)
                    refine j_lv (lv' := [(4, .int (nI 0)), (3, .int (nI j)), (2, .int (nI k)), (1, .int (u &&& (nI 1))), (0, .ref mo)]) (by simp only [List.mem_cons, List.not_mem_nil, or_false, forall_eq_or_imp, forall_eq, true_or, or_true, and_self, Nat.add_zero]) ?_
                    exact L126 9 0 _ (by omega) (by first | exact hu | exact and01 hu (Or.inl rfl) | exact and01 hu (Or.inr rfl) | exact Or.inr rfl)
                  · skip
                    refine j_aload_n C dX5_isWhole_95 rfl ?_
                    refine j_get C 6 rfl inj_X5 rfl 1 (by decide) w_922 rfl dX5_isWhole_96 ?_
                    refine j_iload_n C dX5_isWhole_99 rfl ?_
                    refine j_aaload (v := va_rf (ro k)) C 7 k rfl rfl (by omega) (by decide) rfl dX5_isWhole_100 ?_
                    refine j_callSr C (v := .int (codS z g k)) (w := (mW E x0 x1 x2 x3 x4 x5 mo ou th re ak gv kn ro LL ff)) (m_codS l E A hR (i := k) (by omega)) ok_X5_codeOf w_1170 (by decide) rfl rfl (Nat.le_of_ble_eq_true rfl) ⟨Nat.le_of_ble_eq_true rfl, Nat.le_of_ble_eq_true rfl⟩ dX5_isWhole_101 ?_
                    refine j_aload_n C dX5_isWhole_104 rfl ?_
                    refine j_get C 6 rfl inj_X5 rfl 1 (by decide) w_922 rfl dX5_isWhole_105 ?_
                    refine j_iload_n C dX5_isWhole_108 rfl ?_
                    refine j_aaload (v := va_rf (ro j)) C 7 j rfl rfl (by omega) (by decide) rfl dX5_isWhole_109 ?_
                    refine j_callSr C (v := .int (codS z g j)) (w := (mW E x0 x1 x2 x3 x4 x5 mo ou th re ak gv kn ro LL ff)) (m_codS l E A hR (i := j) (by omega)) ok_X5_codeOf w_1170 (by decide) rfl rfl (Nat.le_of_ble_eq_true rfl) ⟨Nat.le_of_ble_eq_true rfl, Nat.le_of_ble_eq_true rfl⟩ dX5_isWhole_110 ?_
                    refine j_icmp_ne (tgt := 120) C dX5_isWhole_113 (by decide) (fun h113 => ?_) (fun h113 => ?_)
                    · skip
                      refine j_iconst (v := (nI 0)) C dX5_isWhole_120 rfl ?_
                      refine j_iand (z := (u &&& (nI 0))) C dX5_isWhole_121 rfl ?_
                      refine j_istore_n (lv' := [(1, .int (u &&& (nI 0))), (4, .int (nI o)), (3, .int (nI j)), (2, .int (nI k)), (0, .ref mo)]) C dX5_isWhole_122 (by decide) rfl ?_
                      refine j_iconst (v := (nI 0)) C dX5_isWhole_123 rfl ?_
                      refine j_istore (lv' := [(4, .int (nI 0)), (1, .int (u &&& (nI 0))), (3, .int (nI j)), (2, .int (nI k)), (0, .ref mo)]) C dX5_isWhole_124 (by decide) rfl ?_
                      have L126 : ∀ (r q : Nat) (u : Int32), q + r = 9 → P01 u → jJ p l e R s m args below meth c E A 5 Q 0 0 126 [(4, .int (nI q)), (3, .int (nI j)), (2, .int (nI k)), (1, .int u), (0, .ref mo)] [] (mW E x0 x1 x2 x3 x4 x5 mo ou th re ak gv kn ro LL ff) := by
                        intro r
                        induction r with
                        | zero =>
                          intro q u hk126 hu
                          refine j_iload C dX5_isWhole_126 rfl ?_
                          refine j_bipush (v := (nI 9)) C dX5_isWhole_128 rfl ?_
                          refine j_icmpn_ge_t (tgt := 179) C dX5_isWhole_130 (by decide) (by omega) (by omega) (by omega) ?_
                          refine j_iinc (lv' := [(3, .int (nI (j + 1))), (4, .int (nI q)), (2, .int (nI k)), (1, .int u), (0, .ref mo)]) C dX5_isWhole_179 rfl (nI_1 _) (by decide) rfl ?_
                          refine j_goto (tgt := 12) C dX5_isWhole_182 (by decide) ?_
                          refine j_lv (lv' := [(3, .int (nI (j + 1))), (2, .int (nI k)), (1, .int u), (0, .ref mo)]) (by simp only [List.mem_cons, List.not_mem_nil, or_false, forall_eq_or_imp, forall_eq, true_or, or_true, and_self, Nat.add_zero]) ?_
                          exact ih12 (j + 1) _ (by omega) (by first | exact hu | exact and01 hu (Or.inl rfl) | exact and01 hu (Or.inr rfl) | exact Or.inr rfl)
                        | succ r ih126 =>
                          intro q u hk126 hu
                          refine j_iload C dX5_isWhole_126 rfl ?_
                          refine j_bipush (v := (nI 9)) C dX5_isWhole_128 rfl ?_
                          refine j_icmpn_ge_f (tgt := 179) C dX5_isWhole_130 (by decide) (by omega) (by omega) (by omega) ?_
                          refine j_iload_n C dX5_isWhole_133 rfl ?_
                          refine j_aload_n C dX5_isWhole_134 rfl ?_
                          refine j_iload_n C dX5_isWhole_135 rfl ?_
                          refine j_iload_n C dX5_isWhole_136 rfl ?_
                          refine j_iconst (v := (nI 0)) C dX5_isWhole_137 rfl ?_
                          refine j_callVr C 6 (v := .int (ordV z g k j 0)) (w := (mW E x0 x1 x2 x3 x4 x5 mo ou th re ak gv kn ro LL ff)) (m_ordered l E A (by omega) (by omega) (by omega) hR) ok_X5_ordered w_1116 (by decide) rfl rfl (Nat.le_of_ble_eq_true rfl) rfl rfl ⟨Nat.le_of_ble_eq_true rfl, Nat.le_of_ble_eq_true rfl⟩ dX5_isWhole_138 ?_
                          refine j_if_ge (tgt := 166) C dX5_isWhole_141 (by decide) (fun h141 => ?_) (fun h141 => ?_)
                          · skip
                            refine j_iconst (v := (nI 1)) C dX5_isWhole_166 rfl ?_
                            refine j_goto (tgt := 171) C dX5_isWhole_167 (by decide) ?_
                            refine j_iand (z := (u &&& (nI 1))) C dX5_isWhole_171 rfl ?_
                            refine j_istore_n (lv' := [(1, .int (u &&& (nI 1))), (4, .int (nI q)), (3, .int (nI j)), (2, .int (nI k)), (0, .ref mo)]) C dX5_isWhole_172 (by decide) rfl ?_
                            refine j_iinc (lv' := [(4, .int (nI (q + 1))), (1, .int (u &&& (nI 1))), (3, .int (nI j)), (2, .int (nI k)), (0, .ref mo)]) C dX5_isWhole_173 rfl (nI_1 _) (by decide) rfl ?_
                            refine j_goto (tgt := 126) C dX5_isWhole_176 (by decide) ?_
                            refine j_lv (lv' := [(4, .int (nI (q + 1))), (3, .int (nI j)), (2, .int (nI k)), (1, .int (u &&& (nI 1))), (0, .ref mo)]) (by simp only [List.mem_cons, List.not_mem_nil, or_false, forall_eq_or_imp, forall_eq, true_or, or_true, and_self, Nat.add_zero]) ?_
                            exact ih126 (q + 1) _ (by omega) (by first | exact hu | exact and01 hu (Or.inl rfl) | exact and01 hu (Or.inr rfl) | exact Or.inr rfl)
                          · skip
                            refine j_aload_n C dX5_isWhole_144 rfl ?_
                            refine j_iload_n C dX5_isWhole_145 rfl ?_
                            refine j_iload C dX5_isWhole_146 rfl ?_
                            refine j_iconst (v := (nI 0)) C dX5_isWhole_148 rfl ?_
                            refine j_callVr C 6 (v := .int (ordV z g j q 0)) (w := (mW E x0 x1 x2 x3 x4 x5 mo ou th re ak gv kn ro LL ff)) (m_ordered l E A (by omega) (by omega) (by omega) hR) ok_X5_ordered w_1116 (by decide) rfl rfl (Nat.le_of_ble_eq_true rfl) rfl rfl ⟨Nat.le_of_ble_eq_true rfl, Nat.le_of_ble_eq_true rfl⟩ dX5_isWhole_149 ?_
                            refine j_if_ge (tgt := 166) C dX5_isWhole_152 (by decide) (fun h152 => ?_) (fun h152 => ?_)
                            · skip
                              refine j_iconst (v := (nI 1)) C dX5_isWhole_166 rfl ?_
                              refine j_goto (tgt := 171) C dX5_isWhole_167 (by decide) ?_
                              refine j_iand (z := (u &&& (nI 1))) C dX5_isWhole_171 rfl ?_
                              refine j_istore_n (lv' := [(1, .int (u &&& (nI 1))), (4, .int (nI q)), (3, .int (nI j)), (2, .int (nI k)), (0, .ref mo)]) C dX5_isWhole_172 (by decide) rfl ?_
                              refine j_iinc (lv' := [(4, .int (nI (q + 1))), (1, .int (u &&& (nI 1))), (3, .int (nI j)), (2, .int (nI k)), (0, .ref mo)]) C dX5_isWhole_173 rfl (nI_1 _) (by decide) rfl ?_
                              refine j_goto (tgt := 126) C dX5_isWhole_176 (by decide) ?_
                              refine j_lv (lv' := [(4, .int (nI (q + 1))), (3, .int (nI j)), (2, .int (nI k)), (1, .int (u &&& (nI 1))), (0, .ref mo)]) (by simp only [List.mem_cons, List.not_mem_nil, or_false, forall_eq_or_imp, forall_eq, true_or, or_true, and_self, Nat.add_zero]) ?_
                              exact ih126 (q + 1) _ (by omega) (by first | exact hu | exact and01 hu (Or.inl rfl) | exact and01 hu (Or.inr rfl) | exact Or.inr rfl)
                            · skip
                              refine j_aload_n C dX5_isWhole_155 rfl ?_
                              refine j_iload_n C dX5_isWhole_156 rfl ?_
                              refine j_iload C dX5_isWhole_157 rfl ?_
                              refine j_iconst (v := (nI 0)) C dX5_isWhole_159 rfl ?_
                              refine j_callVr C 6 (v := .int (ordV z g k q 0)) (w := (mW E x0 x1 x2 x3 x4 x5 mo ou th re ak gv kn ro LL ff)) (m_ordered l E A (by omega) (by omega) (by omega) hR) ok_X5_ordered w_1116 (by decide) rfl rfl (Nat.le_of_ble_eq_true rfl) rfl rfl ⟨Nat.le_of_ble_eq_true rfl, Nat.le_of_ble_eq_true rfl⟩ dX5_isWhole_160 ?_
                              refine j_if_ge (tgt := 170) C dX5_isWhole_163 (by decide) (fun h163 => ?_) (fun h163 => ?_)
                              · skip
                                refine j_iconst (v := (nI 0)) C dX5_isWhole_170 rfl ?_
                                refine j_iand (z := (u &&& (nI 0))) C dX5_isWhole_171 rfl ?_
                                refine j_istore_n (lv' := [(1, .int (u &&& (nI 0))), (4, .int (nI q)), (3, .int (nI j)), (2, .int (nI k)), (0, .ref mo)]) C dX5_isWhole_172 (by decide) rfl ?_
                                refine j_iinc (lv' := [(4, .int (nI (q + 1))), (1, .int (u &&& (nI 0))), (3, .int (nI j)), (2, .int (nI k)), (0, .ref mo)]) C dX5_isWhole_173 rfl (nI_1 _) (by decide) rfl ?_
                                refine j_goto (tgt := 126) C dX5_isWhole_176 (by decide) ?_
                                refine j_lv (lv' := [(4, .int (nI (q + 1))), (3, .int (nI j)), (2, .int (nI k)), (1, .int (u &&& (nI 0))), (0, .ref mo)]) (by simp only [List.mem_cons, List.not_mem_nil, or_false, forall_eq_or_imp, forall_eq, true_or, or_true, and_self, Nat.add_zero]) ?_
                                exact ih126 (q + 1) _ (by omega) (by first | exact hu | exact and01 hu (Or.inl rfl) | exact and01 hu (Or.inr rfl) | exact Or.inr rfl)
                              · skip
                                refine j_iconst (v := (nI 1)) C dX5_isWhole_166 rfl ?_
                                refine j_goto (tgt := 171) C dX5_isWhole_167 (by decide) ?_
                                refine j_iand (z := (u &&& (nI 1))) C dX5_isWhole_171 rfl ?_
                                refine j_istore_n (lv' := [(1, .int (u &&& (nI 1))), (4, .int (nI q)), (3, .int (nI j)), (2, .int (nI k)), (0, .ref mo)]) C dX5_isWhole_172 (by decide) rfl ?_
                                refine j_iinc (lv' := [(4, .int (nI (q + 1))), (1, .int (u &&& (nI 1))), (3, .int (nI j)), (2, .int (nI k)), (0, .ref mo)]) C dX5_isWhole_173 rfl (nI_1 _) (by decide) rfl ?_
                                refine j_goto (tgt := 126) C dX5_isWhole_176 (by decide) ?_
                                refine j_lv (lv' := [(4, .int (nI (q + 1))), (3, .int (nI j)), (2, .int (nI k)), (1, .int (u &&& (nI 1))), (0, .ref mo)]) (by simp only [List.mem_cons, List.not_mem_nil, or_false, forall_eq_or_imp, forall_eq, true_or, or_true, and_self, Nat.add_zero]) ?_
                                exact ih126 (q + 1) _ (by omega) (by first | exact hu | exact and01 hu (Or.inl rfl) | exact and01 hu (Or.inr rfl) | exact Or.inr rfl)
                      refine j_lv (lv' := [(4, .int (nI 0)), (3, .int (nI j)), (2, .int (nI k)), (1, .int (u &&& (nI 0))), (0, .ref mo)]) (by simp only [List.mem_cons, List.not_mem_nil, or_false, forall_eq_or_imp, forall_eq, true_or, or_true, and_self, Nat.add_zero]) ?_
                      exact L126 9 0 _ (by omega) (by first | exact hu | exact and01 hu (Or.inl rfl) | exact and01 hu (Or.inr rfl) | exact Or.inr rfl)
                    · skip
                      refine j_iconst (v := (nI 1)) C dX5_isWhole_116 rfl ?_
                      refine j_goto (tgt := 121) C dX5_isWhole_117 (by decide) ?_
                      refine j_iand (z := (u &&& (nI 1))) C dX5_isWhole_121 rfl ?_
                      refine j_istore_n (lv' := [(1, .int (u &&& (nI 1))), (4, .int (nI o)), (3, .int (nI j)), (2, .int (nI k)), (0, .ref mo)]) C dX5_isWhole_122 (by decide) rfl ?_
                      refine j_iconst (v := (nI 0)) C dX5_isWhole_123 rfl ?_
                      refine j_istore (lv' := [(4, .int (nI 0)), (1, .int (u &&& (nI 1))), (3, .int (nI j)), (2, .int (nI k)), (0, .ref mo)]) C dX5_isWhole_124 (by decide) rfl ?_
                      have L126 : ∀ (r q : Nat) (u : Int32), q + r = 9 → P01 u → jJ p l e R s m args below meth c E A 5 Q 0 0 126 [(4, .int (nI q)), (3, .int (nI j)), (2, .int (nI k)), (1, .int u), (0, .ref mo)] [] (mW E x0 x1 x2 x3 x4 x5 mo ou th re ak gv kn ro LL ff) := by
                        intro r
                        induction r with
                        | zero =>
                          intro q u hk126 hu
                          refine j_iload C dX5_isWhole_126 rfl ?_
                          refine j_bipush (v := (nI 9)) C dX5_isWhole_128 rfl ?_
                          refine j_icmpn_ge_t (tgt := 179) C dX5_isWhole_130 (by decide) (by omega) (by omega) (by omega) ?_
                          refine j_iinc (lv' := [(3, .int (nI (j + 1))), (4, .int (nI q)), (2, .int (nI k)), (1, .int u), (0, .ref mo)]) C dX5_isWhole_179 rfl (nI_1 _) (by decide) rfl ?_
                          refine j_goto (tgt := 12) C dX5_isWhole_182 (by decide) ?_
                          refine j_lv (lv' := [(3, .int (nI (j + 1))), (2, .int (nI k)), (1, .int u), (0, .ref mo)]) (by simp only [List.mem_cons, List.not_mem_nil, or_false, forall_eq_or_imp, forall_eq, true_or, or_true, and_self, Nat.add_zero]) ?_
                          exact ih12 (j + 1) _ (by omega) (by first | exact hu | exact and01 hu (Or.inl rfl) | exact and01 hu (Or.inr rfl) | exact Or.inr rfl)
                        | succ r ih126 =>
                          intro q u hk126 hu
                          refine j_iload C dX5_isWhole_126 rfl ?_
                          refine j_bipush (v := (nI 9)) C dX5_isWhole_128 rfl ?_
                          refine j_icmpn_ge_f (tgt := 179) C dX5_isWhole_130 (by decide) (by omega) (by omega) (by omega) ?_
                          refine j_iload_n C dX5_isWhole_133 rfl ?_
                          refine j_aload_n C dX5_isWhole_134 rfl ?_
                          refine j_iload_n C dX5_isWhole_135 rfl ?_
                          refine j_iload_n C dX5_isWhole_136 rfl ?_
                          refine j_iconst (v := (nI 0)) C dX5_isWhole_137 rfl ?_
                          refine j_callVr C 6 (v := .int (ordV z g k j 0)) (w := (mW E x0 x1 x2 x3 x4 x5 mo ou th re ak gv kn ro LL ff)) (m_ordered l E A (by omega) (by omega) (by omega) hR) ok_X5_ordered w_1116 (by decide) rfl rfl (Nat.le_of_ble_eq_true rfl) rfl rfl ⟨Nat.le_of_ble_eq_true rfl, Nat.le_of_ble_eq_true rfl⟩ dX5_isWhole_138 ?_
                          refine j_if_ge (tgt := 166) C dX5_isWhole_141 (by decide) (fun h141 => ?_) (fun h141 => ?_)
                          · skip
                            refine j_iconst (v := (nI 1)) C dX5_isWhole_166 rfl ?_
                            refine j_goto (tgt := 171) C dX5_isWhole_167 (by decide) ?_
                            refine j_iand (z := (u &&& (nI 1))) C dX5_isWhole_171 rfl ?_
                            refine j_istore_n (lv' := [(1, .int (u &&& (nI 1))), (4, .int (nI q)), (3, .int (nI j)), (2, .int (nI k)), (0, .ref mo)]) C dX5_isWhole_172 (by decide) rfl ?_
                            refine j_iinc (lv' := [(4, .int (nI (q + 1))), (1, .int (u &&& (nI 1))), (3, .int (nI j)), (2, .int (nI k)), (0, .ref mo)]) C dX5_isWhole_173 rfl (nI_1 _) (by decide) rfl ?_
                            refine j_goto (tgt := 126) C dX5_isWhole_176 (by decide) ?_
                            refine j_lv (lv' := [(4, .int (nI (q + 1))), (3, .int (nI j)), (2, .int (nI k)), (1, .int (u &&& (nI 1))), (0, .ref mo)]) (by simp only [List.mem_cons, List.not_mem_nil, or_false, forall_eq_or_imp, forall_eq, true_or, or_true, and_self, Nat.add_zero]) ?_
                            exact ih126 (q + 1) _ (by omega) (by first | exact hu | exact and01 hu (Or.inl rfl) | exact and01 hu (Or.inr rfl) | exact Or.inr rfl)
                          · skip
                            refine j_aload_n C dX5_isWhole_144 rfl ?_
                            refine j_iload_n C dX5_isWhole_145 rfl ?_
                            refine j_iload C dX5_isWhole_146 rfl ?_
                            refine j_iconst (v := (nI 0)) C dX5_isWhole_148 rfl ?_
                            refine j_callVr C 6 (v := .int (ordV z g j q 0)) (w := (mW E x0 x1 x2 x3 x4 x5 mo ou th re ak gv kn ro LL ff)) (m_ordered l E A (by omega) (by omega) (by omega) hR) ok_X5_ordered w_1116 (by decide) rfl rfl (Nat.le_of_ble_eq_true rfl) rfl rfl ⟨Nat.le_of_ble_eq_true rfl, Nat.le_of_ble_eq_true rfl⟩ dX5_isWhole_149 ?_
                            refine j_if_ge (tgt := 166) C dX5_isWhole_152 (by decide) (fun h152 => ?_) (fun h152 => ?_)
                            · skip
                              refine j_iconst (v := (nI 1)) C dX5_isWhole_166 rfl ?_
                              refine j_goto (tgt := 171) C dX5_isWhole_167 (by decide) ?_
                              refine j_iand (z := (u &&& (nI 1))) C dX5_isWhole_171 rfl ?_
                              refine j_istore_n (lv' := [(1, .int (u &&& (nI 1))), (4, .int (nI q)), (3, .int (nI j)), (2, .int (nI k)), (0, .ref mo)]) C dX5_isWhole_172 (by decide) rfl ?_
                              refine j_iinc (lv' := [(4, .int (nI (q + 1))), (1, .int (u &&& (nI 1))), (3, .int (nI j)), (2, .int (nI k)), (0, .ref mo)]) C dX5_isWhole_173 rfl (nI_1 _) (by decide) rfl ?_
                              refine j_goto (tgt := 126) C dX5_isWhole_176 (by decide) ?_
                              refine j_lv (lv' := [(4, .int (nI (q + 1))), (3, .int (nI j)), (2, .int (nI k)), (1, .int (u &&& (nI 1))), (0, .ref mo)]) (by simp only [List.mem_cons, List.not_mem_nil, or_false, forall_eq_or_imp, forall_eq, true_or, or_true, and_self, Nat.add_zero]) ?_
                              exact ih126 (q + 1) _ (by omega) (by first | exact hu | exact and01 hu (Or.inl rfl) | exact and01 hu (Or.inr rfl) | exact Or.inr rfl)
                            · skip
                              refine j_aload_n C dX5_isWhole_155 rfl ?_
                              refine j_iload_n C dX5_isWhole_156 rfl ?_
                              refine j_iload C dX5_isWhole_157 rfl ?_
                              refine j_iconst (v := (nI 0)) C dX5_isWhole_159 rfl ?_
                              refine j_callVr C 6 (v := .int (ordV z g k q 0)) (w := (mW E x0 x1 x2 x3 x4 x5 mo ou th re ak gv kn ro LL ff)) (m_ordered l E A (by omega) (by omega) (by omega) hR) ok_X5_ordered w_1116 (by decide) rfl rfl (Nat.le_of_ble_eq_true rfl) rfl rfl ⟨Nat.le_of_ble_eq_true rfl, Nat.le_of_ble_eq_true rfl⟩ dX5_isWhole_160 ?_
                              refine j_if_ge (tgt := 170) C dX5_isWhole_163 (by decide) (fun h163 => ?_) (fun h163 => ?_)
                              · skip
                                refine j_iconst (v := (nI 0)) C dX5_isWhole_170 rfl ?_
                                refine j_iand (z := (u &&& (nI 0))) C dX5_isWhole_171 rfl ?_
                                refine j_istore_n (lv' := [(1, .int (u &&& (nI 0))), (4, .int (nI q)), (3, .int (nI j)), (2, .int (nI k)), (0, .ref mo)]) C dX5_isWhole_172 (by decide) rfl ?_
                                refine j_iinc (lv' := [(4, .int (nI (q + 1))), (1, .int (u &&& (nI 0))), (3, .int (nI j)), (2, .int (nI k)), (0, .ref mo)]) C dX5_isWhole_173 rfl (nI_1 _) (by decide) rfl ?_
                                refine j_goto (tgt := 126) C dX5_isWhole_176 (by decide) ?_
                                refine j_lv (lv' := [(4, .int (nI (q + 1))), (3, .int (nI j)), (2, .int (nI k)), (1, .int (u &&& (nI 0))), (0, .ref mo)]) (by simp only [List.mem_cons, List.not_mem_nil, or_false, forall_eq_or_imp, forall_eq, true_or, or_true, and_self, Nat.add_zero]) ?_
                                exact ih126 (q + 1) _ (by omega) (by first | exact hu | exact and01 hu (Or.inl rfl) | exact and01 hu (Or.inr rfl) | exact Or.inr rfl)
                              · skip
                                refine j_iconst (v := (nI 1)) C dX5_isWhole_166 rfl ?_
                                refine j_goto (tgt := 171) C dX5_isWhole_167 (by decide) ?_
                                refine j_iand (z := (u &&& (nI 1))) C dX5_isWhole_171 rfl ?_
                                refine j_istore_n (lv' := [(1, .int (u &&& (nI 1))), (4, .int (nI q)), (3, .int (nI j)), (2, .int (nI k)), (0, .ref mo)]) C dX5_isWhole_172 (by decide) rfl ?_
                                refine j_iinc (lv' := [(4, .int (nI (q + 1))), (1, .int (u &&& (nI 1))), (3, .int (nI j)), (2, .int (nI k)), (0, .ref mo)]) C dX5_isWhole_173 rfl (nI_1 _) (by decide) rfl ?_
                                refine j_goto (tgt := 126) C dX5_isWhole_176 (by decide) ?_
                                refine j_lv (lv' := [(4, .int (nI (q + 1))), (3, .int (nI j)), (2, .int (nI k)), (1, .int (u &&& (nI 1))), (0, .ref mo)]) (by simp only [List.mem_cons, List.not_mem_nil, or_false, forall_eq_or_imp, forall_eq, true_or, or_true, and_self, Nat.add_zero]) ?_
                                exact ih126 (q + 1) _ (by omega) (by first | exact hu | exact and01 hu (Or.inl rfl) | exact and01 hu (Or.inr rfl) | exact Or.inr rfl)
                      refine j_lv (lv' := [(4, .int (nI 0)), (3, .int (nI j)), (2, .int (nI k)), (1, .int (u &&& (nI 1))), (0, .ref mo)]) (by simp only [List.mem_cons, List.not_mem_nil, or_false, forall_eq_or_imp, forall_eq, true_or, or_true, and_self, Nat.add_zero]) ?_
                      exact L126 9 0 _ (by omega) (by first | exact hu | exact and01 hu (Or.inl rfl) | exact and01 hu (Or.inr rfl) | exact Or.inr rfl)
              · skip
                refine j_iconst (v := (nI 1)) C dX5_isWhole_72 rfl ?_
                refine j_goto (tgt := 77) C dX5_isWhole_73 (by decide) ?_
                refine j_aload_n C dX5_isWhole_77 rfl ?_
                refine j_iload_n C dX5_isWhole_78 rfl ?_
                refine j_iload_n C dX5_isWhole_79 rfl ?_
                refine j_callVr C 6 (v := .int (samS z g k j)) (w := (mW E x0 x1 x2 x3 x4 x5 mo ou th re ak gv kn ro LL ff)) (m_areLike l E A (by omega) (by omega) hR) ok_X5_areLike w_1162 (by decide) rfl rfl (Nat.le_of_ble_eq_true rfl) rfl rfl ⟨Nat.le_of_ble_eq_true rfl, Nat.le_of_ble_eq_true rfl⟩ dX5_isWhole_80 ?_
                refine j_icmp_ne (tgt := 120) C dX5_isWhole_83 (by decide) (fun h83 => ?_) (fun h83 => ?_)
                · skip
                  refine j_iconst (v := (nI 0)) C dX5_isWhole_120 rfl ?_
                  refine j_iand (z := (u &&& (nI 0))) C dX5_isWhole_121 rfl ?_
                  refine j_istore_n (lv' := [(1, .int (u &&& (nI 0))), (4, .int (nI o)), (3, .int (nI j)), (2, .int (nI k)), (0, .ref mo)]) C dX5_isWhole_122 (by decide) rfl ?_
                  refine j_iconst (v := (nI 0)) C dX5_isWhole_123 rfl ?_
                  refine j_istore (lv' := [(4, .int (nI 0)), (1, .int (u &&& (nI 0))), (3, .int (nI j)), (2, .int (nI k)), (0, .ref mo)]) C dX5_isWhole_124 (by decide) rfl ?_
                  have L126 : ∀ (r q : Nat) (u : Int32), q + r = 9 → P01 u → jJ p l e R s m args below meth c E A 5 Q 0 0 126 [(4, .int (nI q)), (3, .int (nI j)), (2, .int (nI k)), (1, .int u), (0, .ref mo)] [] (mW E x0 x1 x2 x3 x4 x5 mo ou th re ak gv kn ro LL ff) := by
                    intro r
                    induction r with
                    | zero =>
                      intro q u hk126 hu
                      refine j_iload C dX5_isWhole_126 rfl ?_
                      refine j_bipush (v := (nI 9)) C dX5_isWhole_128 rfl ?_
                      refine j_icmpn_ge_t (tgt := 179) C dX5_isWhole_130 (by decide) (by omega) (by omega) (by omega) ?_
                      refine j_iinc (lv' := [(3, .int (nI (j + 1))), (4, .int (nI q)), (2, .int (nI k)), (1, .int u), (0, .ref mo)]) C dX5_isWhole_179 rfl (nI_1 _) (by decide) rfl ?_
                      refine j_goto (tgt := 12) C dX5_isWhole_182 (by decide) ?_
                      refine j_lv (lv' := [(3, .int (nI (j + 1))), (2, .int (nI k)), (1, .int u), (0, .ref mo)]) (by simp only [List.mem_cons, List.not_mem_nil, or_false, forall_eq_or_imp, forall_eq, true_or, or_true, and_self, Nat.add_zero]) ?_
                      exact ih12 (j + 1) _ (by omega) (by first | exact hu | exact and01 hu (Or.inl rfl) | exact and01 hu (Or.inr rfl) | exact Or.inr rfl)
                    | succ r ih126 =>
                      intro q u hk126 hu
                      refine j_iload C dX5_isWhole_126 rfl ?_
                      refine j_bipush (v := (nI 9)) C dX5_isWhole_128 rfl ?_
                      refine j_icmpn_ge_f (tgt := 179) C dX5_isWhole_130 (by decide) (by omega) (by omega) (by omega) ?_
                      refine j_iload_n C dX5_isWhole_133 rfl ?_
                      refine j_aload_n C dX5_isWhole_134 rfl ?_
                      refine j_iload_n C dX5_isWhole_135 rfl ?_
                      refine j_iload_n C dX5_isWhole_136 rfl ?_
                      refine j_iconst (v := (nI 0)) C dX5_isWhole_137 rfl ?_
                      refine j_callVr C 6 (v := .int (ordV z g k j 0)) (w := (mW E x0 x1 x2 x3 x4 x5 mo ou th re ak gv kn ro LL ff)) (m_ordered l E A (by omega) (by omega) (by omega) hR) ok_X5_ordered w_1116 (by decide) rfl rfl (Nat.le_of_ble_eq_true rfl) rfl rfl ⟨Nat.le_of_ble_eq_true rfl, Nat.le_of_ble_eq_true rfl⟩ dX5_isWhole_138 ?_
                      refine j_if_ge (tgt := 166) C dX5_isWhole_141 (by decide) (fun h141 => ?_) (fun h141 => ?_)
                      · skip
                        refine j_iconst (v := (nI 1)) C dX5_isWhole_166 rfl ?_
                        refine j_goto (tgt := 171) C dX5_isWhole_167 (by decide) ?_
                        refine j_iand (z := (u &&& (nI 1))) C dX5_isWhole_171 rfl ?_
                        refine j_istore_n (lv' := [(1, .int (u &&& (nI 1))), (4, .int (nI q)), (3, .int (nI j)), (2, .int (nI k)), (0, .ref mo)]) C dX5_isWhole_172 (by decide) rfl ?_
                        refine j_iinc (lv' := [(4, .int (nI (q + 1))), (1, .int (u &&& (nI 1))), (3, .int (nI j)), (2, .int (nI k)), (0, .ref mo)]) C dX5_isWhole_173 rfl (nI_1 _) (by decide) rfl ?_
                        refine j_goto (tgt := 126) C dX5_isWhole_176 (by decide) ?_
                        refine j_lv (lv' := [(4, .int (nI (q + 1))), (3, .int (nI j)), (2, .int (nI k)), (1, .int (u &&& (nI 1))), (0, .ref mo)]) (by simp only [List.mem_cons, List.not_mem_nil, or_false, forall_eq_or_imp, forall_eq, true_or, or_true, and_self, Nat.add_zero]) ?_
                        exact ih126 (q + 1) _ (by omega) (by first | exact hu | exact and01 hu (Or.inl rfl) | exact and01 hu (Or.inr rfl) | exact Or.inr rfl)
                      · skip
                        refine j_aload_n C dX5_isWhole_144 rfl ?_
                        refine j_iload_n C dX5_isWhole_145 rfl ?_
                        refine j_iload C dX5_isWhole_146 rfl ?_
                        refine j_iconst (v := (nI 0)) C dX5_isWhole_148 rfl ?_
                        refine j_callVr C 6 (v := .int (ordV z g j q 0)) (w := (mW E x0 x1 x2 x3 x4 x5 mo ou th re ak gv kn ro LL ff)) (m_ordered l E A (by omega) (by omega) (by omega) hR) ok_X5_ordered w_1116 (by decide) rfl rfl (Nat.le_of_ble_eq_true rfl) rfl rfl ⟨Nat.le_of_ble_eq_true rfl, Nat.le_of_ble_eq_true rfl⟩ dX5_isWhole_149 ?_
                        refine j_if_ge (tgt := 166) C dX5_isWhole_152 (by decide) (fun h152 => ?_) (fun h152 => ?_)
                        · skip
                          refine j_iconst (v := (nI 1)) C dX5_isWhole_166 rfl ?_
                          refine j_goto (tgt := 171) C dX5_isWhole_167 (by decide) ?_
                          refine j_iand (z := (u &&& (nI 1))) C dX5_isWhole_171 rfl ?_
                          refine j_istore_n (lv' := [(1, .int (u &&& (nI 1))), (4, .int (nI q)), (3, .int (nI j)), (2, .int (nI k)), (0, .ref mo)]) C dX5_isWhole_172 (by decide) rfl ?_
                          refine j_iinc (lv' := [(4, .int (nI (q + 1))), (1, .int (u &&& (nI 1))), (3, .int (nI j)), (2, .int (nI k)), (0, .ref mo)]) C dX5_isWhole_173 rfl (nI_1 _) (by decide) rfl ?_
                          refine j_goto (tgt := 126) C dX5_isWhole_176 (by decide) ?_
                          refine j_lv (lv' := [(4, .int (nI (q + 1))), (3, .int (nI j)), (2, .int (nI k)), (1, .int (u &&& (nI 1))), (0, .ref mo)]) (by simp only [List.mem_cons, List.not_mem_nil, or_false, forall_eq_or_imp, forall_eq, true_or, or_true, and_self, Nat.add_zero]) ?_
                          exact ih126 (q + 1) _ (by omega) (by first | exact hu | exact and01 hu (Or.inl rfl) | exact and01 hu (Or.inr rfl) | exact Or.inr rfl)
                        · skip
                          refine j_aload_n C dX5_isWhole_155 rfl ?_
                          refine j_iload_n C dX5_isWhole_156 rfl ?_
                          refine j_iload C dX5_isWhole_157 rfl ?_
                          refine j_iconst (v := (nI 0)) C dX5_isWhole_159 rfl ?_
                          refine j_callVr C 6 (v := .int (ordV z g k q 0)) (w := (mW E x0 x1 x2 x3 x4 x5 mo ou th re ak gv kn ro LL ff)) (m_ordered l E A (by omega) (by omega) (by omega) hR) ok_X5_ordered w_1116 (by decide) rfl rfl (Nat.le_of_ble_eq_true rfl) rfl rfl ⟨Nat.le_of_ble_eq_true rfl, Nat.le_of_ble_eq_true rfl⟩ dX5_isWhole_160 ?_
                          refine j_if_ge (tgt := 170) C dX5_isWhole_163 (by decide) (fun h163 => ?_) (fun h163 => ?_)
                          · skip
                            refine j_iconst (v := (nI 0)) C dX5_isWhole_170 rfl ?_
                            refine j_iand (z := (u &&& (nI 0))) C dX5_isWhole_171 rfl ?_
                            refine j_istore_n (lv' := [(1, .int (u &&& (nI 0))), (4, .int (nI q)), (3, .int (nI j)), (2, .int (nI k)), (0, .ref mo)]) C dX5_isWhole_172 (by decide) rfl ?_
                            refine j_iinc (lv' := [(4, .int (nI (q + 1))), (1, .int (u &&& (nI 0))), (3, .int (nI j)), (2, .int (nI k)), (0, .ref mo)]) C dX5_isWhole_173 rfl (nI_1 _) (by decide) rfl ?_
                            refine j_goto (tgt := 126) C dX5_isWhole_176 (by decide) ?_
                            refine j_lv (lv' := [(4, .int (nI (q + 1))), (3, .int (nI j)), (2, .int (nI k)), (1, .int (u &&& (nI 0))), (0, .ref mo)]) (by simp only [List.mem_cons, List.not_mem_nil, or_false, forall_eq_or_imp, forall_eq, true_or, or_true, and_self, Nat.add_zero]) ?_
                            exact ih126 (q + 1) _ (by omega) (by first | exact hu | exact and01 hu (Or.inl rfl) | exact and01 hu (Or.inr rfl) | exact Or.inr rfl)
                          · skip
                            refine j_iconst (v := (nI 1)) C dX5_isWhole_166 rfl ?_
                            refine j_goto (tgt := 171) C dX5_isWhole_167 (by decide) ?_
                            refine j_iand (z := (u &&& (nI 1))) C dX5_isWhole_171 rfl ?_
                            refine j_istore_n (lv' := [(1, .int (u &&& (nI 1))), (4, .int (nI q)), (3, .int (nI j)), (2, .int (nI k)), (0, .ref mo)]) C dX5_isWhole_172 (by decide) rfl ?_
                            refine j_iinc (lv' := [(4, .int (nI (q + 1))), (1, .int (u &&& (nI 1))), (3, .int (nI j)), (2, .int (nI k)), (0, .ref mo)]) C dX5_isWhole_173 rfl (nI_1 _) (by decide) rfl ?_
                            refine j_goto (tgt := 126) C dX5_isWhole_176 (by decide) ?_
                            refine j_lv (lv' := [(4, .int (nI (q + 1))), (3, .int (nI j)), (2, .int (nI k)), (1, .int (u &&& (nI 1))), (0, .ref mo)]) (by simp only [List.mem_cons, List.not_mem_nil, or_false, forall_eq_or_imp, forall_eq, true_or, or_true, and_self, Nat.add_zero]) ?_
                            exact ih126 (q + 1) _ (by omega) (by first | exact hu | exact and01 hu (Or.inl rfl) | exact and01 hu (Or.inr rfl) | exact Or.inr rfl)
                  refine j_lv (lv' := [(4, .int (nI 0)), (3, .int (nI j)), (2, .int (nI k)), (1, .int (u &&& (nI 0))), (0, .ref mo)]) (by simp only [List.mem_cons, List.not_mem_nil, or_false, forall_eq_or_imp, forall_eq, true_or, or_true, and_self, Nat.add_zero]) ?_
                  exact L126 9 0 _ (by omega) (by first | exact hu | exact and01 hu (Or.inl rfl) | exact and01 hu (Or.inr rfl) | exact Or.inr rfl)
                · skip
                  refine j_aload_n C dX5_isWhole_86 rfl ?_
                  refine j_iload_n C dX5_isWhole_87 rfl ?_
                  refine j_iload_n C dX5_isWhole_88 rfl ?_
                  refine j_callVr C 6 (v := .int (samS z g k j)) (w := (mW E x0 x1 x2 x3 x4 x5 mo ou th re ak gv kn ro LL ff)) (m_areLike l E A (by omega) (by omega) hR) ok_X5_areLike w_1162 (by decide) rfl rfl (Nat.le_of_ble_eq_true rfl) rfl rfl ⟨Nat.le_of_ble_eq_true rfl, Nat.le_of_ble_eq_true rfl⟩ dX5_isWhole_89 ?_
                  refine j_if_eq (tgt := 116) C dX5_isWhole_92 (by decide) (fun h92 => ?_) (fun h92 => ?_)
                  · skip
                    refine j_iconst (v := (nI 1)) C dX5_isWhole_116 rfl ?_
                    refine j_goto (tgt := 121) C dX5_isWhole_117 (by decide) ?_
                    refine j_iand (z := (u &&& (nI 1))) C dX5_isWhole_121 rfl ?_
                    refine j_istore_n (lv' := [(1, .int (u &&& (nI 1))), (4, .int (nI o)), (3, .int (nI j)), (2, .int (nI k)), (0, .ref mo)]) C dX5_isWhole_122 (by decide) rfl ?_
                    refine j_iconst (v := (nI 0)) C dX5_isWhole_123 rfl ?_
                    refine j_istore (lv' := [(4, .int (nI 0)), (1, .int (u &&& (nI 1))), (3, .int (nI j)), (2, .int (nI k)), (0, .ref mo)]) C dX5_isWhole_124 (by decide) rfl ?_
                    have L126 : ∀ (r q : Nat) (u : Int32), q + r = 9 → P01 u → jJ p l e R s m args below meth c E A 5 Q 0 0 126 [(4, .int (nI q)), (3, .int (nI j)), (2, .int (nI k)), (1, .int u), (0, .ref mo)] [] (mW E x0 x1 x2 x3 x4 x5 mo ou th re ak gv kn ro LL ff) := by
                      intro r
                      induction r with
                      | zero =>
                        intro q u hk126 hu
                        refine j_iload C dX5_isWhole_126 rfl ?_
                        refine j_bipush (v := (nI 9)) C dX5_isWhole_128 rfl ?_
                        refine j_icmpn_ge_t (tgt := 179) C dX5_isWhole_130 (by decide) (by omega) (by omega) (by omega) ?_
                        refine j_iinc (lv' := [(3, .int (nI (j + 1))), (4, .int (nI q)), (2, .int (nI k)), (1, .int u), (0, .ref mo)]) C dX5_isWhole_179 rfl (nI_1 _) (by decide) rfl ?_
                        refine j_goto (tgt := 12) C dX5_isWhole_182 (by decide) ?_
                        refine j_lv (lv' := [(3, .int (nI (j + 1))), (2, .int (nI k)), (1, .int u), (0, .ref mo)]) (by simp only [List.mem_cons, List.not_mem_nil, or_false, forall_eq_or_imp, forall_eq, true_or, or_true, and_self, Nat.add_zero]) ?_
                        exact ih12 (j + 1) _ (by omega) (by first | exact hu | exact and01 hu (Or.inl rfl) | exact and01 hu (Or.inr rfl) | exact Or.inr rfl)
                      | succ r ih126 =>
                        intro q u hk126 hu
                        refine j_iload C dX5_isWhole_126 rfl ?_
                        refine j_bipush (v := (nI 9)) C dX5_isWhole_128 rfl ?_
                        refine j_icmpn_ge_f (tgt := 179) C dX5_isWhole_130 (by decide) (by omega) (by omega) (by omega) ?_
                        refine j_iload_n C dX5_isWhole_133 rfl ?_
                        refine j_aload_n C dX5_isWhole_134 rfl ?_
                        refine j_iload_n C dX5_isWhole_135 rfl ?_
                        refine j_iload_n C dX5_isWhole_136 rfl ?_
                        refine j_iconst (v := (nI 0)) C dX5_isWhole_137 rfl ?_
                        refine j_callVr C 6 (v := .int (ordV z g k j 0)) (w := (mW E x0 x1 x2 x3 x4 x5 mo ou th re ak gv kn ro LL ff)) (m_ordered l E A (by omega) (by omega) (by omega) hR) ok_X5_ordered w_1116 (by decide) rfl rfl (Nat.le_of_ble_eq_true rfl) rfl rfl ⟨Nat.le_of_ble_eq_true rfl, Nat.le_of_ble_eq_true rfl⟩ dX5_isWhole_138 ?_
                        refine j_if_ge (tgt := 166) C dX5_isWhole_141 (by decide) (fun h141 => ?_) (fun h141 => ?_)
                        · skip
                          refine j_iconst (v := (nI 1)) C dX5_isWhole_166 rfl ?_
                          refine j_goto (tgt := 171) C dX5_isWhole_167 (by decide) ?_
                          refine j_iand (z := (u &&& (nI 1))) C dX5_isWhole_171 rfl ?_
                          refine j_istore_n (lv' := [(1, .int (u &&& (nI 1))), (4, .int (nI q)), (3, .int (nI j)), (2, .int (nI k)), (0, .ref mo)]) C dX5_isWhole_172 (by decide) rfl ?_
                          refine j_iinc (lv' := [(4, .int (nI (q + 1))), (1, .int (u &&& (nI 1))), (3, .int (nI j)), (2, .int (nI k)), (0, .ref mo)]) C dX5_isWhole_173 rfl (nI_1 _) (by decide) rfl ?_
                          refine j_goto (tgt := 126) C dX5_isWhole_176 (by decide) ?_
                          refine j_lv (lv' := [(4, .int (nI (q + 1))), (3, .int (nI j)), (2, .int (nI k)), (1, .int (u &&& (nI 1))), (0, .ref mo)]) (by simp only [List.mem_cons, List.not_mem_nil, or_false, forall_eq_or_imp, forall_eq, true_or, or_true, and_self, Nat.add_zero]) ?_
                          exact ih126 (q + 1) _ (by omega) (by first | exact hu | exact and01 hu (Or.inl rfl) | exact and01 hu (Or.inr rfl) | exact Or.inr rfl)
                        · skip
                          refine j_aload_n C dX5_isWhole_144 rfl ?_
                          refine j_iload_n C dX5_isWhole_145 rfl ?_
                          refine j_iload C dX5_isWhole_146 rfl ?_
                          refine j_iconst (v := (nI 0)) C dX5_isWhole_148 rfl ?_
                          refine j_callVr C 6 (v := .int (ordV z g j q 0)) (w := (mW E x0 x1 x2 x3 x4 x5 mo ou th re ak gv kn ro LL ff)) (m_ordered l E A (by omega) (by omega) (by omega) hR) ok_X5_ordered w_1116 (by decide) rfl rfl (Nat.le_of_ble_eq_true rfl) rfl rfl ⟨Nat.le_of_ble_eq_true rfl, Nat.le_of_ble_eq_true rfl⟩ dX5_isWhole_149 ?_
                          refine j_if_ge (tgt := 166) C dX5_isWhole_152 (by decide) (fun h152 => ?_) (fun h152 => ?_)
                          · skip
                            refine j_iconst (v := (nI 1)) C dX5_isWhole_166 rfl ?_
                            refine j_goto (tgt := 171) C dX5_isWhole_167 (by decide) ?_
                            refine j_iand (z := (u &&& (nI 1))) C dX5_isWhole_171 rfl ?_
                            refine j_istore_n (lv' := [(1, .int (u &&& (nI 1))), (4, .int (nI q)), (3, .int (nI j)), (2, .int (nI k)), (0, .ref mo)]) C dX5_isWhole_172 (by decide) rfl ?_
                            refine j_iinc (lv' := [(4, .int (nI (q + 1))), (1, .int (u &&& (nI 1))), (3, .int (nI j)), (2, .int (nI k)), (0, .ref mo)]) C dX5_isWhole_173 rfl (nI_1 _) (by decide) rfl ?_
                            refine j_goto (tgt := 126) C dX5_isWhole_176 (by decide) ?_
                            refine j_lv (lv' := [(4, .int (nI (q + 1))), (3, .int (nI j)), (2, .int (nI k)), (1, .int (u &&& (nI 1))), (0, .ref mo)]) (by simp only [List.mem_cons, List.not_mem_nil, or_false, forall_eq_or_imp, forall_eq, true_or, or_true, and_self, Nat.add_zero]) ?_
                            exact ih126 (q + 1) _ (by omega) (by first | exact hu | exact and01 hu (Or.inl rfl) | exact and01 hu (Or.inr rfl) | exact Or.inr rfl)
                          · skip
                            refine j_aload_n C dX5_isWhole_155 rfl ?_
                            refine j_iload_n C dX5_isWhole_156 rfl ?_
                            refine j_iload C dX5_isWhole_157 rfl ?_
                            refine j_iconst (v := (nI 0)) C dX5_isWhole_159 rfl ?_
                            refine j_callVr C 6 (v := .int (ordV z g k q 0)) (w := (mW E x0 x1 x2 x3 x4 x5 mo ou th re ak gv kn ro LL ff)) (m_ordered l E A (by omega) (by omega) (by omega) hR) ok_X5_ordered w_1116 (by decide) rfl rfl (Nat.le_of_ble_eq_true rfl) rfl rfl ⟨Nat.le_of_ble_eq_true rfl, Nat.le_of_ble_eq_true rfl⟩ dX5_isWhole_160 ?_
                            refine j_if_ge (tgt := 170) C dX5_isWhole_163 (by decide) (fun h163 => ?_) (fun h163 => ?_)
                            · skip
                              refine j_iconst (v := (nI 0)) C dX5_isWhole_170 rfl ?_
                              refine j_iand (z := (u &&& (nI 0))) C dX5_isWhole_171 rfl ?_
                              refine j_istore_n (lv' := [(1, .int (u &&& (nI 0))), (4, .int (nI q)), (3, .int (nI j)), (2, .int (nI k)), (0, .ref mo)]) C dX5_isWhole_172 (by decide) rfl ?_
                              refine j_iinc (lv' := [(4, .int (nI (q + 1))), (1, .int (u &&& (nI 0))), (3, .int (nI j)), (2, .int (nI k)), (0, .ref mo)]) C dX5_isWhole_173 rfl (nI_1 _) (by decide) rfl ?_
                              refine j_goto (tgt := 126) C dX5_isWhole_176 (by decide) ?_
                              refine j_lv (lv' := [(4, .int (nI (q + 1))), (3, .int (nI j)), (2, .int (nI k)), (1, .int (u &&& (nI 0))), (0, .ref mo)]) (by simp only [List.mem_cons, List.not_mem_nil, or_false, forall_eq_or_imp, forall_eq, true_or, or_true, and_self, Nat.add_zero]) ?_
                              exact ih126 (q + 1) _ (by omega) (by first | exact hu | exact and01 hu (Or.inl rfl) | exact and01 hu (Or.inr rfl) | exact Or.inr rfl)
                            · skip
                              refine j_iconst (v := (nI 1)) C dX5_isWhole_166 rfl ?_
                              refine j_goto (tgt := 171) C dX5_isWhole_167 (by decide) ?_
                              refine j_iand (z := (u &&& (nI 1))) C dX5_isWhole_171 rfl ?_
                              refine j_istore_n (lv' := [(1, .int (u &&& (nI 1))), (4, .int (nI q)), (3, .int (nI j)), (2, .int (nI k)), (0, .ref mo)]) C dX5_isWhole_172 (by decide) rfl ?_
                              refine j_iinc (lv' := [(4, .int (nI (q + 1))), (1, .int (u &&& (nI 1))), (3, .int (nI j)), (2, .int (nI k)), (0, .ref mo)]) C dX5_isWhole_173 rfl (nI_1 _) (by decide) rfl ?_
                              refine j_goto (tgt := 126) C dX5_isWhole_176 (by decide) ?_
                              refine j_lv (lv' := [(4, .int (nI (q + 1))), (3, .int (nI j)), (2, .int (nI k)), (1, .int (u &&& (nI 1))), (0, .ref mo)]) (by simp only [List.mem_cons, List.not_mem_nil, or_false, forall_eq_or_imp, forall_eq, true_or, or_true, and_self, Nat.add_zero]) ?_
                              exact ih126 (q + 1) _ (by omega) (by first | exact hu | exact and01 hu (Or.inl rfl) | exact and01 hu (Or.inr rfl) | exact Or.inr rfl)
                    refine j_lv (lv' := [(4, .int (nI 0)), (3, .int (nI j)), (2, .int (nI k)), (1, .int (u &&& (nI 1))), (0, .ref mo)]) (by simp only [List.mem_cons, List.not_mem_nil, or_false, forall_eq_or_imp, forall_eq, true_or, or_true, and_self, Nat.add_zero]) ?_
                    exact L126 9 0 _ (by omega) (by first | exact hu | exact and01 hu (Or.inl rfl) | exact and01 hu (Or.inr rfl) | exact Or.inr rfl)
                  · skip
                    refine j_aload_n C dX5_isWhole_95 rfl ?_
                    refine j_get C 6 rfl inj_X5 rfl 1 (by decide) w_922 rfl dX5_isWhole_96 ?_
                    refine j_iload_n C dX5_isWhole_99 rfl ?_
                    refine j_aaload (v := va_rf (ro k)) C 7 k rfl rfl (by omega) (by decide) rfl dX5_isWhole_100 ?_
                    refine j_callSr C (v := .int (codS z g k)) (w := (mW E x0 x1 x2 x3 x4 x5 mo ou th re ak gv kn ro LL ff)) (m_codS l E A hR (i := k) (by omega)) ok_X5_codeOf w_1170 (by decide) rfl rfl (Nat.le_of_ble_eq_true rfl) ⟨Nat.le_of_ble_eq_true rfl, Nat.le_of_ble_eq_true rfl⟩ dX5_isWhole_101 ?_
                    refine j_aload_n C dX5_isWhole_104 rfl ?_
                    refine j_get C 6 rfl inj_X5 rfl 1 (by decide) w_922 rfl dX5_isWhole_105 ?_
                    refine j_iload_n C dX5_isWhole_108 rfl ?_
                    refine j_aaload (v := va_rf (ro j)) C 7 j rfl rfl (by omega) (by decide) rfl dX5_isWhole_109 ?_
                    refine j_callSr C (v := .int (codS z g j)) (w := (mW E x0 x1 x2 x3 x4 x5 mo ou th re ak gv kn ro LL ff)) (m_codS l E A hR (i := j) (by omega)) ok_X5_codeOf w_1170 (by decide) rfl rfl (Nat.le_of_ble_eq_true rfl) ⟨Nat.le_of_ble_eq_true rfl, Nat.le_of_ble_eq_true rfl⟩ dX5_isWhole_110 ?_
                    refine j_icmp_ne (tgt := 120) C dX5_isWhole_113 (by decide) (fun h113 => ?_) (fun h113 => ?_)
                    · skip
                      refine j_iconst (v := (nI 0)) C dX5_isWhole_120 rfl ?_
                      refine j_iand (z := (u &&& (nI 0))) C dX5_isWhole_121 rfl ?_
                      refine j_istore_n (lv' := [(1, .int (u &&& (nI 0))), (4, .int (nI o)), (3, .int (nI j)), (2, .int (nI k)), (0, .ref mo)]) C dX5_isWhole_122 (by decide) rfl ?_
                      refine j_iconst (v := (nI 0)) C dX5_isWhole_123 rfl ?_
                      refine j_istore (lv' := [(4, .int (nI 0)), (1, .int (u &&& (nI 0))), (3, .int (nI j)), (2, .int (nI k)), (0, .ref mo)]) C dX5_isWhole_124 (by decide) rfl ?_
                      have L126 : ∀ (r q : Nat) (u : Int32), q + r = 9 → P01 u → jJ p l e R s m args below meth c E A 5 Q 0 0 126 [(4, .int (nI q)), (3, .int (nI j)), (2, .int (nI k)), (1, .int u), (0, .ref mo)] [] (mW E x0 x1 x2 x3 x4 x5 mo ou th re ak gv kn ro LL ff) := by
                        intro r
                        induction r with
                        | zero =>
                          intro q u hk126 hu
                          refine j_iload C dX5_isWhole_126 rfl ?_
                          refine j_bipush (v := (nI 9)) C dX5_isWhole_128 rfl ?_
                          refine j_icmpn_ge_t (tgt := 179) C dX5_isWhole_130 (by decide) (by omega) (by omega) (by omega) ?_
                          refine j_iinc (lv' := [(3, .int (nI (j + 1))), (4, .int (nI q)), (2, .int (nI k)), (1, .int u), (0, .ref mo)]) C dX5_isWhole_179 rfl (nI_1 _) (by decide) rfl ?_
                          refine j_goto (tgt := 12) C dX5_isWhole_182 (by decide) ?_
                          refine j_lv (lv' := [(3, .int (nI (j + 1))), (2, .int (nI k)), (1, .int u), (0, .ref mo)]) (by simp only [List.mem_cons, List.not_mem_nil, or_false, forall_eq_or_imp, forall_eq, true_or, or_true, and_self, Nat.add_zero]) ?_
                          exact ih12 (j + 1) _ (by omega) (by first | exact hu | exact and01 hu (Or.inl rfl) | exact and01 hu (Or.inr rfl) | exact Or.inr rfl)
                        | succ r ih126 =>
                          intro q u hk126 hu
                          refine j_iload C dX5_isWhole_126 rfl ?_
                          refine j_bipush (v := (nI 9)) C dX5_isWhole_128 rfl ?_
                          refine j_icmpn_ge_f (tgt := 179) C dX5_isWhole_130 (by decide) (by omega) (by omega) (by omega) ?_
                          refine j_iload_n C dX5_isWhole_133 rfl ?_
                          refine j_aload_n C dX5_isWhole_134 rfl ?_
                          refine j_iload_n C dX5_isWhole_135 rfl ?_
                          refine j_iload_n C dX5_isWhole_136 rfl ?_
                          refine j_iconst (v := (nI 0)) C dX5_isWhole_137 rfl ?_
                          refine j_callVr C 6 (v := .int (ordV z g k j 0)) (w := (mW E x0 x1 x2 x3 x4 x5 mo ou th re ak gv kn ro LL ff)) (m_ordered l E A (by omega) (by omega) (by omega) hR) ok_X5_ordered w_1116 (by decide) rfl rfl (Nat.le_of_ble_eq_true rfl) rfl rfl ⟨Nat.le_of_ble_eq_true rfl, Nat.le_of_ble_eq_true rfl⟩ dX5_isWhole_138 ?_
                          refine j_if_ge (tgt := 166) C dX5_isWhole_141 (by decide) (fun h141 => ?_) (fun h141 => ?_)
                          · skip
                            refine j_iconst (v := (nI 1)) C dX5_isWhole_166 rfl ?_
                            refine j_goto (tgt := 171) C dX5_isWhole_167 (by decide) ?_
                            refine j_iand (z := (u &&& (nI 1))) C dX5_isWhole_171 rfl ?_
                            refine j_istore_n (lv' := [(1, .int (u &&& (nI 1))), (4, .int (nI q)), (3, .int (nI j)), (2, .int (nI k)), (0, .ref mo)]) C dX5_isWhole_172 (by decide) rfl ?_
                            refine j_iinc (lv' := [(4, .int (nI (q + 1))), (1, .int (u &&& (nI 1))), (3, .int (nI j)), (2, .int (nI k)), (0, .ref mo)]) C dX5_isWhole_173 rfl (nI_1 _) (by decide) rfl ?_
                            refine j_goto (tgt := 126) C dX5_isWhole_176 (by decide) ?_
                            refine j_lv (lv' := [(4, .int (nI (q + 1))), (3, .int (nI j)), (2, .int (nI k)), (1, .int (u &&& (nI 1))), (0, .ref mo)]) (by simp only [List.mem_cons, List.not_mem_nil, or_false, forall_eq_or_imp, forall_eq, true_or, or_true, and_self, Nat.add_zero]) ?_
                            exact ih126 (q + 1) _ (by omega) (by first | exact hu | exact and01 hu (Or.inl rfl) | exact and01 hu (Or.inr rfl) | exact Or.inr rfl)
                          · skip
                            refine j_aload_n C dX5_isWhole_144 rfl ?_
                            refine j_iload_n C dX5_isWhole_145 rfl ?_
                            refine j_iload C dX5_isWhole_146 rfl ?_
                            refine j_iconst (v := (nI 0)) C dX5_isWhole_148 rfl ?_
                            refine j_callVr C 6 (v := .int (ordV z g j q 0)) (w := (mW E x0 x1 x2 x3 x4 x5 mo ou th re ak gv kn ro LL ff)) (m_ordered l E A (by omega) (by omega) (by omega) hR) ok_X5_ordered w_1116 (by decide) rfl rfl (Nat.le_of_ble_eq_true rfl) rfl rfl ⟨Nat.le_of_ble_eq_true rfl, Nat.le_of_ble_eq_true rfl⟩ dX5_isWhole_149 ?_
                            refine j_if_ge (tgt := 166) C dX5_isWhole_152 (by decide) (fun h152 => ?_) (fun h152 => ?_)
                            · skip
                              refine j_iconst (v := (nI 1)) C dX5_isWhole_166 rfl ?_
                              refine j_goto (tgt := 171) C dX5_isWhole_167 (by decide) ?_
                              refine j_iand (z := (u &&& (nI 1))) C dX5_isWhole_171 rfl ?_
                              refine j_istore_n (lv' := [(1, .int (u &&& (nI 1))), (4, .int (nI q)), (3, .int (nI j)), (2, .int (nI k)), (0, .ref mo)]) C dX5_isWhole_172 (by decide) rfl ?_
                              refine j_iinc (lv' := [(4, .int (nI (q + 1))), (1, .int (u &&& (nI 1))), (3, .int (nI j)), (2, .int (nI k)), (0, .ref mo)]) C dX5_isWhole_173 rfl (nI_1 _) (by decide) rfl ?_
                              refine j_goto (tgt := 126) C dX5_isWhole_176 (by decide) ?_
                              refine j_lv (lv' := [(4, .int (nI (q + 1))), (3, .int (nI j)), (2, .int (nI k)), (1, .int (u &&& (nI 1))), (0, .ref mo)]) (by simp only [List.mem_cons, List.not_mem_nil, or_false, forall_eq_or_imp, forall_eq, true_or, or_true, and_self, Nat.add_zero]) ?_
                              exact ih126 (q + 1) _ (by omega) (by first | exact hu | exact and01 hu (Or.inl rfl) | exact and01 hu (Or.inr rfl) | exact Or.inr rfl)
                            · skip
                              refine j_aload_n C dX5_isWhole_155 rfl ?_
                              refine j_iload_n C dX5_isWhole_156 rfl ?_
                              refine j_iload C dX5_isWhole_157 rfl ?_
                              refine j_iconst (v := (nI 0)) C dX5_isWhole_159 rfl ?_
                              refine j_callVr C 6 (v := .int (ordV z g k q 0)) (w := (mW E x0 x1 x2 x3 x4 x5 mo ou th re ak gv kn ro LL ff)) (m_ordered l E A (by omega) (by omega) (by omega) hR) ok_X5_ordered w_1116 (by decide) rfl rfl (Nat.le_of_ble_eq_true rfl) rfl rfl ⟨Nat.le_of_ble_eq_true rfl, Nat.le_of_ble_eq_true rfl⟩ dX5_isWhole_160 ?_
                              refine j_if_ge (tgt := 170) C dX5_isWhole_163 (by decide) (fun h163 => ?_) (fun h163 => ?_)
                              · skip
                                refine j_iconst (v := (nI 0)) C dX5_isWhole_170 rfl ?_
                                refine j_iand (z := (u &&& (nI 0))) C dX5_isWhole_171 rfl ?_
                                refine j_istore_n (lv' := [(1, .int (u &&& (nI 0))), (4, .int (nI q)), (3, .int (nI j)), (2, .int (nI k)), (0, .ref mo)]) C dX5_isWhole_172 (by decide) rfl ?_
                                refine j_iinc (lv' := [(4, .int (nI (q + 1))), (1, .int (u &&& (nI 0))), (3, .int (nI j)), (2, .int (nI k)), (0, .ref mo)]) C dX5_isWhole_173 rfl (nI_1 _) (by decide) rfl ?_
                                refine j_goto (tgt := 126) C dX5_isWhole_176 (by decide) ?_
                                refine j_lv (lv' := [(4, .int (nI (q + 1))), (3, .int (nI j)), (2, .int (nI k)), (1, .int (u &&& (nI 0))), (0, .ref mo)]) (by simp only [List.mem_cons, List.not_mem_nil, or_false, forall_eq_or_imp, forall_eq, true_or, or_true, and_self, Nat.add_zero]) ?_
                                exact ih126 (q + 1) _ (by omega) (by first | exact hu | exact and01 hu (Or.inl rfl) | exact and01 hu (Or.inr rfl) | exact Or.inr rfl)
                              · skip
                                refine j_iconst (v := (nI 1)) C dX5_isWhole_166 rfl ?_
                                refine j_goto (tgt := 171) C dX5_isWhole_167 (by decide) ?_
                                refine j_iand (z := (u &&& (nI 1))) C dX5_isWhole_171 rfl ?_
                                refine j_istore_n (lv' := [(1, .int (u &&& (nI 1))), (4, .int (nI q)), (3, .int (nI j)), (2, .int (nI k)), (0, .ref mo)]) C dX5_isWhole_172 (by decide) rfl ?_
                                refine j_iinc (lv' := [(4, .int (nI (q + 1))), (1, .int (u &&& (nI 1))), (3, .int (nI j)), (2, .int (nI k)), (0, .ref mo)]) C dX5_isWhole_173 rfl (nI_1 _) (by decide) rfl ?_
                                refine j_goto (tgt := 126) C dX5_isWhole_176 (by decide) ?_
                                refine j_lv (lv' := [(4, .int (nI (q + 1))), (3, .int (nI j)), (2, .int (nI k)), (1, .int (u &&& (nI 1))), (0, .ref mo)]) (by simp only [List.mem_cons, List.not_mem_nil, or_false, forall_eq_or_imp, forall_eq, true_or, or_true, and_self, Nat.add_zero]) ?_
                                exact ih126 (q + 1) _ (by omega) (by first | exact hu | exact and01 hu (Or.inl rfl) | exact and01 hu (Or.inr rfl) | exact Or.inr rfl)
                      refine j_lv (lv' := [(4, .int (nI 0)), (3, .int (nI j)), (2, .int (nI k)), (1, .int (u &&& (nI 0))), (0, .ref mo)]) (by simp only [List.mem_cons, List.not_mem_nil, or_false, forall_eq_or_imp, forall_eq, true_or, or_true, and_self, Nat.add_zero]) ?_
                      exact L126 9 0 _ (by omega) (by first | exact hu | exact and01 hu (Or.inl rfl) | exact and01 hu (Or.inr rfl) | exact Or.inr rfl)
                    · skip
                      refine j_iconst (v := (nI 1)) C dX5_isWhole_116 rfl ?_
                      refine j_goto (tgt := 121) C dX5_isWhole_117 (by decide) ?_
                      refine j_iand (z := (u &&& (nI 1))) C dX5_isWhole_121 rfl ?_
                      refine j_istore_n (lv' := [(1, .int (u &&& (nI 1))), (4, .int (nI o)), (3, .int (nI j)), (2, .int (nI k)), (0, .ref mo)]) C dX5_isWhole_122 (by decide) rfl ?_
                      refine j_iconst (v := (nI 0)) C dX5_isWhole_123 rfl ?_
                      refine j_istore (lv' := [(4, .int (nI 0)), (1, .int (u &&& (nI 1))), (3, .int (nI j)), (2, .int (nI k)), (0, .ref mo)]) C dX5_isWhole_124 (by decide) rfl ?_
                      have L126 : ∀ (r q : Nat) (u : Int32), q + r = 9 → P01 u → jJ p l e R s m args below meth c E A 5 Q 0 0 126 [(4, .int (nI q)), (3, .int (nI j)), (2, .int (nI k)), (1, .int u), (0, .ref mo)] [] (mW E x0 x1 x2 x3 x4 x5 mo ou th re ak gv kn ro LL ff) := by
                        intro r
                        induction r with
                        | zero =>
                          intro q u hk126 hu
                          refine j_iload C dX5_isWhole_126 rfl ?_
                          refine j_bipush (v := (nI 9)) C dX5_isWhole_128 rfl ?_
                          refine j_icmpn_ge_t (tgt := 179) C dX5_isWhole_130 (by decide) (by omega) (by omega) (by omega) ?_
                          refine j_iinc (lv' := [(3, .int (nI (j + 1))), (4, .int (nI q)), (2, .int (nI k)), (1, .int u), (0, .ref mo)]) C dX5_isWhole_179 rfl (nI_1 _) (by decide) rfl ?_
                          refine j_goto (tgt := 12) C dX5_isWhole_182 (by decide) ?_
                          refine j_lv (lv' := [(3, .int (nI (j + 1))), (2, .int (nI k)), (1, .int u), (0, .ref mo)]) (by simp only [List.mem_cons, List.not_mem_nil, or_false, forall_eq_or_imp, forall_eq, true_or, or_true, and_self, Nat.add_zero]) ?_
                          exact ih12 (j + 1) _ (by omega) (by first | exact hu | exact and01 hu (Or.inl rfl) | exact and01 hu (Or.inr rfl) | exact Or.inr rfl)
                        | succ r ih126 =>
                          intro q u hk126 hu
                          refine j_iload C dX5_isWhole_126 rfl ?_
                          refine j_bipush (v := (nI 9)) C dX5_isWhole_128 rfl ?_
                          refine j_icmpn_ge_f (tgt := 179) C dX5_isWhole_130 (by decide) (by omega) (by omega) (by omega) ?_
                          refine j_iload_n C dX5_isWhole_133 rfl ?_
                          refine j_aload_n C dX5_isWhole_134 rfl ?_
                          refine j_iload_n C dX5_isWhole_135 rfl ?_
                          refine j_iload_n C dX5_isWhole_136 rfl ?_
                          refine j_iconst (v := (nI 0)) C dX5_isWhole_137 rfl ?_
                          refine j_callVr C 6 (v := .int (ordV z g k j 0)) (w := (mW E x0 x1 x2 x3 x4 x5 mo ou th re ak gv kn ro LL ff)) (m_ordered l E A (by omega) (by omega) (by omega) hR) ok_X5_ordered w_1116 (by decide) rfl rfl (Nat.le_of_ble_eq_true rfl) rfl rfl ⟨Nat.le_of_ble_eq_true rfl, Nat.le_of_ble_eq_true rfl⟩ dX5_isWhole_138 ?_
                          refine j_if_ge (tgt := 166) C dX5_isWhole_141 (by decide) (fun h141 => ?_) (fun h141 => ?_)
                          · skip
                            refine j_iconst (v := (nI 1)) C dX5_isWhole_166 rfl ?_
                            refine j_goto (tgt := 171) C dX5_isWhole_167 (by decide) ?_
                            refine j_iand (z := (u &&& (nI 1))) C dX5_isWhole_171 rfl ?_
                            refine j_istore_n (lv' := [(1, .int (u &&& (nI 1))), (4, .int (nI q)), (3, .int (nI j)), (2, .int (nI k)), (0, .ref mo)]) C dX5_isWhole_172 (by decide) rfl ?_
                            refine j_iinc (lv' := [(4, .int (nI (q + 1))), (1, .int (u &&& (nI 1))), (3, .int (nI j)), (2, .int (nI k)), (0, .ref mo)]) C dX5_isWhole_173 rfl (nI_1 _) (by decide) rfl ?_
                            refine j_goto (tgt := 126) C dX5_isWhole_176 (by decide) ?_
                            refine j_lv (lv' := [(4, .int (nI (q + 1))), (3, .int (nI j)), (2, .int (nI k)), (1, .int (u &&& (nI 1))), (0, .ref mo)]) (by simp only [List.mem_cons, List.not_mem_nil, or_false, forall_eq_or_imp, forall_eq, true_or, or_true, and_self, Nat.add_zero]) ?_
                            exact ih126 (q + 1) _ (by omega) (by first | exact hu | exact and01 hu (Or.inl rfl) | exact and01 hu (Or.inr rfl) | exact Or.inr rfl)
                          · skip
                            refine j_aload_n C dX5_isWhole_144 rfl ?_
                            refine j_iload_n C dX5_isWhole_145 rfl ?_
                            refine j_iload C dX5_isWhole_146 rfl ?_
                            refine j_iconst (v := (nI 0)) C dX5_isWhole_148 rfl ?_
                            refine j_callVr C 6 (v := .int (ordV z g j q 0)) (w := (mW E x0 x1 x2 x3 x4 x5 mo ou th re ak gv kn ro LL ff)) (m_ordered l E A (by omega) (by omega) (by omega) hR) ok_X5_ordered w_1116 (by decide) rfl rfl (Nat.le_of_ble_eq_true rfl) rfl rfl ⟨Nat.le_of_ble_eq_true rfl, Nat.le_of_ble_eq_true rfl⟩ dX5_isWhole_149 ?_
                            refine j_if_ge (tgt := 166) C dX5_isWhole_152 (by decide) (fun h152 => ?_) (fun h152 => ?_)
                            · skip
                              refine j_iconst (v := (nI 1)) C dX5_isWhole_166 rfl ?_
                              refine j_goto (tgt := 171) C dX5_isWhole_167 (by decide) ?_
                              refine j_iand (z := (u &&& (nI 1))) C dX5_isWhole_171 rfl ?_
                              refine j_istore_n (lv' := [(1, .int (u &&& (nI 1))), (4, .int (nI q)), (3, .int (nI j)), (2, .int (nI k)), (0, .ref mo)]) C dX5_isWhole_172 (by decide) rfl ?_
                              refine j_iinc (lv' := [(4, .int (nI (q + 1))), (1, .int (u &&& (nI 1))), (3, .int (nI j)), (2, .int (nI k)), (0, .ref mo)]) C dX5_isWhole_173 rfl (nI_1 _) (by decide) rfl ?_
                              refine j_goto (tgt := 126) C dX5_isWhole_176 (by decide) ?_
                              refine j_lv (lv' := [(4, .int (nI (q + 1))), (3, .int (nI j)), (2, .int (nI k)), (1, .int (u &&& (nI 1))), (0, .ref mo)]) (by simp only [List.mem_cons, List.not_mem_nil, or_false, forall_eq_or_imp, forall_eq, true_or, or_true, and_self, Nat.add_zero]) ?_
                              exact ih126 (q + 1) _ (by omega) (by first | exact hu | exact and01 hu (Or.inl rfl) | exact and01 hu (Or.inr rfl) | exact Or.inr rfl)
                            · skip
                              refine j_aload_n C dX5_isWhole_155 rfl ?_
                              refine j_iload_n C dX5_isWhole_156 rfl ?_
                              refine j_iload C dX5_isWhole_157 rfl ?_
                              refine j_iconst (v := (nI 0)) C dX5_isWhole_159 rfl ?_
                              refine j_callVr C 6 (v := .int (ordV z g k q 0)) (w := (mW E x0 x1 x2 x3 x4 x5 mo ou th re ak gv kn ro LL ff)) (m_ordered l E A (by omega) (by omega) (by omega) hR) ok_X5_ordered w_1116 (by decide) rfl rfl (Nat.le_of_ble_eq_true rfl) rfl rfl ⟨Nat.le_of_ble_eq_true rfl, Nat.le_of_ble_eq_true rfl⟩ dX5_isWhole_160 ?_
                              refine j_if_ge (tgt := 170) C dX5_isWhole_163 (by decide) (fun h163 => ?_) (fun h163 => ?_)
                              · skip
                                refine j_iconst (v := (nI 0)) C dX5_isWhole_170 rfl ?_
                                refine j_iand (z := (u &&& (nI 0))) C dX5_isWhole_171 rfl ?_
                                refine j_istore_n (lv' := [(1, .int (u &&& (nI 0))), (4, .int (nI q)), (3, .int (nI j)), (2, .int (nI k)), (0, .ref mo)]) C dX5_isWhole_172 (by decide) rfl ?_
                                refine j_iinc (lv' := [(4, .int (nI (q + 1))), (1, .int (u &&& (nI 0))), (3, .int (nI j)), (2, .int (nI k)), (0, .ref mo)]) C dX5_isWhole_173 rfl (nI_1 _) (by decide) rfl ?_
                                refine j_goto (tgt := 126) C dX5_isWhole_176 (by decide) ?_
                                refine j_lv (lv' := [(4, .int (nI (q + 1))), (3, .int (nI j)), (2, .int (nI k)), (1, .int (u &&& (nI 0))), (0, .ref mo)]) (by simp only [List.mem_cons, List.not_mem_nil, or_false, forall_eq_or_imp, forall_eq, true_or, or_true, and_self, Nat.add_zero]) ?_
                                exact ih126 (q + 1) _ (by omega) (by first | exact hu | exact and01 hu (Or.inl rfl) | exact and01 hu (Or.inr rfl) | exact Or.inr rfl)
                              · skip
                                refine j_iconst (v := (nI 1)) C dX5_isWhole_166 rfl ?_
                                refine j_goto (tgt := 171) C dX5_isWhole_167 (by decide) ?_
                                refine j_iand (z := (u &&& (nI 1))) C dX5_isWhole_171 rfl ?_
                                refine j_istore_n (lv' := [(1, .int (u &&& (nI 1))), (4, .int (nI q)), (3, .int (nI j)), (2, .int (nI k)), (0, .ref mo)]) C dX5_isWhole_172 (by decide) rfl ?_
                                refine j_iinc (lv' := [(4, .int (nI (q + 1))), (1, .int (u &&& (nI 1))), (3, .int (nI j)), (2, .int (nI k)), (0, .ref mo)]) C dX5_isWhole_173 rfl (nI_1 _) (by decide) rfl ?_
                                refine j_goto (tgt := 126) C dX5_isWhole_176 (by decide) ?_
                                refine j_lv (lv' := [(4, .int (nI (q + 1))), (3, .int (nI j)), (2, .int (nI k)), (1, .int (u &&& (nI 1))), (0, .ref mo)]) (by simp only [List.mem_cons, List.not_mem_nil, or_false, forall_eq_or_imp, forall_eq, true_or, or_true, and_self, Nat.add_zero]) ?_
                                exact ih126 (q + 1) _ (by omega) (by first | exact hu | exact and01 hu (Or.inl rfl) | exact and01 hu (Or.inr rfl) | exact Or.inr rfl)
                      refine j_lv (lv' := [(4, .int (nI 0)), (3, .int (nI j)), (2, .int (nI k)), (1, .int (u &&& (nI 1))), (0, .ref mo)]) (by simp only [List.mem_cons, List.not_mem_nil, or_false, forall_eq_or_imp, forall_eq, true_or, or_true, and_self, Nat.add_zero]) ?_
                      exact L126 9 0 _ (by omega) (by first | exact hu | exact and01 hu (Or.inl rfl) | exact and01 hu (Or.inr rfl) | exact Or.inr rfl)
            | succ r ih21 =>
              intro o u hk21 hu
              refine j_iload C dX5_isWhole_21 rfl ?_
              refine j_iconst (v := (nI 4)) C dX5_isWhole_23 rfl ?_
              refine j_icmpn_ge_f (tgt := 61) C dX5_isWhole_24 (by decide) (by omega) (by omega) (by omega) ?_
              refine j_iload_n C dX5_isWhole_27 rfl ?_
              refine j_aload_n C dX5_isWhole_28 rfl ?_
              refine j_iload_n C dX5_isWhole_29 rfl ?_
              refine j_iload_n C dX5_isWhole_30 rfl ?_
              refine j_iload C dX5_isWhole_31 rfl ?_
              refine j_callVr C 6 (v := .int (ordV z g k j o)) (w := (mW E x0 x1 x2 x3 x4 x5 mo ou th re ak gv kn ro LL ff)) (m_ordered l E A (by omega) (by omega) (by omega) hR) ok_X5_ordered w_1116 (by decide) rfl rfl (Nat.le_of_ble_eq_true rfl) rfl rfl ⟨Nat.le_of_ble_eq_true rfl, Nat.le_of_ble_eq_true rfl⟩ dX5_isWhole_33 ?_
              refine j_aload_n C dX5_isWhole_36 rfl ?_
              refine j_iload_n C dX5_isWhole_37 rfl ?_
              refine j_iload_n C dX5_isWhole_38 rfl ?_
              refine j_iload C dX5_isWhole_39 rfl ?_
              refine j_callVr C 6 (v := .int (ordV z g j k o)) (w := (mW E x0 x1 x2 x3 x4 x5 mo ou th re ak gv kn ro LL ff)) (m_ordered l E A (by omega) (by omega) (by omega) hR) ok_X5_ordered w_1116 (by decide) rfl rfl (Nat.le_of_ble_eq_true rfl) rfl rfl ⟨Nat.le_of_ble_eq_true rfl, Nat.le_of_ble_eq_true rfl⟩ dX5_isWhole_41 ?_
              refine j_ineg (z := (-(ordV z g j k o))) C dX5_isWhole_44 rfl ?_
              refine j_icmp_ne (tgt := 52) C dX5_isWhole_45 (by decide) (fun h45 => ?_) (fun h45 => ?_)
              · skip
                refine j_iconst (v := (nI 0)) C dX5_isWhole_52 rfl ?_
                refine j_iand (z := (u &&& (nI 0))) C dX5_isWhole_53 rfl ?_
                refine j_istore_n (lv' := [(1, .int (u &&& (nI 0))), (4, .int (nI o)), (3, .int (nI j)), (2, .int (nI k)), (0, .ref mo)]) C dX5_isWhole_54 (by decide) rfl ?_
                refine j_iinc (lv' := [(4, .int (nI (o + 1))), (1, .int (u &&& (nI 0))), (3, .int (nI j)), (2, .int (nI k)), (0, .ref mo)]) C dX5_isWhole_55 rfl (nI_1 _) (by decide) rfl ?_
                refine j_goto (tgt := 21) C dX5_isWhole_58 (by decide) ?_
                refine j_lv (lv' := [(4, .int (nI (o + 1))), (3, .int (nI j)), (2, .int (nI k)), (1, .int (u &&& (nI 0))), (0, .ref mo)]) (by simp only [List.mem_cons, List.not_mem_nil, or_false, forall_eq_or_imp, forall_eq, true_or, or_true, and_self, Nat.add_zero]) ?_
                exact ih21 (o + 1) _ (by omega) (by first | exact hu | exact and01 hu (Or.inl rfl) | exact and01 hu (Or.inr rfl) | exact Or.inr rfl)
              · skip
                refine j_iconst (v := (nI 1)) C dX5_isWhole_48 rfl ?_
                refine j_goto (tgt := 53) C dX5_isWhole_49 (by decide) ?_
                refine j_iand (z := (u &&& (nI 1))) C dX5_isWhole_53 rfl ?_
                refine j_istore_n (lv' := [(1, .int (u &&& (nI 1))), (4, .int (nI o)), (3, .int (nI j)), (2, .int (nI k)), (0, .ref mo)]) C dX5_isWhole_54 (by decide) rfl ?_
                refine j_iinc (lv' := [(4, .int (nI (o + 1))), (1, .int (u &&& (nI 1))), (3, .int (nI j)), (2, .int (nI k)), (0, .ref mo)]) C dX5_isWhole_55 rfl (nI_1 _) (by decide) rfl ?_
                refine j_goto (tgt := 21) C dX5_isWhole_58 (by decide) ?_
                refine j_lv (lv' := [(4, .int (nI (o + 1))), (3, .int (nI j)), (2, .int (nI k)), (1, .int (u &&& (nI 1))), (0, .ref mo)]) (by simp only [List.mem_cons, List.not_mem_nil, or_false, forall_eq_or_imp, forall_eq, true_or, or_true, and_self, Nat.add_zero]) ?_
                exact ih21 (o + 1) _ (by omega) (by first | exact hu | exact and01 hu (Or.inl rfl) | exact and01 hu (Or.inr rfl) | exact Or.inr rfl)
          refine j_lv (lv' := [(4, .int (nI 0)), (3, .int (nI j)), (2, .int (nI k)), (1, .int u), (0, .ref mo)]) (by simp only [List.mem_cons, List.not_mem_nil, or_false, forall_eq_or_imp, forall_eq, true_or, or_true, and_self, Nat.add_zero]) ?_
          exact L21 4 0 _ (by omega) (by first | exact hu | exact and01 hu (Or.inl rfl) | exact and01 hu (Or.inr rfl) | exact Or.inr rfl)
      refine j_lv (lv' := [(3, .int (nI 0)), (2, .int (nI k)), (1, .int u), (0, .ref mo)]) (by simp only [List.mem_cons, List.not_mem_nil, or_false, forall_eq_or_imp, forall_eq, true_or, or_true, and_self, Nat.add_zero]) ?_
      exact L12 9 0 _ (by omega) (by first | exact hu | exact and01 hu (Or.inl rfl) | exact and01 hu (Or.inr rfl) | exact Or.inr rfl)
  refine j_lv (lv' := [(2, .int (nI 0)), (1, .int (nI 1)), (0, .ref mo)]) (by simp only [List.mem_cons, List.not_mem_nil, or_false, forall_eq_or_imp, forall_eq, true_or, or_true, and_self, Nat.add_zero]) ?_
  exact L4 9 0 _ (by omega) (by first | exact hu | exact and01 hu (Or.inl rfl) | exact and01 hu (Or.inr rfl) | exact Or.inr rfl)
set_option maxHeartbeats 4000000 in
set_option maxRecDepth 100000 in
theorem g_isSound_k (l : Launch) (E : jE) (A : Nat → Prop) {x0 x1 x2 x3 x4 x5 : Nat × va_E} {mo ou : Nat} {th re ak gv kn : Int32} {ro : Nat → Option Nat} {LL : List Nat} {ff : Nat → va_E} {z g : Nat → Int32} (hR : Rel E z g ro LL ff)  : jMet l yX5_isSound cX5_isSound 1 (some .boolean) 5 0 0 E A [.ref mo] (mW E x0 x1 x2 x3 x4 x5 mo ou th re ak gv kn ro LL ff) (jRe P01 (mW E x0 x1 x2 x3 x4 x5 mo ou (nI 0) re ak gv kn ro LL ff)) jNo := by
  refine jMet.intro' [(0, .ref mo)] (by decide) (Nat.le_of_ble_eq_true rfl) rfl ?_
  intro p e R s m args below meth c Q C hQ
  refine j_aload_n C dX5_isSound_0 rfl ?_
  refine j_aload_n C dX5_isSound_1 rfl ?_
  refine j_callVe C 6 (w := (mW E x0 x1 x2 x3 x4 x5 mo ou th re ak gv kn ro LL ff)) (m_isWhole l E A hR) ok_X5_isWhole w_1197 (by decide) rfl rfl (Nat.le_of_ble_eq_true rfl) rfl rfl ⟨Nat.le_of_ble_eq_true rfl, Nat.le_of_ble_eq_true rfl⟩ dX5_isSound_2 (fun u1 hu2 => ?_)
  have nhu2 := nar01 hu2
  refine j_callVr C 6 (v := .int u1) (w := (mW E x0 x1 x2 x3 x4 x5 mo ou (nI 0) re ak gv kn ro LL ff)) (m_is l E A (by assumption)) ok_X5_is w_1042 (by decide) rfl rfl (Nat.le_of_ble_eq_true rfl) rfl rfl ⟨Nat.le_of_ble_eq_true rfl, Nat.le_of_ble_eq_true rfl⟩ dX5_isSound_5 ?_
  exact j_zret C hQ rfl (nar01 hu2) dX5_isSound_8 ⟨Nat.le_of_ble_eq_true rfl, Nat.le_of_ble_eq_true rfl⟩ ⟨⟨_, rfl, hu2⟩, rfl⟩
set_option maxHeartbeats 4000000 in
set_option maxRecDepth 100000 in
theorem g_digest_k (l : Launch) (E : jE) (A : Nat → Prop) {x0 x1 x2 x3 x4 x5 : Nat × va_E} {mo ou : Nat} {th re ak gv kn : Int32} {ro : Nat → Option Nat} {LL : List Nat} {ff : Nat → va_E} {z g : Nat → Int32} (hR : Rel E z g ro LL ff)  : jMet l yX5_digest cX5_digest 6 (some .long) 5 6 36 E A [.ref mo] (mW E x0 x1 x2 x3 x4 x5 mo ou th re ak gv kn ro LL ff) (fun vv ww => ∃ (x : Int64) (L2 : List Nat) (f2 : Nat → va_E), (∀ a, a ∈ LL → a ∈ L2 ∧ f2 a = ff a) ∧ vv = some (.long x) ∧ ww = (mW E x0 x1 x2 x3 x4 x5 mo ou (nI 0) re ak gv kn ro L2 f2)) jNo := by
  refine jMet.intro' [(0, .ref mo)] (by decide) (Nat.le_of_ble_eq_true rfl) rfl ?_
  intro p e R s m args below meth c Q C hQ
  refine j_aload_n C dX5_digest_0 rfl ?_
  refine j_iconst (v := (nI 0)) C dX5_digest_1 rfl ?_
  refine j_put (ws' := (mW E x0 x1 x2 x3 x4 x5 mo ou (nI 0) re ak gv kn ro LL ff)) C 6 rfl inj_X5 tyX5 tyX5_ok nmX5 rfl 0 (by decide) w_921 rfl (tyX5_ok 0 (by decide)) rfl rfl (Nat.le_of_ble_eq_true rfl) dX5_digest_2 rfl ?_
  refine j_ldc2 C w_1205 dX5_digest_5 ?_
  refine j_lstore_n (lv' := [(1, .long 7777), (0, .ref mo)]) C dX5_digest_8 (by decide) rfl ?_
  refine j_iconst (v := (nI 0)) C dX5_digest_9 rfl ?_
  refine j_istore_n (lv' := [(3, .int (nI 0)), (1, .long 7777), (0, .ref mo)]) C dX5_digest_10 (by decide) rfl ?_
  have L11 : ∀ (r k : Nat) (u : Int64) (L2 : List Nat) (f2 : Nat → va_E), k + r = 6 → (∀ a, a ∈ LL → a ∈ L2 ∧ f2 a = ff a) → jJ p l e R s m args below meth c E A 6 Q k (k * 6) 11 [(3, .int (nI k)), (1, .long u), (0, .ref mo)] [] (mW E x0 x1 x2 x3 x4 x5 mo ou (nI 0) re ak gv kn ro L2 f2) := by
    intro r
    induction r with
    | zero =>
      intro k u L2 f2 hk11 hx
      refine j_iload_n C dX5_digest_11 rfl ?_
      refine j_iconst (v := (nI 5)) C dX5_digest_12 rfl ?_
      refine j_icmpn_gt_t (tgt := 33) C dX5_digest_13 (by decide) (by omega) (by omega) (by omega) ?_
      have ek : 6 = k := by omega
      subst ek
      have hR := hR.ext hx
      refine j_widen (k := 6) (n := 36) (by omega) (by omega) ?_
      refine j_iconst (v := (nI 0)) C dX5_digest_33 rfl ?_
      refine j_istore_n (lv' := [(3, .int (nI 0)), (1, .long u), (0, .ref mo)]) C dX5_digest_34 (by decide) rfl ?_
      have L35 : ∀ (r k : Nat) (u : Int64), k + r = 9 → jJ p l e R s m args below meth c E A 6 Q 6 36 35 [(3, .int (nI k)), (1, .long u), (0, .ref mo)] [] (mW E x0 x1 x2 x3 x4 x5 mo ou (nI 0) re ak gv kn ro L2 f2) := by
        intro r
        induction r with
        | zero =>
          intro k u hk35 
          refine j_iload_n C dX5_digest_35 rfl ?_
          refine j_bipush (v := (nI 9)) C dX5_digest_36 rfl ?_
          refine j_icmpn_ge_t (tgt := 71) C dX5_digest_38 (by decide) (by omega) (by omega) (by omega) ?_
          refine j_iconst (v := (nI 0)) C dX5_digest_71 rfl ?_
          refine j_istore_n (lv' := [(3, .int (nI 0)), (1, .long u), (0, .ref mo)]) C dX5_digest_72 (by decide) rfl ?_
          have L73 : ∀ (r k : Nat) (u : Int64), k + r = 9 → jJ p l e R s m args below meth c E A 6 Q 6 36 73 [(3, .int (nI k)), (1, .long u), (0, .ref mo)] [] (mW E x0 x1 x2 x3 x4 x5 mo ou (nI 0) re ak gv kn ro L2 f2) := by
            intro r
            induction r with
            | zero =>
              intro k u hk73 
              refine j_iload_n C dX5_digest_73 rfl ?_
              refine j_bipush (v := (nI 9)) C dX5_digest_74 rfl ?_
              refine j_icmpn_ge_t (tgt := 131) C dX5_digest_76 (by decide) (by omega) (by omega) (by omega) ?_
              refine j_iconst (v := (nI 0)) C dX5_digest_131 rfl ?_
              refine j_istore_n (lv' := [(3, .int (nI 0)), (1, .long u), (0, .ref mo)]) C dX5_digest_132 (by decide) rfl ?_
              have L133 : ∀ (r k : Nat) (u : Int64), k + r = 3 → jJ p l e R s m args below meth c E A 6 Q 6 36 133 [(3, .int (nI k)), (1, .long u), (0, .ref mo)] [] (mW E x0 x1 x2 x3 x4 x5 mo ou (nI 0) re ak gv kn ro L2 f2) := by
                intro r
                induction r with
                | zero =>
                  intro k u hk133 
                  refine j_iload_n C dX5_digest_133 rfl ?_
                  refine j_iconst (v := (nI 3)) C dX5_digest_134 rfl ?_
                  refine j_icmpn_ge_t (tgt := 162) C dX5_digest_135 (by decide) (by omega) (by omega) (by omega) ?_
                  refine j_lload_n C dX5_digest_162 rfl ?_
                  refine j_aload_n C dX5_digest_163 rfl ?_
                  refine j_callVe C 6 (w := (mW E x0 x1 x2 x3 x4 x5 mo ou (nI 0) re ak gv kn ro L2 f2)) (m_isWhole l E A hR) ok_X5_isWhole w_1197 (by decide) rfl rfl (Nat.le_of_ble_eq_true rfl) rfl rfl ⟨Nat.le_of_ble_eq_true rfl, Nat.le_of_ble_eq_true rfl⟩ dX5_digest_164 (fun u1 hu2 => ?_)
                  have nhu2 := nar01 hu2
                  refine j_callSr C (v := .int u1) (w := (mW E x0 x1 x2 x3 x4 x5 mo ou (nI 0) re ak gv kn ro L2 f2)) (m_one_v l E A hu2) ok_X5_one w_956 (by decide) rfl rfl (Nat.le_of_ble_eq_true rfl) ⟨Nat.le_of_ble_eq_true rfl, Nat.le_of_ble_eq_true rfl⟩ dX5_digest_167 ?_
                  refine j_i2l (v := u1.toInt64) C dX5_digest_170 rfl ?_
                  refine j_callSr C (v := .long (u * 31 + u1.toInt64)) (w := (mW E x0 x1 x2 x3 x4 x5 mo ou (nI 0) re ak gv kn ro L2 f2)) (m_add l E A) ok_X5_add w_1206 (by decide) rfl rfl (Nat.le_of_ble_eq_true rfl) ⟨Nat.le_of_ble_eq_true rfl, Nat.le_of_ble_eq_true rfl⟩ dX5_digest_171 ?_
                  exact j_lret C hQ rfl dX5_digest_174 ⟨Nat.le_of_ble_eq_true rfl, Nat.le_of_ble_eq_true rfl⟩ ⟨_, _, _, hx, rfl, rfl⟩
                | succ r ih133 =>
                  intro k u hk133 
                  refine j_iload_n C dX5_digest_133 rfl ?_
                  refine j_iconst (v := (nI 3)) C dX5_digest_134 rfl ?_
                  refine j_icmpn_ge_f (tgt := 162) C dX5_digest_135 (by decide) (by omega) (by omega) (by omega) ?_
                  refine j_lload_n C dX5_digest_138 rfl ?_
                  refine j_aload_n C dX5_digest_139 rfl ?_
                  refine j_iload_n C dX5_digest_140 rfl ?_
                  refine j_iload_n C dX5_digest_141 rfl ?_
                  refine j_iconst (v := (nI 3)) C dX5_digest_142 rfl ?_
                  refine j_iadd (z := (nI (k + 3))) C dX5_digest_143 (nI_add _ _) ?_
                  refine j_iload_n C dX5_digest_144 rfl ?_
                  refine j_bipush (v := (nI 6)) C dX5_digest_145 rfl ?_
                  refine j_iadd (z := (nI (k + 6))) C dX5_digest_147 (nI_add _ _) ?_
                  refine j_callVr C 6 (v := .int (cod3 (codS z g k) (codS z g (k + 3)) (codS z g (k + 6)))) (w := (mW E x0 x1 x2 x3 x4 x5 mo ou (nI 0) re ak gv kn ro L2 f2)) (m_codesOf l E A (by omega) (by omega) (by omega) hR) ok_X5_codesOf w_1177 (by decide) rfl rfl (Nat.le_of_ble_eq_true rfl) rfl rfl ⟨Nat.le_of_ble_eq_true rfl, Nat.le_of_ble_eq_true rfl⟩ dX5_digest_148 ?_
                  refine j_i2l (v := (cod3 (codS z g k) (codS z g (k + 3)) (codS z g (k + 6))).toInt64) C dX5_digest_151 rfl ?_
                  refine j_callSr C (v := .long (u * 31 + ((cod3 (codS z g k) (codS z g (k + 3)) (codS z g (k + 6))).toInt64))) (w := (mW E x0 x1 x2 x3 x4 x5 mo ou (nI 0) re ak gv kn ro L2 f2)) (m_add l E A) ok_X5_add w_1206 (by decide) rfl rfl (Nat.le_of_ble_eq_true rfl) ⟨Nat.le_of_ble_eq_true rfl, Nat.le_of_ble_eq_true rfl⟩ dX5_digest_152 ?_
                  refine j_lstore_n (lv' := [(1, .long (u * 31 + ((cod3 (codS z g k) (codS z g (k + 3)) (codS z g (k + 6))).toInt64))), (3, .int (nI k)), (0, .ref mo)]) C dX5_digest_155 (by decide) rfl ?_
                  refine j_iinc (lv' := [(3, .int (nI (k + 1))), (1, .long (u * 31 + ((cod3 (codS z g k) (codS z g (k + 3)) (codS z g (k + 6))).toInt64))), (0, .ref mo)]) C dX5_digest_156 rfl (nI_1 _) (by decide) rfl ?_
                  refine j_goto (tgt := 133) C dX5_digest_159 (by decide) ?_
                  refine j_lv (lv' := [(3, .int (nI (k + 1))), (1, .long (u * 31 + ((cod3 (codS z g k) (codS z g (k + 3)) (codS z g (k + 6))).toInt64))), (0, .ref mo)]) (by simp only [List.mem_cons, List.not_mem_nil, or_false, forall_eq_or_imp, forall_eq, true_or, or_true, and_self, Nat.add_zero]) ?_
                  exact ih133 (k + 1) _ (by omega)
              refine j_lv (lv' := [(3, .int (nI 0)), (1, .long u), (0, .ref mo)]) (by simp only [List.mem_cons, List.not_mem_nil, or_false, forall_eq_or_imp, forall_eq, true_or, or_true, and_self, Nat.add_zero]) ?_
              exact L133 3 0 _ (by omega)
            | succ r ih73 =>
              intro k u hk73 
              refine j_iload_n C dX5_digest_73 rfl ?_
              refine j_bipush (v := (nI 9)) C dX5_digest_74 rfl ?_
              refine j_icmpn_ge_f (tgt := 131) C dX5_digest_76 (by decide) (by omega) (by omega) (by omega) ?_
              refine j_iconst (v := (nI 0)) C dX5_digest_79 rfl ?_
              refine j_istore (lv' := [(4, .int (nI 0)), (3, .int (nI k)), (1, .long u), (0, .ref mo)]) C dX5_digest_80 (by decide) rfl ?_
              have L82 : ∀ (r j : Nat) (u : Int64), j + r = 9 → jJ p l e R s m args below meth c E A 6 Q 6 36 82 [(4, .int (nI j)), (3, .int (nI k)), (1, .long u), (0, .ref mo)] [] (mW E x0 x1 x2 x3 x4 x5 mo ou (nI 0) re ak gv kn ro L2 f2) := by
                intro r
                induction r with
                | zero =>
                  intro j u hk82 
                  refine j_iload C dX5_digest_82 rfl ?_
                  refine j_bipush (v := (nI 9)) C dX5_digest_84 rfl ?_
                  refine j_icmpn_ge_t (tgt := 125) C dX5_digest_86 (by decide) (by omega) (by omega) (by omega) ?_
                  refine j_iinc (lv' := [(3, .int (nI (k + 1))), (4, .int (nI j)), (1, .long u), (0, .ref mo)]) C dX5_digest_125 rfl (nI_1 _) (by decide) rfl ?_
                  refine j_goto (tgt := 73) C dX5_digest_128 (by decide) ?_
                  refine j_lv (lv' := [(3, .int (nI (k + 1))), (1, .long u), (0, .ref mo)]) (by simp only [List.mem_cons, List.not_mem_nil, or_false, forall_eq_or_imp, forall_eq, true_or, or_true, and_self, Nat.add_zero]) ?_
                  exact ih73 (k + 1) _ (by omega)
                | succ r ih82 =>
                  intro j u hk82 
                  refine j_iload C dX5_digest_82 rfl ?_
                  refine j_bipush (v := (nI 9)) C dX5_digest_84 rfl ?_
                  refine j_icmpn_ge_f (tgt := 125) C dX5_digest_86 (by decide) (by omega) (by omega) (by omega) ?_
                  refine j_iconst (v := (nI 0)) C dX5_digest_89 rfl ?_
                  refine j_istore (lv' := [(5, .int (nI 0)), (4, .int (nI j)), (3, .int (nI k)), (1, .long u), (0, .ref mo)]) C dX5_digest_90 (by decide) rfl ?_
                  have L92 : ∀ (r o : Nat) (u : Int64), o + r = 4 → jJ p l e R s m args below meth c E A 6 Q 6 36 92 [(5, .int (nI o)), (4, .int (nI j)), (3, .int (nI k)), (1, .long u), (0, .ref mo)] [] (mW E x0 x1 x2 x3 x4 x5 mo ou (nI 0) re ak gv kn ro L2 f2) := by
                    intro r
                    induction r with
                    | zero =>
                      intro o u hk92 
                      refine j_iload C dX5_digest_92 rfl ?_
                      refine j_iconst (v := (nI 4)) C dX5_digest_94 rfl ?_
                      refine j_icmpn_ge_t (tgt := 119) C dX5_digest_95 (by decide) (by omega) (by omega) (by omega) ?_
                      refine j_iinc (lv' := [(4, .int (nI (j + 1))), (5, .int (nI o)), (3, .int (nI k)), (1, .long u), (0, .ref mo)]) C dX5_digest_119 rfl (nI_1 _) (by decide) rfl ?_
                      refine j_goto (tgt := 82) C dX5_digest_122 (by decide) ?_
                      refine j_lv (lv' := [(4, .int (nI (j + 1))), (3, .int (nI k)), (1, .long u), (0, .ref mo)]) (by simp only [List.mem_cons, List.not_mem_nil, or_false, forall_eq_or_imp, forall_eq, true_or, or_true, and_self, Nat.add_zero]) ?_
                      exact ih82 (j + 1) _ (by omega)
                    | succ r ih92 =>
                      intro o u hk92 
                      refine j_iload C dX5_digest_92 rfl ?_
                      refine j_iconst (v := (nI 4)) C dX5_digest_94 rfl ?_
                      refine j_icmpn_ge_f (tgt := 119) C dX5_digest_95 (by decide) (by omega) (by omega) (by omega) ?_
                      refine j_lload_n C dX5_digest_98 rfl ?_
                      refine j_aload_n C dX5_digest_99 rfl ?_
                      refine j_iload_n C dX5_digest_100 rfl ?_
                      refine j_iload C dX5_digest_101 rfl ?_
                      refine j_iload C dX5_digest_103 rfl ?_
                      refine j_callVr C 6 (v := .int (ordV z g k j o)) (w := (mW E x0 x1 x2 x3 x4 x5 mo ou (nI 0) re ak gv kn ro L2 f2)) (m_ordered l E A (by omega) (by omega) (by omega) hR) ok_X5_ordered w_1116 (by decide) rfl rfl (Nat.le_of_ble_eq_true rfl) rfl rfl ⟨Nat.le_of_ble_eq_true rfl, Nat.le_of_ble_eq_true rfl⟩ dX5_digest_105 ?_
                      refine j_i2l (v := (ordV z g k j o).toInt64) C dX5_digest_108 rfl ?_
                      refine j_callSr C (v := .long (u * 31 + ((ordV z g k j o).toInt64))) (w := (mW E x0 x1 x2 x3 x4 x5 mo ou (nI 0) re ak gv kn ro L2 f2)) (m_add l E A) ok_X5_add w_1206 (by decide) rfl rfl (Nat.le_of_ble_eq_true rfl) ⟨Nat.le_of_ble_eq_true rfl, Nat.le_of_ble_eq_true rfl⟩ dX5_digest_109 ?_
                      refine j_lstore_n (lv' := [(1, .long (u * 31 + ((ordV z g k j o).toInt64))), (5, .int (nI o)), (4, .int (nI j)), (3, .int (nI k)), (0, .ref mo)]) C dX5_digest_112 (by decide) rfl ?_
                      refine j_iinc (lv' := [(5, .int (nI (o + 1))), (1, .long (u * 31 + ((ordV z g k j o).toInt64))), (4, .int (nI j)), (3, .int (nI k)), (0, .ref mo)]) C dX5_digest_113 rfl (nI_1 _) (by decide) rfl ?_
                      refine j_goto (tgt := 92) C dX5_digest_116 (by decide) ?_
                      refine j_lv (lv' := [(5, .int (nI (o + 1))), (4, .int (nI j)), (3, .int (nI k)), (1, .long (u * 31 + ((ordV z g k j o).toInt64))), (0, .ref mo)]) (by simp only [List.mem_cons, List.not_mem_nil, or_false, forall_eq_or_imp, forall_eq, true_or, or_true, and_self, Nat.add_zero]) ?_
                      exact ih92 (o + 1) _ (by omega)
                  refine j_lv (lv' := [(5, .int (nI 0)), (4, .int (nI j)), (3, .int (nI k)), (1, .long u), (0, .ref mo)]) (by simp only [List.mem_cons, List.not_mem_nil, or_false, forall_eq_or_imp, forall_eq, true_or, or_true, and_self, Nat.add_zero]) ?_
                  exact L92 4 0 _ (by omega)
              refine j_lv (lv' := [(4, .int (nI 0)), (3, .int (nI k)), (1, .long u), (0, .ref mo)]) (by simp only [List.mem_cons, List.not_mem_nil, or_false, forall_eq_or_imp, forall_eq, true_or, or_true, and_self, Nat.add_zero]) ?_
              exact L82 9 0 _ (by omega)
          refine j_lv (lv' := [(3, .int (nI 0)), (1, .long u), (0, .ref mo)]) (by simp only [List.mem_cons, List.not_mem_nil, or_false, forall_eq_or_imp, forall_eq, true_or, or_true, and_self, Nat.add_zero]) ?_
          exact L73 9 0 _ (by omega)
        | succ r ih35 =>
          intro k u hk35 
          refine j_iload_n C dX5_digest_35 rfl ?_
          refine j_bipush (v := (nI 9)) C dX5_digest_36 rfl ?_
          refine j_icmpn_ge_f (tgt := 71) C dX5_digest_38 (by decide) (by omega) (by omega) (by omega) ?_
          refine j_lload_n C dX5_digest_41 rfl ?_
          refine j_aload_n C dX5_digest_42 rfl ?_
          refine j_iload_n C dX5_digest_43 rfl ?_
          refine j_callVr C 6 (v := .int (z k)) (w := (mW E x0 x1 x2 x3 x4 x5 mo ou (nI 0) re ak gv kn ro L2 f2)) (m_many_z l E A hR (by omega)) ok_X5_many w_970 (by decide) rfl rfl (Nat.le_of_ble_eq_true rfl) rfl rfl ⟨Nat.le_of_ble_eq_true rfl, Nat.le_of_ble_eq_true rfl⟩ dX5_digest_44 ?_
          refine j_i2l (v := (z k).toInt64) C dX5_digest_47 rfl ?_
          refine j_callSr C (v := .long (u * 31 + ((z k).toInt64))) (w := (mW E x0 x1 x2 x3 x4 x5 mo ou (nI 0) re ak gv kn ro L2 f2)) (m_add l E A) ok_X5_add w_1206 (by decide) rfl rfl (Nat.le_of_ble_eq_true rfl) ⟨Nat.le_of_ble_eq_true rfl, Nat.le_of_ble_eq_true rfl⟩ dX5_digest_48 ?_
          refine j_aload_n C dX5_digest_51 rfl ?_
          refine j_get C 6 rfl inj_X5 rfl 1 (by decide) w_922 rfl dX5_digest_52 ?_
          refine j_iload_n C dX5_digest_55 rfl ?_
          refine j_aaload (v := va_rf (ro k)) C 7 k rfl rfl (by omega) (by decide) rfl dX5_digest_56 ?_
          refine j_callSr C (v := .int (codS z g k)) (w := (mW E x0 x1 x2 x3 x4 x5 mo ou (nI 0) re ak gv kn ro L2 f2)) (m_codS l E A hR (i := k) (by omega)) ok_X5_codeOf w_1170 (by decide) rfl rfl (Nat.le_of_ble_eq_true rfl) ⟨Nat.le_of_ble_eq_true rfl, Nat.le_of_ble_eq_true rfl⟩ dX5_digest_57 ?_
          refine j_i2l (v := (codS z g k).toInt64) C dX5_digest_60 rfl ?_
          refine j_callSr C (v := .long ((u * 31 + ((z k).toInt64)) * 31 + ((codS z g k).toInt64))) (w := (mW E x0 x1 x2 x3 x4 x5 mo ou (nI 0) re ak gv kn ro L2 f2)) (m_add l E A) ok_X5_add w_1206 (by decide) rfl rfl (Nat.le_of_ble_eq_true rfl) ⟨Nat.le_of_ble_eq_true rfl, Nat.le_of_ble_eq_true rfl⟩ dX5_digest_61 ?_
          refine j_lstore_n (lv' := [(1, .long ((u * 31 + ((z k).toInt64)) * 31 + ((codS z g k).toInt64))), (3, .int (nI k)), (0, .ref mo)]) C dX5_digest_64 (by decide) rfl ?_
          refine j_iinc (lv' := [(3, .int (nI (k + 1))), (1, .long ((u * 31 + ((z k).toInt64)) * 31 + ((codS z g k).toInt64))), (0, .ref mo)]) C dX5_digest_65 rfl (nI_1 _) (by decide) rfl ?_
          refine j_goto (tgt := 35) C dX5_digest_68 (by decide) ?_
          refine j_lv (lv' := [(3, .int (nI (k + 1))), (1, .long ((u * 31 + ((z k).toInt64)) * 31 + ((codS z g k).toInt64))), (0, .ref mo)]) (by simp only [List.mem_cons, List.not_mem_nil, or_false, forall_eq_or_imp, forall_eq, true_or, or_true, and_self, Nat.add_zero]) ?_
          exact ih35 (k + 1) _ (by omega)
      refine j_lv (lv' := [(3, .int (nI 0)), (1, .long u), (0, .ref mo)]) (by simp only [List.mem_cons, List.not_mem_nil, or_false, forall_eq_or_imp, forall_eq, true_or, or_true, and_self, Nat.add_zero]) ?_
      exact L35 9 0 _ (by omega)
    | succ r ih11 =>
      intro k u L2 f2 hk11 hx
      refine j_iload_n C dX5_digest_11 rfl ?_
      refine j_iconst (v := (nI 5)) C dX5_digest_12 rfl ?_
      refine j_icmpn_gt_f (tgt := 33) C dX5_digest_13 (by decide) (by omega) (by omega) (by omega) ?_
      refine j_lload_n C dX5_digest_16 rfl ?_
      refine j_aload_n C dX5_digest_17 rfl ?_
      refine j_iload_n C dX5_digest_18 rfl ?_
      refine j_callV C (q0 := 6) (m_houseTold l E A (by omega) (hR.ext hx)) ok_X5_houseTold w_1189 (by decide) rfl rfl (Nat.le_of_ble_eq_true rfl) rfl rfl ⟨by omega, by omega⟩ dX5_digest_19 (fun _ _ h => h.elim) (fun _ _ h => ?_)
      obtain ⟨q, hh, hq, rfl, rfl⟩ := h
      refine j_i2l (v := (telV z re ak gv kn k).toInt64) C dX5_digest_22 rfl ?_
      refine j_callSr C (v := .long (u * 31 + ((telV z re ak gv kn k).toInt64))) (w := (mW E x0 x1 x2 x3 x4 x5 mo ou (nI 0) re ak gv kn ro (L2 ++ [q]) (va_up f2 q (.inl (E.2.1, 6, .inl hh))))) (m_add l E A) ok_X5_add w_1206 (by decide) rfl rfl (Nat.le_of_ble_eq_true rfl) ⟨by omega, by omega⟩ dX5_digest_23 ?_
      refine j_lstore_n (lv' := [(1, .long (u * 31 + ((telV z re ak gv kn k).toInt64))), (3, .int (nI k)), (0, .ref mo)]) C dX5_digest_26 (by decide) rfl ?_
      refine j_iinc (lv' := [(3, .int (nI (k + 1))), (1, .long (u * 31 + ((telV z re ak gv kn k).toInt64))), (0, .ref mo)]) C dX5_digest_27 rfl (nI_1 _) (by decide) rfl ?_
      refine j_goto (tgt := 11) C dX5_digest_30 (by decide) ?_
      refine j_lv (lv' := [(3, .int (nI (k + 1))), (1, .long (u * 31 + ((telV z re ak gv kn k).toInt64))), (0, .ref mo)]) (by simp only [List.mem_cons, List.not_mem_nil, or_false, forall_eq_or_imp, forall_eq, true_or, or_true, and_self, Nat.add_zero]) ?_
      refine j_widen (k := k + 1) (n := (k + 1) * 6) (by omega) (by omega) ?_
      exact ih11 (k + 1) _ _ _ (by omega) (ext_2 hx hq)
  refine j_lv (lv' := [(3, .int (nI 0)), (1, .long 7777), (0, .ref mo)]) (by simp only [List.mem_cons, List.not_mem_nil, or_false, forall_eq_or_imp, forall_eq, true_or, or_true, and_self, Nat.add_zero]) ?_
  exact L11 6 0 _ _ _ (by omega) (fun a h => ⟨h, rfl⟩)
