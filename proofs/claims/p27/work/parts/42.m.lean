/-! contracts, laid by program (wip/gen) -/
abbrev wth (h : Nat → Int32) (n : Nat) (x : Int32) : Nat → Int32 := pfx (fun q => if q < n then h q else x) (n + 1)
theorem wth_old {h : Nat → Int32} {n k : Nat} {x : Int32} (hk : k < n) : wth h n x k = h k := by
  show (if k < n + 1 then (if k < n then h k else x) else 0) = h k
  rw [if_pos (by omega), if_pos hk]
theorem wth_new {h : Nat → Int32} {n : Nat} {x : Int32} : wth h n x n = x := by
  show (if n < n + 1 then (if n < n then h n else x) else 0) = x
  rw [if_pos (by omega), if_neg (by omega)]
/-- class and reference hold the same desk -/
def Rel (E : jE) (z g : Nat → Int32) (ro : Nat → Option Nat) (LL : List Nat) (ff : Nat → va_E) : Prop :=
  (∀ i, i < 9 → (z i = -1 ∧ ro i = none) ∨ ∃ (a n : Nat) (h : Nat → Int32), n ≤ 24 ∧ z i = nI n ∧ ro i = some a ∧ a ∈ LL ∧ ff a = .inl (E.2.1, n, .inl h) ∧ ∀ k, k < n → h k = g (i * 24 + k) ∧ isSg (h k)) ∧
  ∀ i j a, i < 9 → j < 9 → ro i = some a → ro j = some a → i = j
theorem Rel.tx {E : jE} {z g : Nat → Int32} {ro : Nat → Option Nat} {LL : List Nat} {ff : Nat → va_E} (hR : Rel E z g ro LL ff) : ∀ i, i < 9 → txOk z g i := fun i hi => by
  rcases hR.1 i hi with h | ⟨a, n, h, hn, hz, -, -, -, hs⟩
  · exact Or.inl h.1
  · exact Or.inr ⟨n, hn, hz, fun k hk => (hs k hk).1 ▸ (hs k hk).2⟩
theorem cmpF_congr {f f' h h' : Nat → Int32} {e : Int32} : ∀ (r k : Nat), (∀ q, k ≤ q → q < k + r → f q = f' q) → (∀ q, k ≤ q → q < k + r → h q = h' q) → cmpF f h e k r = cmpF f' h' e k r
  | 0, _, _, _ => rfl
  | r + 1, k, h1, h2 => by
    rw [cmpF, cmpF, h1 k (Nat.le_refl _) (by omega), h2 k (Nat.le_refl _) (by omega), cmpF_congr r (k + 1) (fun q a b => h1 q (by omega) (by omega)) (fun q a b => h2 q (by omega) (by omega))]
theorem smI_neg (a b : Int32) : smI b a = -(smI a b) := by
  unfold smI
  by_cases h1 : a < b
  · have h2 : ¬ b < a := fun q => Int32.lt_irrefl (Int32.lt_trans h1 q)
    rw [if_pos h1, if_neg h2, if_pos h1]; decide
  · by_cases h2 : b < a
    · rw [if_pos h2, if_neg h1, if_pos h2]
    · rw [if_neg h2, if_neg h1, if_neg h1, if_neg h2]; decide
theorem cmpF_neg {f h : Nat → Int32} {e : Int32} : ∀ (r k : Nat), cmpF h f (-e) k r = -(cmpF f h e k r)
  | 0, _ => rfl
  | r + 1, k => by
    rw [cmpF, cmpF]
    by_cases h1 : f k < h k
    · have h2 : ¬ h k < f k := fun q => Int32.lt_irrefl (Int32.lt_trans h1 q)
      rw [if_neg h2, if_pos h1, if_pos h1]; decide
    · by_cases h2 : h k < f k
      · rw [if_pos h2, if_neg h1, if_pos h2]
      · rw [if_neg h2, if_neg h1, if_neg h1, if_neg h2, cmpF_neg r (k + 1)]
theorem cntF_congr {f f' : Nat → Int32} {x : Int32} : ∀ n : Nat, (∀ q, q < n → f q = f' q) → cntF f x n = cntF f' x n
  | 0, _ => rfl
  | n + 1, h => by rw [cntF, cntF, h n (by omega), cntF_congr n (fun q a => h q (by omega))]
theorem codeF_congr {f f' : Nat → Int32} : ∀ n : Nat, (∀ q, q < n → f q = f' q) → codeF f n = codeF f' n
  | 0, _ => rfl
  | n + 1, h => by rw [codeF, codeF, h n (by omega), codeF_congr n (fun q a => h q (by omega))]
theorem smI_ne0 {a b : Nat} (h : a ≠ b) (ha : a < 2 ^ 31) (hb : b < 2 ^ 31) : ¬ smI (nI a) (nI b) = 0 := by
  intro z
  obtain ⟨h1, h2⟩ := smI_0.mp z
  rcases Nat.lt_or_ge a b with q | q
  · exact h1 ((nI_ltI ha hb).mpr q)
  · exact h2 ((nI_ltI hb ha).mpr (by omega))
theorem ask_b (z : Nat → Int32) (i j : Nat) (a : Int32) : a + bI (¬ i = j ∧ ¬ (z i = -1 ∧ z j = -1)) = askI z i j a := by
  unfold askI
  by_cases h : ¬ i = j ∧ ¬ (z i = -1 ∧ z j = -1)
  · rw [if_pos h, bI_t h]; rfl
  · rw [if_neg h, bI_f h]; exact Int32.add_zero a
theorem ask_c (z : Nat → Int32) (i j : Nat) (a : Int32) : askI z i j a = askI z j i a := by
  unfold askI
  by_cases h : ¬ i = j ∧ ¬ (z i = -1 ∧ z j = -1)
  · rw [if_pos h, if_pos ⟨fun e => h.1 e.symm, fun e => h.2 ⟨e.2, e.1⟩⟩]
  · rw [if_neg h, if_neg (fun q => h ⟨fun e => q.1 e.symm, fun e => q.2 ⟨e.2, e.1⟩⟩)]
theorem h6_at {a b c d e f : Int32} {z : Nat → Int32} {i : Nat} (hi : i ≤ 5) (ha : a = nI (sgnN z 9)) (hb : b = nI (awN z 9)) : (upd (upd (upd (upd (upd (upd (fun _ => 0) 0 a) 1 b) 2 c) 3 d) 4 e) 5 f) i = telV z c d e f i := by
  subst ha; subst hb
  obtain rfl | rfl | rfl | rfl | rfl | rfl : i = 0 ∨ i = 1 ∨ i = 2 ∨ i = 3 ∨ i = 4 ∨ i = 5 := by omega
  all_goals rfl
set_option maxHeartbeats 4000000 in
set_option maxRecDepth 100000 in
theorem m_ord_mm (l : Launch) (E : jE) (A : Nat → Prop) {x0 x1 x2 x3 x4 x5 : Nat × va_E} {mo ou : Nat} {th re ak gv kn : Int32} {ro : Nat → Option Nat} {LL : List Nat} {ff : Nat → va_E} {i j : Nat} (hi : i < 9) (hj : j < 9) {w : Nat} (hri : ro i = none) (hrj : ro j = none)  : jMet l yX5_ordered cX5_ordered 7 (some .int) 3 0 0 E A [.ref mo, .int (nI i), .int (nI j), .int (nI w)] (mW E x0 x1 x2 x3 x4 x5 mo ou th re ak gv kn ro LL ff) (jR (some (.int (smI (nI 0) (nI 0)))) (mW E x0 x1 x2 x3 x4 x5 mo ou th re ak gv kn ro LL ff)) jNo := by
  refine jMet.intro' [(0, .ref mo), (1, .int (nI i)), (2, .int (nI j)), (3, .int (nI w))] (by decide) (Nat.le_of_ble_eq_true rfl) rfl ?_
  intro p e R s m args below meth c Q C hQ
  refine j_aload_n C dX5_ordered_0 rfl ?_
  refine j_get C 6 rfl inj_X5 rfl 1 (by decide) w_922 rfl dX5_ordered_1 ?_
  refine j_iload_n C dX5_ordered_4 rfl ?_
  refine j_aaload (v := .null) C 7 i rfl rfl (by omega) (by decide) (by rw [show ro i = none from hri]; rfl) dX5_ordered_5 ?_
  refine j_astoreN (lv' := [(4, .null), (0, .ref mo), (1, .int (nI i)), (2, .int (nI j)), (3, .int (nI w))]) C dX5_ordered_6 (by decide) rfl ?_
  refine j_aload_n C dX5_ordered_8 rfl ?_
  refine j_get C 6 rfl inj_X5 rfl 1 (by decide) w_922 rfl dX5_ordered_9 ?_
  refine j_iload_n C dX5_ordered_12 rfl ?_
  refine j_aaload (v := .null) C 7 j rfl rfl (by omega) (by decide) (by rw [show ro j = none from hrj]; rfl) dX5_ordered_13 ?_
  refine j_astoreN (lv' := [(5, .null), (4, .null), (0, .ref mo), (1, .int (nI i)), (2, .int (nI j)), (3, .int (nI w))]) C dX5_ordered_14 (by decide) rfl ?_
  refine j_aloadN C dX5_ordered_16 rfl ?_
  refine j_ifnull_t (tgt := 26) C dX5_ordered_18 (by decide) ?_
  refine j_aloadN C dX5_ordered_26 rfl ?_
  refine j_ifnull_t (tgt := 35) C dX5_ordered_28 (by decide) ?_
  refine j_iconst (v := (nI 0)) C dX5_ordered_35 rfl ?_
  refine j_callSr C (v := .int (nI 0)) (w := (mW E x0 x1 x2 x3 x4 x5 mo ou th re ak gv kn ro LL ff)) (m_one_0 l E A) ok_X5_one w_956 (by decide) rfl rfl (Nat.le_of_ble_eq_true rfl) ⟨Nat.le_of_ble_eq_true rfl, Nat.le_of_ble_eq_true rfl⟩ dX5_ordered_36 ?_
  refine j_aloadN C dX5_ordered_39 rfl ?_
  refine j_ifnull_t (tgt := 48) C dX5_ordered_41 (by decide) ?_
  refine j_iconst (v := (nI 0)) C dX5_ordered_48 rfl ?_
  refine j_callSr C (v := .int (nI 0)) (w := (mW E x0 x1 x2 x3 x4 x5 mo ou th re ak gv kn ro LL ff)) (m_one_0 l E A) ok_X5_one w_956 (by decide) rfl rfl (Nat.le_of_ble_eq_true rfl) ⟨Nat.le_of_ble_eq_true rfl, Nat.le_of_ble_eq_true rfl⟩ dX5_ordered_49 ?_
  refine j_callSr C (v := .int (smI (nI 0) (nI 0))) (w := (mW E x0 x1 x2 x3 x4 x5 mo ou th re ak gv kn ro LL ff)) (m_before l E A) ok_X5_before w_1120 (by decide) rfl rfl (Nat.le_of_ble_eq_true rfl) ⟨Nat.le_of_ble_eq_true rfl, Nat.le_of_ble_eq_true rfl⟩ dX5_ordered_52 ?_
  exact j_iret C hQ rfl dX5_ordered_55 ⟨Nat.le_of_ble_eq_true rfl, Nat.le_of_ble_eq_true rfl⟩ ⟨rfl, rfl⟩
set_option maxHeartbeats 4000000 in
set_option maxRecDepth 100000 in
theorem m_ord_mk (l : Launch) (E : jE) (A : Nat → Prop) {x0 x1 x2 x3 x4 x5 : Nat × va_E} {mo ou : Nat} {th re ak gv kn : Int32} {ro : Nat → Option Nat} {LL : List Nat} {ff : Nat → va_E} {i j : Nat} (hi : i < 9) (hj : j < 9) {w : Nat} (hri : ro i = none) {aj o : Nat} {g : Nat → Int32} (hraj : ro j = some aj) (hmaj : aj ∈ LL) (hfaj : ff aj = .inl (E.2.1, o, .inl g)) (hnaj : o ≤ 24)  : jMet l yX5_ordered cX5_ordered 7 (some .int) 3 0 0 E A [.ref mo, .int (nI i), .int (nI j), .int (nI w)] (mW E x0 x1 x2 x3 x4 x5 mo ou th re ak gv kn ro LL ff) (jR (some (.int (smI (nI 0) (nI 1)))) (mW E x0 x1 x2 x3 x4 x5 mo ou th re ak gv kn ro LL ff)) jNo := by
  refine jMet.intro' [(0, .ref mo), (1, .int (nI i)), (2, .int (nI j)), (3, .int (nI w))] (by decide) (Nat.le_of_ble_eq_true rfl) rfl ?_
  intro p e R s m args below meth c Q C hQ
  refine j_aload_n C dX5_ordered_0 rfl ?_
  refine j_get C 6 rfl inj_X5 rfl 1 (by decide) w_922 rfl dX5_ordered_1 ?_
  refine j_iload_n C dX5_ordered_4 rfl ?_
  refine j_aaload (v := .null) C 7 i rfl rfl (by omega) (by decide) (by rw [show ro i = none from hri]; rfl) dX5_ordered_5 ?_
  refine j_astoreN (lv' := [(4, .null), (0, .ref mo), (1, .int (nI i)), (2, .int (nI j)), (3, .int (nI w))]) C dX5_ordered_6 (by decide) rfl ?_
  refine j_aload_n C dX5_ordered_8 rfl ?_
  refine j_get C 6 rfl inj_X5 rfl 1 (by decide) w_922 rfl dX5_ordered_9 ?_
  refine j_iload_n C dX5_ordered_12 rfl ?_
  refine j_aaload (v := .ref aj) C 7 j rfl rfl (by omega) (by decide) (by rw [show ro j = some aj from hraj]; rfl) dX5_ordered_13 ?_
  refine j_astore (lv' := [(5, .ref aj), (4, .null), (0, .ref mo), (1, .int (nI i)), (2, .int (nI j)), (3, .int (nI w))]) C dX5_ordered_14 (by decide) rfl ?_
  refine j_aloadN C dX5_ordered_16 rfl ?_
  refine j_ifnull_t (tgt := 26) C dX5_ordered_18 (by decide) ?_
  refine j_aloadN C dX5_ordered_26 rfl ?_
  refine j_ifnull_t (tgt := 35) C dX5_ordered_28 (by decide) ?_
  refine j_iconst (v := (nI 0)) C dX5_ordered_35 rfl ?_
  refine j_callSr C (v := .int (nI 0)) (w := (mW E x0 x1 x2 x3 x4 x5 mo ou th re ak gv kn ro LL ff)) (m_one_0 l E A) ok_X5_one w_956 (by decide) rfl rfl (Nat.le_of_ble_eq_true rfl) ⟨Nat.le_of_ble_eq_true rfl, Nat.le_of_ble_eq_true rfl⟩ dX5_ordered_36 ?_
  refine j_aload C dX5_ordered_39 rfl ?_
  refine j_ifnull_f C dX5_ordered_41 ?_
  refine j_iconst (v := (nI 1)) C dX5_ordered_44 rfl ?_
  refine j_goto (tgt := 49) C dX5_ordered_45 (by decide) ?_
  refine j_callSr C (v := .int (nI 1)) (w := (mW E x0 x1 x2 x3 x4 x5 mo ou th re ak gv kn ro LL ff)) (m_one_1 l E A) ok_X5_one w_956 (by decide) rfl rfl (Nat.le_of_ble_eq_true rfl) ⟨Nat.le_of_ble_eq_true rfl, Nat.le_of_ble_eq_true rfl⟩ dX5_ordered_49 ?_
  refine j_callSr C (v := .int (smI (nI 0) (nI 1))) (w := (mW E x0 x1 x2 x3 x4 x5 mo ou th re ak gv kn ro LL ff)) (m_before l E A) ok_X5_before w_1120 (by decide) rfl rfl (Nat.le_of_ble_eq_true rfl) ⟨Nat.le_of_ble_eq_true rfl, Nat.le_of_ble_eq_true rfl⟩ dX5_ordered_52 ?_
  exact j_iret C hQ rfl dX5_ordered_55 ⟨Nat.le_of_ble_eq_true rfl, Nat.le_of_ble_eq_true rfl⟩ ⟨rfl, rfl⟩
set_option maxHeartbeats 4000000 in
set_option maxRecDepth 100000 in
theorem m_ord_km (l : Launch) (E : jE) (A : Nat → Prop) {x0 x1 x2 x3 x4 x5 : Nat × va_E} {mo ou : Nat} {th re ak gv kn : Int32} {ro : Nat → Option Nat} {LL : List Nat} {ff : Nat → va_E} {i j : Nat} (hi : i < 9) (hj : j < 9) {w : Nat} {ai n : Nat} {h : Nat → Int32} (hrai : ro i = some ai) (hmai : ai ∈ LL) (hfai : ff ai = .inl (E.2.1, n, .inl h)) (hnai : n ≤ 24) (hrj : ro j = none)  : jMet l yX5_ordered cX5_ordered 7 (some .int) 3 0 0 E A [.ref mo, .int (nI i), .int (nI j), .int (nI w)] (mW E x0 x1 x2 x3 x4 x5 mo ou th re ak gv kn ro LL ff) (jR (some (.int (smI (nI 1) (nI 0)))) (mW E x0 x1 x2 x3 x4 x5 mo ou th re ak gv kn ro LL ff)) jNo := by
  refine jMet.intro' [(0, .ref mo), (1, .int (nI i)), (2, .int (nI j)), (3, .int (nI w))] (by decide) (Nat.le_of_ble_eq_true rfl) rfl ?_
  intro p e R s m args below meth c Q C hQ
  refine j_aload_n C dX5_ordered_0 rfl ?_
  refine j_get C 6 rfl inj_X5 rfl 1 (by decide) w_922 rfl dX5_ordered_1 ?_
  refine j_iload_n C dX5_ordered_4 rfl ?_
  refine j_aaload (v := .ref ai) C 7 i rfl rfl (by omega) (by decide) (by rw [show ro i = some ai from hrai]; rfl) dX5_ordered_5 ?_
  refine j_astore (lv' := [(4, .ref ai), (0, .ref mo), (1, .int (nI i)), (2, .int (nI j)), (3, .int (nI w))]) C dX5_ordered_6 (by decide) rfl ?_
  refine j_aload_n C dX5_ordered_8 rfl ?_
  refine j_get C 6 rfl inj_X5 rfl 1 (by decide) w_922 rfl dX5_ordered_9 ?_
  refine j_iload_n C dX5_ordered_12 rfl ?_
  refine j_aaload (v := .null) C 7 j rfl rfl (by omega) (by decide) (by rw [show ro j = none from hrj]; rfl) dX5_ordered_13 ?_
  refine j_astoreN (lv' := [(5, .null), (4, .ref ai), (0, .ref mo), (1, .int (nI i)), (2, .int (nI j)), (3, .int (nI w))]) C dX5_ordered_14 (by decide) rfl ?_
  refine j_aload C dX5_ordered_16 rfl ?_
  refine j_ifnull_f C dX5_ordered_18 ?_
  refine j_aloadN C dX5_ordered_21 rfl ?_
  refine j_ifnonnull_f C dX5_ordered_23 ?_
  refine j_aload C dX5_ordered_26 rfl ?_
  refine j_ifnull_f C dX5_ordered_28 ?_
  refine j_iconst (v := (nI 1)) C dX5_ordered_31 rfl ?_
  refine j_goto (tgt := 36) C dX5_ordered_32 (by decide) ?_
  refine j_callSr C (v := .int (nI 1)) (w := (mW E x0 x1 x2 x3 x4 x5 mo ou th re ak gv kn ro LL ff)) (m_one_1 l E A) ok_X5_one w_956 (by decide) rfl rfl (Nat.le_of_ble_eq_true rfl) ⟨Nat.le_of_ble_eq_true rfl, Nat.le_of_ble_eq_true rfl⟩ dX5_ordered_36 ?_
  refine j_aloadN C dX5_ordered_39 rfl ?_
  refine j_ifnull_t (tgt := 48) C dX5_ordered_41 (by decide) ?_
  refine j_iconst (v := (nI 0)) C dX5_ordered_48 rfl ?_
  refine j_callSr C (v := .int (nI 0)) (w := (mW E x0 x1 x2 x3 x4 x5 mo ou th re ak gv kn ro LL ff)) (m_one_0 l E A) ok_X5_one w_956 (by decide) rfl rfl (Nat.le_of_ble_eq_true rfl) ⟨Nat.le_of_ble_eq_true rfl, Nat.le_of_ble_eq_true rfl⟩ dX5_ordered_49 ?_
  refine j_callSr C (v := .int (smI (nI 1) (nI 0))) (w := (mW E x0 x1 x2 x3 x4 x5 mo ou th re ak gv kn ro LL ff)) (m_before l E A) ok_X5_before w_1120 (by decide) rfl rfl (Nat.le_of_ble_eq_true rfl) ⟨Nat.le_of_ble_eq_true rfl, Nat.le_of_ble_eq_true rfl⟩ dX5_ordered_52 ?_
  exact j_iret C hQ rfl dX5_ordered_55 ⟨Nat.le_of_ble_eq_true rfl, Nat.le_of_ble_eq_true rfl⟩ ⟨rfl, rfl⟩
set_option maxHeartbeats 4000000 in
set_option maxRecDepth 100000 in
theorem m_ord_0 (l : Launch) (E : jE) (A : Nat → Prop) {x0 x1 x2 x3 x4 x5 : Nat × va_E} {mo ou : Nat} {th re ak gv kn : Int32} {ro : Nat → Option Nat} {LL : List Nat} {ff : Nat → va_E} {i j : Nat} (hi : i < 9) (hj : j < 9) {ai n : Nat} {h : Nat → Int32} (hrai : ro i = some ai) (hmai : ai ∈ LL) (hfai : ff ai = .inl (E.2.1, n, .inl h)) (hnai : n ≤ 24) {aj o : Nat} {g : Nat → Int32} (hraj : ro j = some aj) (hmaj : aj ∈ LL) (hfaj : ff aj = .inl (E.2.1, o, .inl g)) (hnaj : o ≤ 24)  : jMet l yX5_ordered cX5_ordered 7 (some .int) 3 0 0 E A [.ref mo, .int (nI i), .int (nI j), .int (nI 0)] (mW E x0 x1 x2 x3 x4 x5 mo ou th re ak gv kn ro LL ff) (jR (some (.int (cmpF h g (smI (nI n) (nI o)) 0 (min n o - 0)))) (mW E x0 x1 x2 x3 x4 x5 mo ou th re ak gv kn ro LL ff)) jNo := by
  refine jMet.intro' [(0, .ref mo), (1, .int (nI i)), (2, .int (nI j)), (3, .int (nI 0))] (by decide) (Nat.le_of_ble_eq_true rfl) rfl ?_
  intro p e R s m args below meth c Q C hQ
  refine j_aload_n C dX5_ordered_0 rfl ?_
  refine j_get C 6 rfl inj_X5 rfl 1 (by decide) w_922 rfl dX5_ordered_1 ?_
  refine j_iload_n C dX5_ordered_4 rfl ?_
  refine j_aaload (v := .ref ai) C 7 i rfl rfl (by omega) (by decide) (by rw [show ro i = some ai from hrai]; rfl) dX5_ordered_5 ?_
  refine j_astore (lv' := [(4, .ref ai), (0, .ref mo), (1, .int (nI i)), (2, .int (nI j)), (3, .int (nI 0))]) C dX5_ordered_6 (by decide) rfl ?_
  refine j_aload_n C dX5_ordered_8 rfl ?_
  refine j_get C 6 rfl inj_X5 rfl 1 (by decide) w_922 rfl dX5_ordered_9 ?_
  refine j_iload_n C dX5_ordered_12 rfl ?_
  refine j_aaload (v := .ref aj) C 7 j rfl rfl (by omega) (by decide) (by rw [show ro j = some aj from hraj]; rfl) dX5_ordered_13 ?_
  refine j_astore (lv' := [(5, .ref aj), (4, .ref ai), (0, .ref mo), (1, .int (nI i)), (2, .int (nI j)), (3, .int (nI 0))]) C dX5_ordered_14 (by decide) rfl ?_
  refine j_aload C dX5_ordered_16 rfl ?_
  refine j_ifnull_f C dX5_ordered_18 ?_
  refine j_aload C dX5_ordered_21 rfl ?_
  refine j_ifnonnull_t (tgt := 56) C dX5_ordered_23 (by decide) ?_
  refine j_iload_n C dX5_ordered_56 rfl ?_
  refine j_iconst (v := (nI 3)) C dX5_ordered_57 rfl ?_
  refine j_icmpn_ne_t (tgt := 75) C dX5_ordered_58 (by decide) (by omega) (by omega) (by omega) ?_
  refine j_iload_n C dX5_ordered_75 rfl ?_
  refine j_iconst (v := (nI 2)) C dX5_ordered_76 rfl ?_
  refine j_icmpn_ne_t (tgt := 92) C dX5_ordered_77 (by decide) (by omega) (by omega) (by omega) ?_
  refine j_iconst (v := (nI 0)) C dX5_ordered_92 rfl ?_
  refine j_istore (lv' := [(6, .int (nI 0)), (5, .ref aj), (4, .ref ai), (0, .ref mo), (1, .int (nI i)), (2, .int (nI j)), (3, .int (nI 0))]) C dX5_ordered_93 (by decide) rfl ?_
  refine j_iload C dX5_ordered_95 rfl ?_
  refine j_ifn_ne_f (tgt := 109) C dX5_ordered_97 (by decide) (by omega) (by omega) ?_
  refine j_aload C dX5_ordered_100 rfl ?_
  refine j_aload C dX5_ordered_102 rfl ?_
  refine j_callSr C (v := .int (cmpF h g (smI (nI n) (nI o)) 0 (min n o - 0))) (w := (mW E x0 x1 x2 x3 x4 x5 mo ou th re ak gv kn ro LL ff)) (m_compared l E A hmai hfai (by omega) hmaj hfaj (by omega)) ok_X5_compared w_1097 (by decide) rfl rfl (Nat.le_of_ble_eq_true rfl) ⟨Nat.le_of_ble_eq_true rfl, Nat.le_of_ble_eq_true rfl⟩ dX5_ordered_104 ?_
  refine j_istore (lv' := [(6, .int (cmpF h g (smI (nI n) (nI o)) 0 (min n o - 0))), (5, .ref aj), (4, .ref ai), (0, .ref mo), (1, .int (nI i)), (2, .int (nI j)), (3, .int (nI 0))]) C dX5_ordered_107 (by decide) rfl ?_
  refine j_iload_n C dX5_ordered_109 rfl ?_
  refine j_iconst (v := (nI 1)) C dX5_ordered_110 rfl ?_
  refine j_icmpn_ne_t (tgt := 120) C dX5_ordered_111 (by decide) (by omega) (by omega) (by omega) ?_
  refine j_iload C dX5_ordered_120 rfl ?_
  exact j_iret C hQ rfl dX5_ordered_122 ⟨Nat.le_of_ble_eq_true rfl, Nat.le_of_ble_eq_true rfl⟩ ⟨rfl, rfl⟩
set_option maxHeartbeats 4000000 in
set_option maxRecDepth 100000 in
theorem m_ord_1 (l : Launch) (E : jE) (A : Nat → Prop) {x0 x1 x2 x3 x4 x5 : Nat × va_E} {mo ou : Nat} {th re ak gv kn : Int32} {ro : Nat → Option Nat} {LL : List Nat} {ff : Nat → va_E} {i j : Nat} (hi : i < 9) (hj : j < 9) {ai n : Nat} {h : Nat → Int32} (hrai : ro i = some ai) (hmai : ai ∈ LL) (hfai : ff ai = .inl (E.2.1, n, .inl h)) (hnai : n ≤ 24) {aj o : Nat} {g : Nat → Int32} (hraj : ro j = some aj) (hmaj : aj ∈ LL) (hfaj : ff aj = .inl (E.2.1, o, .inl g)) (hnaj : o ≤ 24)  : jMet l yX5_ordered cX5_ordered 7 (some .int) 3 0 0 E A [.ref mo, .int (nI i), .int (nI j), .int (nI 1)] (mW E x0 x1 x2 x3 x4 x5 mo ou th re ak gv kn ro LL ff) (jR (some (.int (-(cmpF h g (smI (nI n) (nI o)) 0 (min n o - 0))))) (mW E x0 x1 x2 x3 x4 x5 mo ou th re ak gv kn ro LL ff)) jNo := by
  refine jMet.intro' [(0, .ref mo), (1, .int (nI i)), (2, .int (nI j)), (3, .int (nI 1))] (by decide) (Nat.le_of_ble_eq_true rfl) rfl ?_
  intro p e R s m args below meth c Q C hQ
  refine j_aload_n C dX5_ordered_0 rfl ?_
  refine j_get C 6 rfl inj_X5 rfl 1 (by decide) w_922 rfl dX5_ordered_1 ?_
  refine j_iload_n C dX5_ordered_4 rfl ?_
  refine j_aaload (v := .ref ai) C 7 i rfl rfl (by omega) (by decide) (by rw [show ro i = some ai from hrai]; rfl) dX5_ordered_5 ?_
  refine j_astore (lv' := [(4, .ref ai), (0, .ref mo), (1, .int (nI i)), (2, .int (nI j)), (3, .int (nI 1))]) C dX5_ordered_6 (by decide) rfl ?_
  refine j_aload_n C dX5_ordered_8 rfl ?_
  refine j_get C 6 rfl inj_X5 rfl 1 (by decide) w_922 rfl dX5_ordered_9 ?_
  refine j_iload_n C dX5_ordered_12 rfl ?_
  refine j_aaload (v := .ref aj) C 7 j rfl rfl (by omega) (by decide) (by rw [show ro j = some aj from hraj]; rfl) dX5_ordered_13 ?_
  refine j_astore (lv' := [(5, .ref aj), (4, .ref ai), (0, .ref mo), (1, .int (nI i)), (2, .int (nI j)), (3, .int (nI 1))]) C dX5_ordered_14 (by decide) rfl ?_
  refine j_aload C dX5_ordered_16 rfl ?_
  refine j_ifnull_f C dX5_ordered_18 ?_
  refine j_aload C dX5_ordered_21 rfl ?_
  refine j_ifnonnull_t (tgt := 56) C dX5_ordered_23 (by decide) ?_
  refine j_iload_n C dX5_ordered_56 rfl ?_
  refine j_iconst (v := (nI 3)) C dX5_ordered_57 rfl ?_
  refine j_icmpn_ne_t (tgt := 75) C dX5_ordered_58 (by decide) (by omega) (by omega) (by omega) ?_
  refine j_iload_n C dX5_ordered_75 rfl ?_
  refine j_iconst (v := (nI 2)) C dX5_ordered_76 rfl ?_
  refine j_icmpn_ne_t (tgt := 92) C dX5_ordered_77 (by decide) (by omega) (by omega) (by omega) ?_
  refine j_iconst (v := (nI 0)) C dX5_ordered_92 rfl ?_
  refine j_istore (lv' := [(6, .int (nI 0)), (5, .ref aj), (4, .ref ai), (0, .ref mo), (1, .int (nI i)), (2, .int (nI j)), (3, .int (nI 1))]) C dX5_ordered_93 (by decide) rfl ?_
  refine j_iload C dX5_ordered_95 rfl ?_
  refine j_ifn_ne_f (tgt := 109) C dX5_ordered_97 (by decide) (by omega) (by omega) ?_
  refine j_aload C dX5_ordered_100 rfl ?_
  refine j_aload C dX5_ordered_102 rfl ?_
  refine j_callSr C (v := .int (cmpF h g (smI (nI n) (nI o)) 0 (min n o - 0))) (w := (mW E x0 x1 x2 x3 x4 x5 mo ou th re ak gv kn ro LL ff)) (m_compared l E A hmai hfai (by omega) hmaj hfaj (by omega)) ok_X5_compared w_1097 (by decide) rfl rfl (Nat.le_of_ble_eq_true rfl) ⟨Nat.le_of_ble_eq_true rfl, Nat.le_of_ble_eq_true rfl⟩ dX5_ordered_104 ?_
  refine j_istore (lv' := [(6, .int (cmpF h g (smI (nI n) (nI o)) 0 (min n o - 0))), (5, .ref aj), (4, .ref ai), (0, .ref mo), (1, .int (nI i)), (2, .int (nI j)), (3, .int (nI 1))]) C dX5_ordered_107 (by decide) rfl ?_
  refine j_iload_n C dX5_ordered_109 rfl ?_
  refine j_iconst (v := (nI 1)) C dX5_ordered_110 rfl ?_
  refine j_icmpn_ne_f (tgt := 120) C dX5_ordered_111 (by decide) (by omega) (by omega) (by omega) ?_
  refine j_iload C dX5_ordered_114 rfl ?_
  refine j_ineg (z := (-(cmpF h g (smI (nI n) (nI o)) 0 (min n o - 0)))) C dX5_ordered_116 rfl ?_
  refine j_goto (tgt := 122) C dX5_ordered_117 (by decide) ?_
  exact j_iret C hQ rfl dX5_ordered_122 ⟨Nat.le_of_ble_eq_true rfl, Nat.le_of_ble_eq_true rfl⟩ ⟨rfl, rfl⟩
set_option maxHeartbeats 4000000 in
set_option maxRecDepth 100000 in
theorem m_ord_2e (l : Launch) (E : jE) (A : Nat → Prop) {x0 x1 x2 x3 x4 x5 : Nat × va_E} {mo ou : Nat} {th re ak gv kn : Int32} {ro : Nat → Option Nat} {LL : List Nat} {ff : Nat → va_E} {i j : Nat} (hi : i < 9) (hj : j < 9) {ai n : Nat} {h : Nat → Int32} (hrai : ro i = some ai) (hmai : ai ∈ LL) (hfai : ff ai = .inl (E.2.1, n, .inl h)) (hnai : n ≤ 24) {aj o : Nat} {g : Nat → Int32} (hraj : ro j = some aj) (hmaj : aj ∈ LL) (hfaj : ff aj = .inl (E.2.1, o, .inl g)) (hnaj : o ≤ 24) (hno : n = o)  : jMet l yX5_ordered cX5_ordered 7 (some .int) 3 0 0 E A [.ref mo, .int (nI i), .int (nI j), .int (nI 2)] (mW E x0 x1 x2 x3 x4 x5 mo ou th re ak gv kn ro LL ff) (jR (some (.int (cmpF h g (smI (nI n) (nI o)) 0 (min n o - 0)))) (mW E x0 x1 x2 x3 x4 x5 mo ou th re ak gv kn ro LL ff)) jNo := by
  refine jMet.intro' [(0, .ref mo), (1, .int (nI i)), (2, .int (nI j)), (3, .int (nI 2))] (by decide) (Nat.le_of_ble_eq_true rfl) rfl ?_
  intro p e R s m args below meth c Q C hQ
  refine j_aload_n C dX5_ordered_0 rfl ?_
  refine j_get C 6 rfl inj_X5 rfl 1 (by decide) w_922 rfl dX5_ordered_1 ?_
  refine j_iload_n C dX5_ordered_4 rfl ?_
  refine j_aaload (v := .ref ai) C 7 i rfl rfl (by omega) (by decide) (by rw [show ro i = some ai from hrai]; rfl) dX5_ordered_5 ?_
  refine j_astore (lv' := [(4, .ref ai), (0, .ref mo), (1, .int (nI i)), (2, .int (nI j)), (3, .int (nI 2))]) C dX5_ordered_6 (by decide) rfl ?_
  refine j_aload_n C dX5_ordered_8 rfl ?_
  refine j_get C 6 rfl inj_X5 rfl 1 (by decide) w_922 rfl dX5_ordered_9 ?_
  refine j_iload_n C dX5_ordered_12 rfl ?_
  refine j_aaload (v := .ref aj) C 7 j rfl rfl (by omega) (by decide) (by rw [show ro j = some aj from hraj]; rfl) dX5_ordered_13 ?_
  refine j_astore (lv' := [(5, .ref aj), (4, .ref ai), (0, .ref mo), (1, .int (nI i)), (2, .int (nI j)), (3, .int (nI 2))]) C dX5_ordered_14 (by decide) rfl ?_
  refine j_aload C dX5_ordered_16 rfl ?_
  refine j_ifnull_f C dX5_ordered_18 ?_
  refine j_aload C dX5_ordered_21 rfl ?_
  refine j_ifnonnull_t (tgt := 56) C dX5_ordered_23 (by decide) ?_
  refine j_iload_n C dX5_ordered_56 rfl ?_
  refine j_iconst (v := (nI 3)) C dX5_ordered_57 rfl ?_
  refine j_icmpn_ne_t (tgt := 75) C dX5_ordered_58 (by decide) (by omega) (by omega) (by omega) ?_
  refine j_iload_n C dX5_ordered_75 rfl ?_
  refine j_iconst (v := (nI 2)) C dX5_ordered_76 rfl ?_
  refine j_icmpn_ne_f (tgt := 92) C dX5_ordered_77 (by decide) (by omega) (by omega) (by omega) ?_
  refine j_aload C dX5_ordered_80 rfl ?_
  refine j_alenP (n := n) C hmai hfai dX5_ordered_82 ?_
  refine j_aload C dX5_ordered_83 rfl ?_
  refine j_alenP (n := o) C hmaj hfaj dX5_ordered_85 ?_
  refine j_callSr C (v := .int (smI (nI n) (nI o))) (w := (mW E x0 x1 x2 x3 x4 x5 mo ou th re ak gv kn ro LL ff)) (m_before l E A) ok_X5_before w_1120 (by decide) rfl rfl (Nat.le_of_ble_eq_true rfl) ⟨Nat.le_of_ble_eq_true rfl, Nat.le_of_ble_eq_true rfl⟩ dX5_ordered_86 ?_
  refine j_goto (tgt := 93) C dX5_ordered_89 (by decide) ?_
  refine j_istore (lv' := [(6, .int (smI (nI n) (nI o))), (5, .ref aj), (4, .ref ai), (0, .ref mo), (1, .int (nI i)), (2, .int (nI j)), (3, .int (nI 2))]) C dX5_ordered_93 (by decide) rfl ?_
  refine j_iload C dX5_ordered_95 rfl ?_
  refine j_if_ne_f (tgt := 109) C dX5_ordered_97 (by decide) (smI_e (by omega) (by omega) (by omega)) ?_
  refine j_aload C dX5_ordered_100 rfl ?_
  refine j_aload C dX5_ordered_102 rfl ?_
  refine j_callSr C (v := .int (cmpF h g (smI (nI n) (nI o)) 0 (min n o - 0))) (w := (mW E x0 x1 x2 x3 x4 x5 mo ou th re ak gv kn ro LL ff)) (m_compared l E A hmai hfai (by omega) hmaj hfaj (by omega)) ok_X5_compared w_1097 (by decide) rfl rfl (Nat.le_of_ble_eq_true rfl) ⟨Nat.le_of_ble_eq_true rfl, Nat.le_of_ble_eq_true rfl⟩ dX5_ordered_104 ?_
  refine j_istore (lv' := [(6, .int (cmpF h g (smI (nI n) (nI o)) 0 (min n o - 0))), (5, .ref aj), (4, .ref ai), (0, .ref mo), (1, .int (nI i)), (2, .int (nI j)), (3, .int (nI 2))]) C dX5_ordered_107 (by decide) rfl ?_
  refine j_iload_n C dX5_ordered_109 rfl ?_
  refine j_iconst (v := (nI 1)) C dX5_ordered_110 rfl ?_
  refine j_icmpn_ne_t (tgt := 120) C dX5_ordered_111 (by decide) (by omega) (by omega) (by omega) ?_
  refine j_iload C dX5_ordered_120 rfl ?_
  exact j_iret C hQ rfl dX5_ordered_122 ⟨Nat.le_of_ble_eq_true rfl, Nat.le_of_ble_eq_true rfl⟩ ⟨rfl, rfl⟩
set_option maxHeartbeats 4000000 in
set_option maxRecDepth 100000 in
theorem m_ord_2n (l : Launch) (E : jE) (A : Nat → Prop) {x0 x1 x2 x3 x4 x5 : Nat × va_E} {mo ou : Nat} {th re ak gv kn : Int32} {ro : Nat → Option Nat} {LL : List Nat} {ff : Nat → va_E} {i j : Nat} (hi : i < 9) (hj : j < 9) {ai n : Nat} {h : Nat → Int32} (hrai : ro i = some ai) (hmai : ai ∈ LL) (hfai : ff ai = .inl (E.2.1, n, .inl h)) (hnai : n ≤ 24) {aj o : Nat} {g : Nat → Int32} (hraj : ro j = some aj) (hmaj : aj ∈ LL) (hfaj : ff aj = .inl (E.2.1, o, .inl g)) (hnaj : o ≤ 24) (hno : n ≠ o)  : jMet l yX5_ordered cX5_ordered 7 (some .int) 3 0 0 E A [.ref mo, .int (nI i), .int (nI j), .int (nI 2)] (mW E x0 x1 x2 x3 x4 x5 mo ou th re ak gv kn ro LL ff) (jR (some (.int (smI (nI n) (nI o)))) (mW E x0 x1 x2 x3 x4 x5 mo ou th re ak gv kn ro LL ff)) jNo := by
  refine jMet.intro' [(0, .ref mo), (1, .int (nI i)), (2, .int (nI j)), (3, .int (nI 2))] (by decide) (Nat.le_of_ble_eq_true rfl) rfl ?_
  intro p e R s m args below meth c Q C hQ
  refine j_aload_n C dX5_ordered_0 rfl ?_
  refine j_get C 6 rfl inj_X5 rfl 1 (by decide) w_922 rfl dX5_ordered_1 ?_
  refine j_iload_n C dX5_ordered_4 rfl ?_
  refine j_aaload (v := .ref ai) C 7 i rfl rfl (by omega) (by decide) (by rw [show ro i = some ai from hrai]; rfl) dX5_ordered_5 ?_
  refine j_astore (lv' := [(4, .ref ai), (0, .ref mo), (1, .int (nI i)), (2, .int (nI j)), (3, .int (nI 2))]) C dX5_ordered_6 (by decide) rfl ?_
  refine j_aload_n C dX5_ordered_8 rfl ?_
  refine j_get C 6 rfl inj_X5 rfl 1 (by decide) w_922 rfl dX5_ordered_9 ?_
  refine j_iload_n C dX5_ordered_12 rfl ?_
  refine j_aaload (v := .ref aj) C 7 j rfl rfl (by omega) (by decide) (by rw [show ro j = some aj from hraj]; rfl) dX5_ordered_13 ?_
  refine j_astore (lv' := [(5, .ref aj), (4, .ref ai), (0, .ref mo), (1, .int (nI i)), (2, .int (nI j)), (3, .int (nI 2))]) C dX5_ordered_14 (by decide) rfl ?_
  refine j_aload C dX5_ordered_16 rfl ?_
  refine j_ifnull_f C dX5_ordered_18 ?_
  refine j_aload C dX5_ordered_21 rfl ?_
  refine j_ifnonnull_t (tgt := 56) C dX5_ordered_23 (by decide) ?_
  refine j_iload_n C dX5_ordered_56 rfl ?_
  refine j_iconst (v := (nI 3)) C dX5_ordered_57 rfl ?_
  refine j_icmpn_ne_t (tgt := 75) C dX5_ordered_58 (by decide) (by omega) (by omega) (by omega) ?_
  refine j_iload_n C dX5_ordered_75 rfl ?_
  refine j_iconst (v := (nI 2)) C dX5_ordered_76 rfl ?_
  refine j_icmpn_ne_f (tgt := 92) C dX5_ordered_77 (by decide) (by omega) (by omega) (by omega) ?_
  refine j_aload C dX5_ordered_80 rfl ?_
  refine j_alenP (n := n) C hmai hfai dX5_ordered_82 ?_
  refine j_aload C dX5_ordered_83 rfl ?_
  refine j_alenP (n := o) C hmaj hfaj dX5_ordered_85 ?_
  refine j_callSr C (v := .int (smI (nI n) (nI o))) (w := (mW E x0 x1 x2 x3 x4 x5 mo ou th re ak gv kn ro LL ff)) (m_before l E A) ok_X5_before w_1120 (by decide) rfl rfl (Nat.le_of_ble_eq_true rfl) ⟨Nat.le_of_ble_eq_true rfl, Nat.le_of_ble_eq_true rfl⟩ dX5_ordered_86 ?_
  refine j_goto (tgt := 93) C dX5_ordered_89 (by decide) ?_
  refine j_istore (lv' := [(6, .int (smI (nI n) (nI o))), (5, .ref aj), (4, .ref ai), (0, .ref mo), (1, .int (nI i)), (2, .int (nI j)), (3, .int (nI 2))]) C dX5_ordered_93 (by decide) rfl ?_
  refine j_iload C dX5_ordered_95 rfl ?_
  refine j_if_ne_t (tgt := 109) C dX5_ordered_97 (by decide) (smI_ne0 hno (by omega) (by omega)) ?_
  refine j_iload_n C dX5_ordered_109 rfl ?_
  refine j_iconst (v := (nI 1)) C dX5_ordered_110 rfl ?_
  refine j_icmpn_ne_t (tgt := 120) C dX5_ordered_111 (by decide) (by omega) (by omega) (by omega) ?_
  refine j_iload C dX5_ordered_120 rfl ?_
  exact j_iret C hQ rfl dX5_ordered_122 ⟨Nat.le_of_ble_eq_true rfl, Nat.le_of_ble_eq_true rfl⟩ ⟨rfl, rfl⟩
set_option maxHeartbeats 4000000 in
set_option maxRecDepth 100000 in
theorem m_ord_3 (l : Launch) (E : jE) (A : Nat → Prop) {x0 x1 x2 x3 x4 x5 : Nat × va_E} {mo ou : Nat} {th re ak gv kn : Int32} {ro : Nat → Option Nat} {LL : List Nat} {ff : Nat → va_E} {i j : Nat} (hi : i < 9) (hj : j < 9) {ai n : Nat} {h : Nat → Int32} (hrai : ro i = some ai) (hmai : ai ∈ LL) (hfai : ff ai = .inl (E.2.1, n, .inl h)) (hnai : n ≤ 24) {aj o : Nat} {g : Nat → Int32} (hraj : ro j = some aj) (hmaj : aj ∈ LL) (hfaj : ff aj = .inl (E.2.1, o, .inl g)) (hnaj : o ≤ 24)  : jMet l yX5_ordered cX5_ordered 7 (some .int) 3 0 0 E A [.ref mo, .int (nI i), .int (nI j), .int (nI 3)] (mW E x0 x1 x2 x3 x4 x5 mo ou th re ak gv kn ro LL ff) (jR (some (.int (smI (nI (cntF h (nI 6) n)) (nI (cntF g (nI 6) o))))) (mW E x0 x1 x2 x3 x4 x5 mo ou th re ak gv kn ro LL ff)) jNo := by
  refine jMet.intro' [(0, .ref mo), (1, .int (nI i)), (2, .int (nI j)), (3, .int (nI 3))] (by decide) (Nat.le_of_ble_eq_true rfl) rfl ?_
  intro p e R s m args below meth c Q C hQ
  refine j_aload_n C dX5_ordered_0 rfl ?_
  refine j_get C 6 rfl inj_X5 rfl 1 (by decide) w_922 rfl dX5_ordered_1 ?_
  refine j_iload_n C dX5_ordered_4 rfl ?_
  refine j_aaload (v := .ref ai) C 7 i rfl rfl (by omega) (by decide) (by rw [show ro i = some ai from hrai]; rfl) dX5_ordered_5 ?_
  refine j_astore (lv' := [(4, .ref ai), (0, .ref mo), (1, .int (nI i)), (2, .int (nI j)), (3, .int (nI 3))]) C dX5_ordered_6 (by decide) rfl ?_
  refine j_aload_n C dX5_ordered_8 rfl ?_
  refine j_get C 6 rfl inj_X5 rfl 1 (by decide) w_922 rfl dX5_ordered_9 ?_
  refine j_iload_n C dX5_ordered_12 rfl ?_
  refine j_aaload (v := .ref aj) C 7 j rfl rfl (by omega) (by decide) (by rw [show ro j = some aj from hraj]; rfl) dX5_ordered_13 ?_
  refine j_astore (lv' := [(5, .ref aj), (4, .ref ai), (0, .ref mo), (1, .int (nI i)), (2, .int (nI j)), (3, .int (nI 3))]) C dX5_ordered_14 (by decide) rfl ?_
  refine j_aload C dX5_ordered_16 rfl ?_
  refine j_ifnull_f C dX5_ordered_18 ?_
  refine j_aload C dX5_ordered_21 rfl ?_
  refine j_ifnonnull_t (tgt := 56) C dX5_ordered_23 (by decide) ?_
  refine j_iload_n C dX5_ordered_56 rfl ?_
  refine j_iconst (v := (nI 3)) C dX5_ordered_57 rfl ?_
  refine j_icmpn_ne_f (tgt := 75) C dX5_ordered_58 (by decide) (by omega) (by omega) (by omega) ?_
  refine j_aload C dX5_ordered_61 rfl ?_
  refine j_callSr C (v := .int (nI (cntF h (nI 6) n))) (w := (mW E x0 x1 x2 x3 x4 x5 mo ou th re ak gv kn ro LL ff)) (m_smalls l E A hmai hfai (by omega)) ok_X5_smalls w_1123 (by decide) rfl rfl (Nat.le_of_ble_eq_true rfl) ⟨Nat.le_of_ble_eq_true rfl, Nat.le_of_ble_eq_true rfl⟩ dX5_ordered_63 ?_
  refine j_aload C dX5_ordered_66 rfl ?_
  refine j_callSr C (v := .int (nI (cntF g (nI 6) o))) (w := (mW E x0 x1 x2 x3 x4 x5 mo ou th re ak gv kn ro LL ff)) (m_smalls l E A hmaj hfaj (by omega)) ok_X5_smalls w_1123 (by decide) rfl rfl (Nat.le_of_ble_eq_true rfl) ⟨Nat.le_of_ble_eq_true rfl, Nat.le_of_ble_eq_true rfl⟩ dX5_ordered_68 ?_
  refine j_callSr C (v := .int (smI (nI (cntF h (nI 6) n)) (nI (cntF g (nI 6) o)))) (w := (mW E x0 x1 x2 x3 x4 x5 mo ou th re ak gv kn ro LL ff)) (m_before l E A) ok_X5_before w_1120 (by decide) rfl rfl (Nat.le_of_ble_eq_true rfl) ⟨Nat.le_of_ble_eq_true rfl, Nat.le_of_ble_eq_true rfl⟩ dX5_ordered_71 ?_
  exact j_iret C hQ rfl dX5_ordered_74 ⟨Nat.le_of_ble_eq_true rfl, Nat.le_of_ble_eq_true rfl⟩ ⟨rfl, rfl⟩
theorem cmpS_rel {z g : Nat → Int32} {i j n o : Nat} {h h' : Nat → Int32} (hn : n ≤ 24) (ho : o ≤ 24) (hz : z i = nI n) (hz2 : z j = nI o) (hs : ∀ k, k < n → h k = g (i * 24 + k)) (hs2 : ∀ k, k < o → h' k = g (j * 24 + k)) : cmpF h h' (smI (nI n) (nI o)) 0 (min n o - 0) = cmpS z g i j := by
  rw [cmpS_n hn hz ho hz2]
  exact cmpF_congr _ _ (fun q _ h => hs q (by omega)) (fun q _ h => hs2 q (by omega))
theorem m_ordered (l : Launch) (E : jE) (A : Nat → Prop) {x0 x1 x2 x3 x4 x5 : Nat × va_E} {mo ou : Nat} {th re ak gv kn : Int32} {ro : Nat → Option Nat} {LL : List Nat} {ff : Nat → va_E} {i j o : Nat} (hi : i < 9) (hj : j < 9) (ho : o < 4) {z g : Nat → Int32} (hR : Rel E z g ro LL ff) : jMet l yX5_ordered cX5_ordered 7 (some .int) 3 0 0 E A [.ref mo, .int (nI i), .int (nI j), .int (nI o)] (mW E x0 x1 x2 x3 x4 x5 mo ou th re ak gv kn ro LL ff) (jR (some (.int (ordV z g i j o))) (mW E x0 x1 x2 x3 x4 x5 mo ou th re ak gv kn ro LL ff)) jNo := by
  unfold ordV
  rcases hR.1 i hi with ⟨h1, r1⟩ | ⟨a1, n1, f1, q1, h1, r1, m1, e1, s1⟩ <;> rcases hR.1 j hj with ⟨h2, r2⟩ | ⟨a2, n2, f2, q2, h2, r2, m2, e2, s2⟩
  · rw [if_pos h1, if_pos h2]; exact m_ord_mm l E A hi hj r1 r2
  · have w2 : ¬ z j = -1 := by rw [h2]; exact nI_ne_m (by omega)
    rw [if_pos h1, if_neg w2]; exact m_ord_mk l E A hi hj r1 r2 m2 e2 q2
  · have w1 : ¬ z i = -1 := by rw [h1]; exact nI_ne_m (by omega)
    rw [if_neg w1, if_pos h2]; exact m_ord_km l E A hi hj r1 m1 e1 q1 r2
  · have w1 : ¬ z i = -1 := by rw [h1]; exact nI_ne_m (by omega)
    have w2 : ¬ z j = -1 := by rw [h2]; exact nI_ne_m (by omega)
    rw [if_neg w1, if_neg w2]
    have t1 : ∀ k, k < n1 → f1 k = g (i * 24 + k) := fun k hk => (s1 k hk).1
    have t2 : ∀ k, k < n2 → f2 k = g (j * 24 + k) := fun k hk => (s2 k hk).1
    obtain rfl | rfl | rfl | rfl : o = 0 ∨ o = 1 ∨ o = 2 ∨ o = 3 := by omega
    · rw [if_pos rfl, ← cmpS_rel q1 q2 h1 h2 t1 t2]; exact m_ord_0 l E A hi hj r1 m1 e1 q1 r2 m2 e2 q2
    · rw [if_neg (by decide), if_pos rfl, ← cmpS_rel q2 q1 h2 h1 t2 t1, smI_neg (nI n1) (nI n2), cmpF_neg, Nat.min_comm n2 n1]; exact m_ord_1 l E A hi hj r1 m1 e1 q1 r2 m2 e2 q2
    · rw [if_neg (by decide), if_neg (by decide), if_pos rfl]
      by_cases e : n1 = n2
      · rw [if_pos (by rw [h1, h2, e]), ← cmpS_rel q1 q2 h1 h2 t1 t2]; exact m_ord_2e l E A hi hj r1 m1 e1 q1 r2 m2 e2 q2 e
      · rw [if_neg (by rw [h1, h2]; exact fun w => e ((nI_eq (by omega) (by omega)).mp w)), h1, h2]; exact m_ord_2n l E A hi hj r1 m1 e1 q1 r2 m2 e2 q2 e
    · rw [if_neg (by decide), if_neg (by decide), if_neg (by decide), cntS_n q1 h1, cntS_n q2 h2, ← cntF_congr n1 t1, ← cntF_congr n2 t2]; exact m_ord_3 l E A hi hj r1 m1 e1 q1 r2 m2 e2 q2
set_option maxHeartbeats 4000000 in
set_option maxRecDepth 100000 in
theorem m_isAsked (l : Launch) (E : jE) (A : Nat → Prop) {x0 x1 x2 x3 x4 x5 : Nat × va_E} {mo ou : Nat} {th re ak gv kn : Int32} {ro : Nat → Option Nat} {LL : List Nat} {ff : Nat → va_E} {i j : Nat} (hi : i < 9) (hj : j < 9) {z g : Nat → Int32} (hR : Rel E z g ro LL ff)  : jMet l yX5_isAsked cX5_isAsked 3 (some .boolean) 0 0 0 E A [.ref mo, .int (nI i), .int (nI j)] (mW E x0 x1 x2 x3 x4 x5 mo ou th re ak gv kn ro LL ff) (jR (some (.int (bI (¬ i = j ∧ ¬ (z i = -1 ∧ z j = -1))))) (mW E x0 x1 x2 x3 x4 x5 mo ou th re ak gv kn ro LL ff)) jNo := by
  refine jMet.intro' [(0, .ref mo), (1, .int (nI i)), (2, .int (nI j))] (by decide) (Nat.le_of_ble_eq_true rfl) rfl ?_
  intro p e R s m args below meth c Q C hQ
  refine j_iload_n C dX5_isAsked_0 rfl ?_
  refine j_iload_n C dX5_isAsked_1 rfl ?_
  refine j_icmpn_eq (tgt := 27) C dX5_isAsked_2 (by decide) (by omega) (by omega) (fun h2 => ?_) (fun h2 => ?_)
  · skip
    refine j_iconst (v := (nI 0)) C dX5_isAsked_27 rfl ?_
    exact j_zret C hQ rfl rfl dX5_isAsked_28 ⟨Nat.le_of_ble_eq_true rfl, Nat.le_of_ble_eq_true rfl⟩ ⟨by rw [bI_f (by first | (rintro ⟨q, -⟩; exact q h2) | (rintro ⟨-, q⟩; exact q ⟨hz_i, hz_j⟩))]; rfl, rfl⟩
  · skip
    refine j_aload_n C dX5_isAsked_5 rfl ?_
    refine j_get C 6 rfl inj_X5 rfl 1 (by decide) w_922 rfl dX5_isAsked_6 ?_
    refine j_iload_n C dX5_isAsked_9 rfl ?_
    rcases hR.1 i (by omega) with ⟨hz_i, hr_i⟩ | ⟨a_i, n_i, h_i, hn_i, hz_i, hr_i, hm_i, hf_i, hs_i⟩
    · skip
      refine j_aaload (v := .null) C 7 i rfl rfl (by omega) (by decide) (by rw [show ro i = none from hr_i]; rfl) dX5_isAsked_10 ?_
      refine j_ifnonnull_f C dX5_isAsked_11 ?_
      refine j_aload_n C dX5_isAsked_14 rfl ?_
      refine j_get C 6 rfl inj_X5 rfl 1 (by decide) w_922 rfl dX5_isAsked_15 ?_
      refine j_iload_n C dX5_isAsked_18 rfl ?_
      rcases hR.1 j (by omega) with ⟨hz_j, hr_j⟩ | ⟨a_j, n_j, h_j, hn_j, hz_j, hr_j, hm_j, hf_j, hs_j⟩
      · skip
        refine j_aaload (v := .null) C 7 j rfl rfl (by omega) (by decide) (by rw [show ro j = none from hr_j]; rfl) dX5_isAsked_19 ?_
        refine j_ifnull_t (tgt := 27) C dX5_isAsked_20 (by decide) ?_
        refine j_iconst (v := (nI 0)) C dX5_isAsked_27 rfl ?_
        exact j_zret C hQ rfl rfl dX5_isAsked_28 ⟨Nat.le_of_ble_eq_true rfl, Nat.le_of_ble_eq_true rfl⟩ ⟨by rw [bI_f (by first | (rintro ⟨q, -⟩; exact q h2) | (rintro ⟨-, q⟩; exact q ⟨hz_i, hz_j⟩))]; rfl, rfl⟩
      · skip
        refine j_aaload (v := .ref a_j) C 7 j rfl rfl (by omega) (by decide) (by rw [show ro j = some a_j from hr_j]; rfl) dX5_isAsked_19 ?_
        refine j_ifnull_f C dX5_isAsked_20 ?_
        refine j_iconst (v := (nI 1)) C dX5_isAsked_23 rfl ?_
        refine j_goto (tgt := 28) C dX5_isAsked_24 (by decide) ?_
        exact j_zret C hQ rfl rfl dX5_isAsked_28 ⟨Nat.le_of_ble_eq_true rfl, Nat.le_of_ble_eq_true rfl⟩ ⟨by rw [bI_t (show ¬ i = j ∧ ¬ (z i = -1 ∧ z j = -1) from ⟨h2, by first | (rintro ⟨q, -⟩; rw [hz_i] at q; exact nI_ne_m (by omega) q) | (rintro ⟨-, q⟩; rw [hz_j] at q; exact nI_ne_m (by omega) q)⟩)]; rfl, rfl⟩
    · skip
      refine j_aaload (v := .ref a_i) C 7 i rfl rfl (by omega) (by decide) (by rw [show ro i = some a_i from hr_i]; rfl) dX5_isAsked_10 ?_
      refine j_ifnonnull_t (tgt := 23) C dX5_isAsked_11 (by decide) ?_
      refine j_iconst (v := (nI 1)) C dX5_isAsked_23 rfl ?_
      refine j_goto (tgt := 28) C dX5_isAsked_24 (by decide) ?_
      exact j_zret C hQ rfl rfl dX5_isAsked_28 ⟨Nat.le_of_ble_eq_true rfl, Nat.le_of_ble_eq_true rfl⟩ ⟨by rw [bI_t (show ¬ i = j ∧ ¬ (z i = -1 ∧ z j = -1) from ⟨h2, by first | (rintro ⟨q, -⟩; rw [hz_i] at q; exact nI_ne_m (by omega) q) | (rintro ⟨-, q⟩; rw [hz_j] at q; exact nI_ne_m (by omega) q)⟩)]; rfl, rfl⟩
theorem codS_rel {z g : Nat → Int32} {i n : Nat} {h : Nat → Int32} (hn : n ≤ 24) (hz : z i = nI n) (hs : ∀ k, k < n → h k = g (i * 24 + k) ∧ isSg (h k)) : codeF h n = codS z g i := by
  rw [codS_n hn hz]
  exact codeF_congr n (fun q hq => (hs q hq).1)
/-- the code of a row that a seat has, or of none -/
theorem m_codS (l : Launch) (E : jE) (A : Nat → Prop) {XX : va_W} {LL : List Nat} {ff : Nat → va_E} {ro : Nat → Option Nat} {z g : Nat → Int32} (hR : Rel E z g ro LL ff) {i : Nat} (hi : i < 9) : jMet l yX5_codeOf cX5_codeOf 3 (some .int) 0 0 0 E A [va_rf (ro i)] (XX ++ va_pl LL ff) (jR (some (.int (codS z g i))) (XX ++ va_pl LL ff)) jNo := by
  rcases hR.1 i hi with ⟨h1, r1⟩ | ⟨a1, n1, f1, q1, h1, r1, m1, e1, s1⟩
  · rw [r1, codS_m h1]; exact m_codeOf_m l E A
  · rw [r1, ← codS_rel q1 h1 s1]; exact m_codeOf_k l E A m1 e1 q1 (fun k hk => (s1 k hk).2)
set_option maxHeartbeats 4000000 in
set_option maxRecDepth 100000 in
theorem m_codesOf (l : Launch) (E : jE) (A : Nat → Prop) {x0 x1 x2 x3 x4 x5 : Nat × va_E} {mo ou : Nat} {th re ak gv kn : Int32} {ro : Nat → Option Nat} {LL : List Nat} {ff : Nat → va_E} {i j k : Nat} (hi : i < 9) (hj : j < 9) (hk : k < 9) {z g : Nat → Int32} (hR : Rel E z g ro LL ff)  : jMet l yX5_codesOf cX5_codesOf 4 (some .int) 1 0 0 E A [.ref mo, .int (nI i), .int (nI j), .int (nI k)] (mW E x0 x1 x2 x3 x4 x5 mo ou th re ak gv kn ro LL ff) (jR (some (.int (cod3 (codS z g i) (codS z g j) (codS z g k)))) (mW E x0 x1 x2 x3 x4 x5 mo ou th re ak gv kn ro LL ff)) jNo := by
  refine jMet.intro' [(0, .ref mo), (1, .int (nI i)), (2, .int (nI j)), (3, .int (nI k))] (by decide) (Nat.le_of_ble_eq_true rfl) rfl ?_
  intro p e R s m args below meth c Q C hQ
  refine j_bipush (v := (nI 31)) C dX5_codesOf_0 rfl ?_
  refine j_aload_n C dX5_codesOf_2 rfl ?_
  refine j_get C 6 rfl inj_X5 rfl 1 (by decide) w_922 rfl dX5_codesOf_3 ?_
  refine j_iload_n C dX5_codesOf_6 rfl ?_
  refine j_aaload (v := va_rf (ro i)) C 7 i rfl rfl (by omega) (by decide) rfl dX5_codesOf_7 ?_
  refine j_callSr C (v := .int (codS z g i)) (w := (mW E x0 x1 x2 x3 x4 x5 mo ou th re ak gv kn ro LL ff)) (m_codS l E A hR (i := i) (by omega)) ok_X5_codeOf w_1170 (by decide) rfl rfl (Nat.le_of_ble_eq_true rfl) ⟨Nat.le_of_ble_eq_true rfl, Nat.le_of_ble_eq_true rfl⟩ dX5_codesOf_8 ?_
  refine j_iadd (z := ((nI 31) + (codS z g i))) C dX5_codesOf_11 rfl ?_
  refine j_bipush (v := (nI 31)) C dX5_codesOf_12 rfl ?_
  refine j_imul (z := (((nI 31) + (codS z g i)) * (nI 31))) C dX5_codesOf_14 rfl ?_
  refine j_aload_n C dX5_codesOf_15 rfl ?_
  refine j_get C 6 rfl inj_X5 rfl 1 (by decide) w_922 rfl dX5_codesOf_16 ?_
  refine j_iload_n C dX5_codesOf_19 rfl ?_
  refine j_aaload (v := va_rf (ro j)) C 7 j rfl rfl (by omega) (by decide) rfl dX5_codesOf_20 ?_
  refine j_callSr C (v := .int (codS z g j)) (w := (mW E x0 x1 x2 x3 x4 x5 mo ou th re ak gv kn ro LL ff)) (m_codS l E A hR (i := j) (by omega)) ok_X5_codeOf w_1170 (by decide) rfl rfl (Nat.le_of_ble_eq_true rfl) ⟨Nat.le_of_ble_eq_true rfl, Nat.le_of_ble_eq_true rfl⟩ dX5_codesOf_21 ?_
  refine j_iadd (z := ((((nI 31) + (codS z g i)) * (nI 31)) + (codS z g j))) C dX5_codesOf_24 rfl ?_
  refine j_bipush (v := (nI 31)) C dX5_codesOf_25 rfl ?_
  refine j_imul (z := (((((nI 31) + (codS z g i)) * (nI 31)) + (codS z g j)) * (nI 31))) C dX5_codesOf_27 rfl ?_
  refine j_aload_n C dX5_codesOf_28 rfl ?_
  refine j_get C 6 rfl inj_X5 rfl 1 (by decide) w_922 rfl dX5_codesOf_29 ?_
  refine j_iload_n C dX5_codesOf_32 rfl ?_
  refine j_aaload (v := va_rf (ro k)) C 7 k rfl rfl (by omega) (by decide) rfl dX5_codesOf_33 ?_
  refine j_callSr C (v := .int (codS z g k)) (w := (mW E x0 x1 x2 x3 x4 x5 mo ou th re ak gv kn ro LL ff)) (m_codS l E A hR (i := k) (by omega)) ok_X5_codeOf w_1170 (by decide) rfl rfl (Nat.le_of_ble_eq_true rfl) ⟨Nat.le_of_ble_eq_true rfl, Nat.le_of_ble_eq_true rfl⟩ dX5_codesOf_34 ?_
  refine j_iadd (z := ((((((nI 31) + (codS z g i)) * (nI 31)) + (codS z g j)) * (nI 31)) + (codS z g k))) C dX5_codesOf_37 rfl ?_
  exact j_iret C hQ rfl dX5_codesOf_38 ⟨Nat.le_of_ble_eq_true rfl, Nat.le_of_ble_eq_true rfl⟩ ⟨rfl, rfl⟩
set_option maxHeartbeats 4000000 in
set_option maxRecDepth 100000 in
theorem m_houseTold (l : Launch) (E : jE) (A : Nat → Prop) {x0 x1 x2 x3 x4 x5 : Nat × va_E} {mo ou : Nat} {th re ak gv kn : Int32} {ro : Nat → Option Nat} {LL : List Nat} {ff : Nat → va_E} {i : Nat} (hi : i ≤ 5) {z g : Nat → Int32} (hR : Rel E z g ro LL ff)  : jMet l yX5_houseTold cX5_houseTold 8 (some .int) 1 1 6 E A [.ref mo, .int (nI i)] (mW E x0 x1 x2 x3 x4 x5 mo ou th re ak gv kn ro LL ff) (fun v w => ∃ (q : Nat) (h : Nat → Int32), q ∉ LL ∧ v = some (.int (telV z re ak gv kn i)) ∧ w = mW E x0 x1 x2 x3 x4 x5 mo ou th re ak gv kn ro (LL ++ [q]) (va_up ff q (.inl (E.2.1, 6, .inl h)))) jNo := by
  refine jMet.intro' [(0, .ref mo), (1, .int (nI i))] (by decide) (Nat.le_of_ble_eq_true rfl) rfl ?_
  intro p e R s m args below meth c Q C hQ
  refine j_iconst (v := (nI 0)) C dX5_houseTold_0 rfl ?_
  refine j_istore_n (lv' := [(2, .int (nI 0)), (0, .ref mo), (1, .int (nI i))]) C dX5_houseTold_1 (by decide) rfl ?_
  refine j_iconst (v := (nI 0)) C dX5_houseTold_2 rfl ?_
  refine j_istore_n (lv' := [(3, .int (nI 0)), (2, .int (nI 0)), (0, .ref mo), (1, .int (nI i))]) C dX5_houseTold_3 (by decide) rfl ?_
  refine j_aload_n C dX5_houseTold_4 rfl ?_
  refine j_get C 6 rfl inj_X5 rfl 1 (by decide) w_922 rfl dX5_houseTold_5 ?_
  refine j_astore (lv' := [(4, .ref ou), (3, .int (nI 0)), (2, .int (nI 0)), (0, .ref mo), (1, .int (nI i))]) C dX5_houseTold_8 (by decide) rfl ?_
  refine j_aload C dX5_houseTold_10 rfl ?_
  refine j_alen C 7 2 rfl rfl rfl dX5_houseTold_12 ?_
  refine j_istore (lv' := [(5, .int (nI 9)), (4, .ref ou), (3, .int (nI 0)), (2, .int (nI 0)), (0, .ref mo), (1, .int (nI i))]) C dX5_houseTold_13 (by decide) rfl ?_
  refine j_iconst (v := (nI 0)) C dX5_houseTold_15 rfl ?_
  refine j_istore (lv' := [(6, .int (nI 0)), (5, .int (nI 9)), (4, .ref ou), (3, .int (nI 0)), (2, .int (nI 0)), (0, .ref mo), (1, .int (nI i))]) C dX5_houseTold_16 (by decide) rfl ?_
  have L18 : ∀ (r k : Nat), k + r = 9 → jJ p l e R s m args below meth c E A 8 Q 0 0 18 [(6, .int (nI k)), (5, .int (nI 9)), (4, .ref ou), (3, .int (nI (awN z k))), (2, .int (nI (sgnN z k))), (0, .ref mo), (1, .int (nI i))] [] (mW E x0 x1 x2 x3 x4 x5 mo ou th re ak gv kn ro LL ff) := by
    intro r
    induction r with
    | zero =>
      intro k  hk18 
      refine j_iload C dX5_houseTold_18 rfl ?_
      refine j_iload C dX5_houseTold_20 rfl ?_
      refine j_icmpn_ge_t (tgt := 69) C dX5_houseTold_22 (by decide) (by omega) (by omega) (by omega) ?_
      have ek : 9 = k := by omega
      subst ek
      refine j_bipush (v := (nI 6)) C dX5_houseTold_69 rfl ?_
      refine j_newIP C 6 w_72 rfl (by omega) (by omega) (by omega) dX5_houseTold_71 (fun q1 hq1 => ?_)
      refine j_dup C dX5_houseTold_73 rfl ?_
      refine j_iconst (v := (nI 0)) C dX5_houseTold_74 rfl ?_
      refine j_iload_n C dX5_houseTold_75 rfl ?_
      refine j_iastoreP (h' := upd (fun _ => 0) 0 (nI (sgnN z (9)))) C 0 pool_newm pool_new rfl (by omega) (by omega) dX5_houseTold_76 rfl ?_
      refine j_dup C dX5_houseTold_77 rfl ?_
      refine j_iconst (v := (nI 1)) C dX5_houseTold_78 rfl ?_
      refine j_iload_n C dX5_houseTold_79 rfl ?_
      refine j_iastoreP (h' := upd (upd (fun _ => 0) 0 (nI (sgnN z (9)))) 1 (nI (awN z (9)))) C 1 pool_newm pool_new rfl (by omega) (by omega) dX5_houseTold_80 rfl ?_
      refine j_dup C dX5_houseTold_81 rfl ?_
      refine j_iconst (v := (nI 2)) C dX5_houseTold_82 rfl ?_
      refine j_aload_n C dX5_houseTold_83 rfl ?_
      refine j_get C 6 rfl inj_X5 rfl 2 (by decide) w_923 rfl dX5_houseTold_84 ?_
      refine j_iastoreP (h' := upd (upd (upd (fun _ => 0) 0 (nI (sgnN z (9)))) 1 (nI (awN z (9)))) 2 re) C 2 pool_newm pool_new rfl (by omega) (by omega) dX5_houseTold_87 rfl ?_
      refine j_dup C dX5_houseTold_88 rfl ?_
      refine j_iconst (v := (nI 3)) C dX5_houseTold_89 rfl ?_
      refine j_aload_n C dX5_houseTold_90 rfl ?_
      refine j_get C 6 rfl inj_X5 rfl 3 (by decide) w_924 rfl dX5_houseTold_91 ?_
      refine j_iastoreP (h' := upd (upd (upd (upd (fun _ => 0) 0 (nI (sgnN z (9)))) 1 (nI (awN z (9)))) 2 re) 3 ak) C 3 pool_newm pool_new rfl (by omega) (by omega) dX5_houseTold_94 rfl ?_
      refine j_dup C dX5_houseTold_95 rfl ?_
      refine j_iconst (v := (nI 4)) C dX5_houseTold_96 rfl ?_
      refine j_aload_n C dX5_houseTold_97 rfl ?_
      refine j_get C 6 rfl inj_X5 rfl 4 (by decide) w_925 rfl dX5_houseTold_98 ?_
      refine j_iastoreP (h' := upd (upd (upd (upd (upd (fun _ => 0) 0 (nI (sgnN z (9)))) 1 (nI (awN z (9)))) 2 re) 3 ak) 4 gv) C 4 pool_newm pool_new rfl (by omega) (by omega) dX5_houseTold_101 rfl ?_
      refine j_dup C dX5_houseTold_102 rfl ?_
      refine j_iconst (v := (nI 5)) C dX5_houseTold_103 rfl ?_
      refine j_aload_n C dX5_houseTold_104 rfl ?_
      refine j_get C 6 rfl inj_X5 rfl 5 (by decide) w_926 rfl dX5_houseTold_105 ?_
      refine j_iastoreP (h' := upd (upd (upd (upd (upd (upd (fun _ => 0) 0 (nI (sgnN z (9)))) 1 (nI (awN z (9)))) 2 re) 3 ak) 4 gv) 5 kn) C 5 pool_newm pool_new rfl (by omega) (by omega) dX5_houseTold_108 rfl ?_
      refine j_astore (lv' := [(4, .ref q1), (6, .int (nI (9))), (5, .int (nI 9)), (3, .int (nI (awN z (9)))), (2, .int (nI (sgnN z (9)))), (0, .ref mo), (1, .int (nI i))]) C dX5_houseTold_109 (by decide) rfl ?_
      refine j_aload C dX5_houseTold_111 rfl ?_
      refine j_iload_n C dX5_houseTold_113 rfl ?_
      refine j_ialoadP (z := (telV z re ak gv kn i)) C i pool_newm pool_new rfl (by omega) (by omega) (h6_at hi rfl rfl) dX5_houseTold_114 ?_
      exact j_iret C hQ rfl dX5_houseTold_115 ⟨Nat.le_of_ble_eq_true rfl, Nat.le_of_ble_eq_true rfl⟩ ⟨q1, _, hq1, rfl, by simp only [pool_up2]; rfl⟩
    | succ r ih18 =>
      intro k  hk18 
      refine j_iload C dX5_houseTold_18 rfl ?_
      refine j_iload C dX5_houseTold_20 rfl ?_
      refine j_icmpn_ge_f (tgt := 69) C dX5_houseTold_22 (by decide) (by omega) (by omega) (by omega) ?_
      refine j_aload C dX5_houseTold_25 rfl ?_
      refine j_iload C dX5_houseTold_27 rfl ?_
      rcases hR.1 k (by omega) with ⟨hz_k, hr_k⟩ | ⟨a_k, n_k, h_k, hn_k, hz_k, hr_k, hm_k, hf_k, hs_k⟩
      · skip
        refine j_aaload (v := .null) C 7 k rfl rfl (by omega) (by decide) (by rw [show ro k = none from hr_k]; rfl) dX5_houseTold_29 ?_
        refine j_astoreN (lv' := [(7, .null), (6, .int (nI k)), (5, .int (nI 9)), (4, .ref ou), (3, .int (nI (awN z k))), (2, .int (nI (sgnN z k))), (0, .ref mo), (1, .int (nI i))]) C dX5_houseTold_30 (by decide) rfl ?_
        refine j_iload_n C dX5_houseTold_32 rfl ?_
        refine j_aloadN C dX5_houseTold_33 rfl ?_
        refine j_ifnonnull_f C dX5_houseTold_35 ?_
        refine j_iconst (v := (nI 0)) C dX5_houseTold_38 rfl ?_
        refine j_goto (tgt := 45) C dX5_houseTold_39 (by decide) ?_
        refine j_iadd (z := (nI (sgnN z k + 0))) C dX5_houseTold_45 (nI_add _ _) ?_
        refine j_istore_n (lv' := [(2, .int (nI (sgnN z k + 0))), (7, .null), (6, .int (nI k)), (5, .int (nI 9)), (4, .ref ou), (3, .int (nI (awN z k))), (0, .ref mo), (1, .int (nI i))]) C dX5_houseTold_46 (by decide) rfl ?_
        refine j_iload_n C dX5_houseTold_47 rfl ?_
        refine j_aloadN C dX5_houseTold_48 rfl ?_
        refine j_ifnonnull_f C dX5_houseTold_50 ?_
        refine j_iconst (v := (nI 1)) C dX5_houseTold_53 rfl ?_
        refine j_goto (tgt := 58) C dX5_houseTold_54 (by decide) ?_
        refine j_callSr C (v := .int (nI 1)) (w := (mW E x0 x1 x2 x3 x4 x5 mo ou th re ak gv kn ro LL ff)) (m_one_1 l E A) ok_X5_one w_956 (by decide) rfl rfl (Nat.le_of_ble_eq_true rfl) ⟨Nat.le_of_ble_eq_true rfl, Nat.le_of_ble_eq_true rfl⟩ dX5_houseTold_58 ?_
        refine j_iadd (z := (nI (awN z k + 1))) C dX5_houseTold_61 (nI_add _ _) ?_
        refine j_istore_n (lv' := [(3, .int (nI (awN z k + 1))), (2, .int (nI (sgnN z k + 0))), (7, .null), (6, .int (nI k)), (5, .int (nI 9)), (4, .ref ou), (0, .ref mo), (1, .int (nI i))]) C dX5_houseTold_62 (by decide) rfl ?_
        refine j_iinc (lv' := [(6, .int (nI (k + 1))), (3, .int (nI (awN z k + 1))), (2, .int (nI (sgnN z k + 0))), (7, .null), (5, .int (nI 9)), (4, .ref ou), (0, .ref mo), (1, .int (nI i))]) C dX5_houseTold_63 rfl (nI_1 _) (by decide) rfl ?_
        refine j_goto (tgt := 18) C dX5_houseTold_66 (by decide) ?_
        refine j_eq (lv' := [(6, .int (nI (k + 1))), (3, .int (nI (awN z k + 1))), (2, .int (nI (sgnN z (k + 1)))), (7, .null), (5, .int (nI 9)), (4, .ref ou), (0, .ref mo), (1, .int (nI i))]) (by rw [sgnN, hz_k]; rfl) rfl rfl ?_
        refine j_eq (lv' := [(6, .int (nI (k + 1))), (3, .int (nI (awN z (k + 1)))), (2, .int (nI (sgnN z (k + 1)))), (7, .null), (5, .int (nI 9)), (4, .ref ou), (0, .ref mo), (1, .int (nI i))]) (by rw [awN_y hz_k]) rfl rfl ?_
        refine j_lv (lv' := [(6, .int (nI (k + 1))), (5, .int (nI 9)), (4, .ref ou), (3, .int (nI (awN z (k + 1)))), (2, .int (nI (sgnN z (k + 1)))), (0, .ref mo), (1, .int (nI i))]) (by simp only [List.mem_cons, List.not_mem_nil, or_false, forall_eq_or_imp, forall_eq, true_or, or_true, and_self, Nat.add_zero]) ?_
        exact ih18 (k + 1) (by omega)
      · skip
        refine j_aaload (v := .ref a_k) C 7 k rfl rfl (by omega) (by decide) (by rw [show ro k = some a_k from hr_k]; rfl) dX5_houseTold_29 ?_
        refine j_astore (lv' := [(7, .ref a_k), (6, .int (nI k)), (5, .int (nI 9)), (4, .ref ou), (3, .int (nI (awN z k))), (2, .int (nI (sgnN z k))), (0, .ref mo), (1, .int (nI i))]) C dX5_houseTold_30 (by decide) rfl ?_
        refine j_iload_n C dX5_houseTold_32 rfl ?_
        refine j_aload C dX5_houseTold_33 rfl ?_
        refine j_ifnonnull_t (tgt := 42) C dX5_houseTold_35 (by decide) ?_
        refine j_aload C dX5_houseTold_42 rfl ?_
        refine j_alenP (n := n_k) C hm_k hf_k dX5_houseTold_44 ?_
        refine j_iadd (z := (nI (sgnN z k + n_k))) C dX5_houseTold_45 (nI_add _ _) ?_
        refine j_istore_n (lv' := [(2, .int (nI (sgnN z k + n_k))), (7, .ref a_k), (6, .int (nI k)), (5, .int (nI 9)), (4, .ref ou), (3, .int (nI (awN z k))), (0, .ref mo), (1, .int (nI i))]) C dX5_houseTold_46 (by decide) rfl ?_
        refine j_iload_n C dX5_houseTold_47 rfl ?_
        refine j_aload C dX5_houseTold_48 rfl ?_
        refine j_ifnonnull_t (tgt := 57) C dX5_houseTold_50 (by decide) ?_
        refine j_iconst (v := (nI 0)) C dX5_houseTold_57 rfl ?_
        refine j_callSr C (v := .int (nI 0)) (w := (mW E x0 x1 x2 x3 x4 x5 mo ou th re ak gv kn ro LL ff)) (m_one_0 l E A) ok_X5_one w_956 (by decide) rfl rfl (Nat.le_of_ble_eq_true rfl) ⟨Nat.le_of_ble_eq_true rfl, Nat.le_of_ble_eq_true rfl⟩ dX5_houseTold_58 ?_
        refine j_iadd (z := (nI (awN z k + 0))) C dX5_houseTold_61 (nI_add _ _) ?_
        refine j_istore_n (lv' := [(3, .int (nI (awN z k + 0))), (2, .int (nI (sgnN z k + n_k))), (7, .ref a_k), (6, .int (nI k)), (5, .int (nI 9)), (4, .ref ou), (0, .ref mo), (1, .int (nI i))]) C dX5_houseTold_62 (by decide) rfl ?_
        refine j_iinc (lv' := [(6, .int (nI (k + 1))), (3, .int (nI (awN z k + 0))), (2, .int (nI (sgnN z k + n_k))), (7, .ref a_k), (5, .int (nI 9)), (4, .ref ou), (0, .ref mo), (1, .int (nI i))]) C dX5_houseTold_63 rfl (nI_1 _) (by decide) rfl ?_
        refine j_goto (tgt := 18) C dX5_houseTold_66 (by decide) ?_
        refine j_eq (lv' := [(6, .int (nI (k + 1))), (3, .int (nI (awN z k + 0))), (2, .int (nI (sgnN z (k + 1)))), (7, .ref a_k), (5, .int (nI 9)), (4, .ref ou), (0, .ref mo), (1, .int (nI i))]) (by rw [sgnN, hz_k, nI_clamp (by omega)]) rfl rfl ?_
        refine j_eq (lv' := [(6, .int (nI (k + 1))), (3, .int (nI (awN z (k + 1)))), (2, .int (nI (sgnN z (k + 1)))), (7, .ref a_k), (5, .int (nI 9)), (4, .ref ou), (0, .ref mo), (1, .int (nI i))]) (by rw [awN_n (by rw [hz_k]; exact nI_ne_m (by omega))]; rfl) rfl rfl ?_
        refine j_lv (lv' := [(6, .int (nI (k + 1))), (5, .int (nI 9)), (4, .ref ou), (3, .int (nI (awN z (k + 1)))), (2, .int (nI (sgnN z (k + 1)))), (0, .ref mo), (1, .int (nI i))]) (by simp only [List.mem_cons, List.not_mem_nil, or_false, forall_eq_or_imp, forall_eq, true_or, or_true, and_self, Nat.add_zero]) ?_
        exact ih18 (k + 1) (by omega)
  refine j_eq (lv' := [(6, .int (nI 0)), (5, .int (nI 9)), (4, .ref ou), (3, .int (nI 0)), (2, .int (nI (sgnN z 0))), (0, .ref mo), (1, .int (nI i))]) rfl rfl rfl ?_
  refine j_eq (lv' := [(6, .int (nI 0)), (5, .int (nI 9)), (4, .ref ou), (3, .int (nI (awN z 0))), (2, .int (nI (sgnN z 0))), (0, .ref mo), (1, .int (nI i))]) rfl rfl rfl ?_
  refine j_lv (lv' := [(6, .int (nI 0)), (5, .int (nI 9)), (4, .ref ou), (3, .int (nI (awN z 0))), (2, .int (nI (sgnN z 0))), (0, .ref mo), (1, .int (nI i))]) (by simp only [List.mem_cons, List.not_mem_nil, or_false, forall_eq_or_imp, forall_eq, true_or, or_true, and_self, Nat.add_zero]) ?_
  exact L18 9 0 (by omega)
