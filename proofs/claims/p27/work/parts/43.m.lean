/-! contracts, laid by program (wip/gen) -/
theorem streM_of {a v n : Nat} (h : a + v ≤ n) (hn : n ≤ 24) : ¬ (nI a).toInt64 < 0 ∧ ¬ (nI v).toInt64 < 0 ∧ ¬ (nI n).toInt64 < 0 ∧ ¬ (nI n).toInt64 < (nI a).toInt64 + (nI v).toInt64 := by
  rw [nI_l (by omega), nI_l (by omega), nI_l (by omega), lN_add]
  exact ⟨fun z => absurd ((lN_lt (b := 0) (by omega) (by decide)).mp z) (by omega), fun z => absurd ((lN_lt (b := 0) (by omega) (by decide)).mp z) (by omega), fun z => absurd ((lN_lt (b := 0) (by omega) (by decide)).mp z) (by omega), fun z => absurd ((lN_lt (by omega) (by omega)).mp z) (by omega)⟩
section JAC
variable {p : Program} {l : Launch} {e : Env} {R : Room} {s : State} {m : MethodId} {args : Array Value} {below : List Frame} {meth : Method} {c : Code} {y : MethodName} {cc : ByteArray} {nL : Nat} {ret : Option FieldType} {d mc ms : Nat} {E : jE} {A : Nat → Prop} {Q : State → Prop} {cells slots pc : Nat} {lv : List (Nat × Value)} {rest st : List Value} {ws : va_W}
theorem j_acmp_ne_t (C : jC p l e R s m args below meth c y cc nL ret d mc ms E A) {rx ry : Option Nat} {off : Int} {tgt : Nat} (hd : decode cc pc = .ok (.if_acmp .ne off, 3)) (ht : (pc : Int) + off = (tgt : Int)) (h : ¬ rx = ry) (kk : jJ p l e R s m args below meth c E A nL Q cells slots tgt lv rest ws) : jJ p l e R s m args below meth c E A nL Q cells slots pc lv (va_rf ry :: va_rf rx :: rest) ws := fun _ _ _ hP hD hS hl => lv_acmp_ne C.1 C.2.1 hd ht (fun _ => kk _ _ _ hP hD hS hl) (fun q => absurd q h)
theorem j_acmp_ne_f (C : jC p l e R s m args below meth c y cc nL ret d mc ms E A) {rx ry : Option Nat} {off : Int} {tgt : Nat} (hd : decode cc pc = .ok (.if_acmp .ne off, 3)) (ht : (pc : Int) + off = (tgt : Int)) (h : rx = ry) (kk : jJ p l e R s m args below meth c E A nL Q cells slots (pc + 3) lv rest ws) : jJ p l e R s m args below meth c E A nL Q cells slots pc lv (va_rf ry :: va_rf rx :: rest) ws := fun _ _ _ hP hD hS hl => lv_acmp_ne C.1 C.2.1 hd ht (fun q => absurd h q) (fun _ => kk _ _ _ hP hD hS hl)
end JAC
theorem sameV_cmp {f h : Nat → Int32} : ∀ (r k : Nat), cmpF f h (nI 0) k r = 0 ↔ sameV f h k r = 1
  | 0, _ => ⟨fun _ => rfl, fun _ => rfl⟩
  | r + 1, k => by
    by_cases e : f k = h k
    · rw [sameV_eq e, cmpF_eq (smI_0.mpr ⟨fun q => by rw [e] at q; exact Int32.lt_irrefl q, fun q => by rw [e] at q; exact Int32.lt_irrefl q⟩)]
      exact sameV_cmp r (k + 1)
    · rw [sameV_ne e]
      refine ⟨fun q => ?_, fun q => absurd q (by decide)⟩
      rw [cmpF] at q
      by_cases h1 : f k < h k
      · rw [if_pos h1] at q; exact absurd q (by decide)
      · by_cases h2 : h k < f k
        · rw [if_neg h1, if_pos h2] at q; exact absurd q (by decide)
        · exact absurd (Int32.le_antisymm (Int32.not_lt.mp h2) (Int32.not_lt.mp h1)) e
theorem cmpF_ne0 {f h : Nat → Int32} {e : Int32} (he : ¬ e = 0) : ∀ (r k : Nat), ¬ cmpF f h e k r = 0
  | 0, _ => he
  | r + 1, k => by
    rw [cmpF]
    by_cases h1 : f k < h k
    · rw [if_pos h1]; decide
    · by_cases h2 : h k < f k
      · rw [if_neg h1, if_pos h2]; decide
      · rw [if_neg h1, if_neg h2]; exact cmpF_ne0 he r (k + 1)
theorem sameV_congr {f f' h h' : Nat → Int32} : ∀ (r k : Nat), (∀ q, k ≤ q → q < k + r → f q = f' q) → (∀ q, k ≤ q → q < k + r → h q = h' q) → sameV f h k r = sameV f' h' k r
  | 0, _, _, _ => rfl
  | r + 1, k, h1, h2 => by
    rw [sameV, sameV, h1 k (Nat.le_refl _) (by omega), h2 k (Nat.le_refl _) (by omega), sameV_congr r (k + 1) (fun q a b => h1 q (by omega) (by omega)) (fun q a b => h2 q (by omega) (by omega))]
/-- of two rows: compared 0 just if the signs are the same -/
theorem cmp_same {z g : Nat → Int32} {i j n o : Nat} {h h' : Nat → Int32} (hn : n ≤ 24) (ho : o ≤ 24) (hz : z i = nI n) (hz2 : z j = nI o) (hs : ∀ k, k < n → h k = g (i * 24 + k)) (hs2 : ∀ k, k < o → h' k = g (j * 24 + k)) : (cmpF h h' (smI (nI n) (nI o)) 0 (min n o - 0) = 0) ↔ samS z g i j = 1 := by
  unfold samS
  by_cases e : n = o
  · subst e
    rw [if_neg (by rw [hz, hz2]; exact not_not_intro rfl), if_neg (by rw [hz]; exact nI_ne_m (by omega)), hz, nI_clamp (by omega), smI_e (Nat.le_refl _) (Nat.le_refl _) (by omega), Nat.min_self, Nat.sub_zero]
    rw [sameV_congr (f' := h) (h' := h') n 0 (fun q _ b => (hs q (by omega)).symm) (fun q _ b => (hs2 q (by omega)).symm)]
    exact sameV_cmp n 0
  · rw [if_pos (by rw [hz, hz2]; exact fun q => e ((nI_eq (by omega) (by omega)).mp q))]
    exact ⟨fun q => absurd q (cmpF_ne0 (smI_ne0 e (by omega) (by omega)) _ _), fun q => absurd q (by decide)⟩
theorem askF_c (z : Nat → Int32) (i k : Nat) (a : Int32) : askI z i k (askF z i a k) = askF z i a (k + 1) := ask_c z i k _
set_option maxHeartbeats 4000000 in
set_option maxRecDepth 100000 in
theorem g_length_b (l : Launch) (E : jE) (A : Nat → Prop) {x0 x1 x2 x3 x4 x5 : Nat × va_E} {mo ou : Nat} {th re ak gv kn : Int32} {ro : Nat → Option Nat} {LL : List Nat} {ff : Nat → va_E} {x : Int32} (hbx : x < 0 ∨ nI 9 ≤ x)  : jMet l yX5_length cX5_length 2 (some .int) 5 0 0 E A [.ref mo, .int x] (mW E x0 x1 x2 x3 x4 x5 mo ou th re ak gv kn ro LL ff) (jR (some (.int (nI 0))) (mW E x0 x1 x2 x3 x4 x5 mo ou (nI 1) re ak gv kn ro LL ff)) jNo := by
  refine jMet.intro' [(0, .ref mo), (1, .int x)] (by decide) (Nat.le_of_ble_eq_true rfl) rfl ?_
  intro p e R s m args below meth c Q C hQ
  refine j_aload_n C dX5_length_0 rfl ?_
  refine j_iload_n C dX5_length_1 rfl ?_
  refine j_callSr C (v := .int (nI 1)) (w := (mW E x0 x1 x2 x3 x4 x5 mo ou th re ak gv kn ro LL ff)) (m_isNo_1 l E A hbx) ok_X5_isNo w_959 (by decide) rfl rfl (Nat.le_of_ble_eq_true rfl) ⟨Nat.le_of_ble_eq_true rfl, Nat.le_of_ble_eq_true rfl⟩ dX5_length_2 ?_
  refine j_iconst (v := (nI 1)) C dX5_length_5 rfl ?_
  refine j_callVr C 6 (v := .int (nI 1)) (w := (mW E x0 x1 x2 x3 x4 x5 mo ou (nI 1) re ak gv kn ro LL ff)) (m_start_1 l E A (by decide) (by decide)) ok_X5_start w_962 (by decide) rfl rfl (Nat.le_of_ble_eq_true rfl) rfl rfl ⟨Nat.le_of_ble_eq_true rfl, Nat.le_of_ble_eq_true rfl⟩ dX5_length_6 ?_
  refine j_ifn_eq_f (tgt := 16) C dX5_length_9 (by decide) (by omega) (by omega) ?_
  refine j_iconst (v := (nI 0)) C dX5_length_12 rfl ?_
  refine j_goto (tgt := 21) C dX5_length_13 (by decide) ?_
  exact j_iret C hQ rfl dX5_length_21 ⟨Nat.le_of_ble_eq_true rfl, Nat.le_of_ble_eq_true rfl⟩ ⟨rfl, rfl⟩
set_option maxHeartbeats 4000000 in
set_option maxRecDepth 100000 in
theorem g_signAt_b (l : Launch) (E : jE) (A : Nat → Prop) {x0 x1 x2 x3 x4 x5 : Nat × va_E} {mo ou : Nat} {th re ak gv kn : Int32} {ro : Nat → Option Nat} {LL : List Nat} {ff : Nat → va_E} {x y : Int32} (hbx : x < 0 ∨ nI 9 ≤ x)  : jMet l yX5_signAt cX5_signAt 3 (some .int) 5 0 0 E A [.ref mo, .int x, .int y] (mW E x0 x1 x2 x3 x4 x5 mo ou th re ak gv kn ro LL ff) (jR (some (.int (nI 0))) (mW E x0 x1 x2 x3 x4 x5 mo ou (nI 1) re ak gv kn ro LL ff)) jNo := by
  refine jMet.intro' [(0, .ref mo), (1, .int x), (2, .int y)] (by decide) (Nat.le_of_ble_eq_true rfl) rfl ?_
  intro p e R s m args below meth c Q C hQ
  refine j_aload_n C dX5_signAt_0 rfl ?_
  refine j_iload_n C dX5_signAt_1 rfl ?_
  refine j_callSr C (v := .int (nI 1)) (w := (mW E x0 x1 x2 x3 x4 x5 mo ou th re ak gv kn ro LL ff)) (m_isNo_1 l E A hbx) ok_X5_isNo w_959 (by decide) rfl rfl (Nat.le_of_ble_eq_true rfl) ⟨Nat.le_of_ble_eq_true rfl, Nat.le_of_ble_eq_true rfl⟩ dX5_signAt_2 ?_
  refine j_iconst (v := (nI 1)) C dX5_signAt_5 rfl ?_
  refine j_callVr C 6 (v := .int (nI 1)) (w := (mW E x0 x1 x2 x3 x4 x5 mo ou (nI 1) re ak gv kn ro LL ff)) (m_start_1 l E A (by decide) (by decide)) ok_X5_start w_962 (by decide) rfl rfl (Nat.le_of_ble_eq_true rfl) rfl rfl ⟨Nat.le_of_ble_eq_true rfl, Nat.le_of_ble_eq_true rfl⟩ dX5_signAt_6 ?_
  refine j_ifn_eq_f (tgt := 14) C dX5_signAt_9 (by decide) (by omega) (by omega) ?_
  refine j_iconst (v := (nI 0)) C dX5_signAt_12 rfl ?_
  exact j_iret C hQ rfl dX5_signAt_13 ⟨Nat.le_of_ble_eq_true rfl, Nat.le_of_ble_eq_true rfl⟩ ⟨rfl, rfl⟩
set_option maxHeartbeats 4000000 in
set_option maxRecDepth 100000 in
theorem g_isEmpty_b (l : Launch) (E : jE) (A : Nat → Prop) {x0 x1 x2 x3 x4 x5 : Nat × va_E} {mo ou : Nat} {th re ak gv kn : Int32} {ro : Nat → Option Nat} {LL : List Nat} {ff : Nat → va_E} {x : Int32} (hbx : x < 0 ∨ nI 9 ≤ x)  : jMet l yX5_isEmpty cX5_isEmpty 2 (some .boolean) 5 0 0 E A [.ref mo, .int x] (mW E x0 x1 x2 x3 x4 x5 mo ou th re ak gv kn ro LL ff) (jR (some (.int (nI 0))) (mW E x0 x1 x2 x3 x4 x5 mo ou (nI 1) re ak gv kn ro LL ff)) jNo := by
  refine jMet.intro' [(0, .ref mo), (1, .int x)] (by decide) (Nat.le_of_ble_eq_true rfl) rfl ?_
  intro p e R s m args below meth c Q C hQ
  refine j_aload_n C dX5_isEmpty_0 rfl ?_
  refine j_iload_n C dX5_isEmpty_1 rfl ?_
  refine j_callVr C 6 (v := .int (nI 1)) (w := (mW E x0 x1 x2 x3 x4 x5 mo ou (nI 1) re ak gv kn ro LL ff)) (m_isNone_b l E A hbx) ok_X5_isNone w_985 (by decide) rfl rfl (Nat.le_of_ble_eq_true rfl) rfl rfl ⟨Nat.le_of_ble_eq_true rfl, Nat.le_of_ble_eq_true rfl⟩ dX5_isEmpty_2 ?_
  refine j_ifn_ne_t (tgt := 20) C dX5_isEmpty_5 (by decide) (by omega) (by omega) ?_
  refine j_iconst (v := (nI 0)) C dX5_isEmpty_20 rfl ?_
  exact j_zret C hQ rfl rfl dX5_isEmpty_21 ⟨Nat.le_of_ble_eq_true rfl, Nat.le_of_ble_eq_true rfl⟩ ⟨rfl, rfl⟩
set_option maxHeartbeats 4000000 in
set_option maxRecDepth 100000 in
theorem g_isMissing_b (l : Launch) (E : jE) (A : Nat → Prop) {x0 x1 x2 x3 x4 x5 : Nat × va_E} {mo ou : Nat} {th re ak gv kn : Int32} {ro : Nat → Option Nat} {LL : List Nat} {ff : Nat → va_E} {x : Int32} (hbx : x < 0 ∨ nI 9 ≤ x)  : jMet l yX5_isMissing cX5_isMissing 2 (some .boolean) 5 0 0 E A [.ref mo, .int x] (mW E x0 x1 x2 x3 x4 x5 mo ou th re ak gv kn ro LL ff) (jR (some (.int (nI 0))) (mW E x0 x1 x2 x3 x4 x5 mo ou (nI 1) re ak gv kn ro LL ff)) jNo := by
  refine jMet.intro' [(0, .ref mo), (1, .int x)] (by decide) (Nat.le_of_ble_eq_true rfl) rfl ?_
  intro p e R s m args below meth c Q C hQ
  refine j_aload_n C dX5_isMissing_0 rfl ?_
  refine j_iload_n C dX5_isMissing_1 rfl ?_
  refine j_callSr C (v := .int (nI 1)) (w := (mW E x0 x1 x2 x3 x4 x5 mo ou th re ak gv kn ro LL ff)) (m_isNo_1 l E A hbx) ok_X5_isNo w_959 (by decide) rfl rfl (Nat.le_of_ble_eq_true rfl) ⟨Nat.le_of_ble_eq_true rfl, Nat.le_of_ble_eq_true rfl⟩ dX5_isMissing_2 ?_
  refine j_iconst (v := (nI 1)) C dX5_isMissing_5 rfl ?_
  refine j_callVr C 6 (v := .int (nI 1)) (w := (mW E x0 x1 x2 x3 x4 x5 mo ou (nI 1) re ak gv kn ro LL ff)) (m_start_1 l E A (by decide) (by decide)) ok_X5_start w_962 (by decide) rfl rfl (Nat.le_of_ble_eq_true rfl) rfl rfl ⟨Nat.le_of_ble_eq_true rfl, Nat.le_of_ble_eq_true rfl⟩ dX5_isMissing_6 ?_
  refine j_ifn_ne_t (tgt := 25) C dX5_isMissing_9 (by decide) (by omega) (by omega) ?_
  refine j_iconst (v := (nI 0)) C dX5_isMissing_25 rfl ?_
  exact j_zret C hQ rfl rfl dX5_isMissing_26 ⟨Nat.le_of_ble_eq_true rfl, Nat.le_of_ble_eq_true rfl⟩ ⟨rfl, rfl⟩
set_option maxHeartbeats 4000000 in
set_option maxRecDepth 100000 in
theorem g_isThere_b (l : Launch) (E : jE) (A : Nat → Prop) {x0 x1 x2 x3 x4 x5 : Nat × va_E} {mo ou : Nat} {th re ak gv kn : Int32} {ro : Nat → Option Nat} {LL : List Nat} {ff : Nat → va_E} {x : Int32} (hbx : x < 0 ∨ nI 9 ≤ x)  : jMet l yX5_isThere cX5_isThere 2 (some .boolean) 5 0 0 E A [.ref mo, .int x] (mW E x0 x1 x2 x3 x4 x5 mo ou th re ak gv kn ro LL ff) (jR (some (.int (nI 0))) (mW E x0 x1 x2 x3 x4 x5 mo ou (nI 1) re ak gv kn ro LL ff)) jNo := by
  refine jMet.intro' [(0, .ref mo), (1, .int x)] (by decide) (Nat.le_of_ble_eq_true rfl) rfl ?_
  intro p e R s m args below meth c Q C hQ
  refine j_aload_n C dX5_isThere_0 rfl ?_
  refine j_iload_n C dX5_isThere_1 rfl ?_
  refine j_callSr C (v := .int (nI 1)) (w := (mW E x0 x1 x2 x3 x4 x5 mo ou th re ak gv kn ro LL ff)) (m_isNo_1 l E A hbx) ok_X5_isNo w_959 (by decide) rfl rfl (Nat.le_of_ble_eq_true rfl) ⟨Nat.le_of_ble_eq_true rfl, Nat.le_of_ble_eq_true rfl⟩ dX5_isThere_2 ?_
  refine j_iconst (v := (nI 1)) C dX5_isThere_5 rfl ?_
  refine j_callVr C 6 (v := .int (nI 1)) (w := (mW E x0 x1 x2 x3 x4 x5 mo ou (nI 1) re ak gv kn ro LL ff)) (m_start_1 l E A (by decide) (by decide)) ok_X5_start w_962 (by decide) rfl rfl (Nat.le_of_ble_eq_true rfl) rfl rfl ⟨Nat.le_of_ble_eq_true rfl, Nat.le_of_ble_eq_true rfl⟩ dX5_isThere_6 ?_
  refine j_ifn_ne_t (tgt := 25) C dX5_isThere_9 (by decide) (by omega) (by omega) ?_
  refine j_iconst (v := (nI 0)) C dX5_isThere_25 rfl ?_
  exact j_zret C hQ rfl rfl dX5_isThere_26 ⟨Nat.le_of_ble_eq_true rfl, Nat.le_of_ble_eq_true rfl⟩ ⟨rfl, rfl⟩
set_option maxHeartbeats 4000000 in
set_option maxRecDepth 100000 in
theorem g_must_b (l : Launch) (E : jE) (A : Nat → Prop) {x0 x1 x2 x3 x4 x5 : Nat × va_E} {mo ou : Nat} {th re ak gv kn : Int32} {ro : Nat → Option Nat} {LL : List Nat} {ff : Nat → va_E} {x : Int32} (hbx : x < 0 ∨ nI 9 ≤ x)  : jMet l yX5_must cX5_must 2 (some .int) 5 0 0 E A [.ref mo, .int x] (mW E x0 x1 x2 x3 x4 x5 mo ou th re ak gv kn ro LL ff) (jR (some (.int (nI 0))) (mW E x0 x1 x2 x3 x4 x5 mo ou (nI 1) re ak gv kn ro LL ff)) jNo := by
  refine jMet.intro' [(0, .ref mo), (1, .int x)] (by decide) (Nat.le_of_ble_eq_true rfl) rfl ?_
  intro p e R s m args below meth c Q C hQ
  refine j_aload_n C dX5_must_0 rfl ?_
  refine j_iload_n C dX5_must_1 rfl ?_
  refine j_callSr C (v := .int (nI 1)) (w := (mW E x0 x1 x2 x3 x4 x5 mo ou th re ak gv kn ro LL ff)) (m_isNo_1 l E A hbx) ok_X5_isNo w_959 (by decide) rfl rfl (Nat.le_of_ble_eq_true rfl) ⟨Nat.le_of_ble_eq_true rfl, Nat.le_of_ble_eq_true rfl⟩ dX5_must_2 ?_
  refine j_iconst (v := (nI 1)) C dX5_must_5 rfl ?_
  refine j_callVr C 6 (v := .int (nI 1)) (w := (mW E x0 x1 x2 x3 x4 x5 mo ou (nI 1) re ak gv kn ro LL ff)) (m_start_1 l E A (by decide) (by decide)) ok_X5_start w_962 (by decide) rfl rfl (Nat.le_of_ble_eq_true rfl) rfl rfl ⟨Nat.le_of_ble_eq_true rfl, Nat.le_of_ble_eq_true rfl⟩ dX5_must_6 ?_
  refine j_ifn_eq_f (tgt := 16) C dX5_must_9 (by decide) (by omega) (by omega) ?_
  refine j_iconst (v := (nI 0)) C dX5_must_12 rfl ?_
  refine j_goto (tgt := 37) C dX5_must_13 (by decide) ?_
  exact j_iret C hQ rfl dX5_must_37 ⟨Nat.le_of_ble_eq_true rfl, Nat.le_of_ble_eq_true rfl⟩ ⟨rfl, rfl⟩
set_option maxHeartbeats 4000000 in
set_option maxRecDepth 100000 in
theorem g_mustSaying_b (l : Launch) (E : jE) (A : Nat → Prop) {x0 x1 x2 x3 x4 x5 : Nat × va_E} {mo ou : Nat} {th re ak gv kn : Int32} {ro : Nat → Option Nat} {LL : List Nat} {ff : Nat → va_E} {x : Int32} (hbx : x < 0 ∨ nI 9 ≤ x)  : jMet l yX5_mustSaying cX5_mustSaying 2 (some .int) 5 0 0 E A [.ref mo, .int x] (mW E x0 x1 x2 x3 x4 x5 mo ou th re ak gv kn ro LL ff) (jR (some (.int (nI 0))) (mW E x0 x1 x2 x3 x4 x5 mo ou (nI 1) re ak gv kn ro LL ff)) jNo := by
  refine jMet.intro' [(0, .ref mo), (1, .int x)] (by decide) (Nat.le_of_ble_eq_true rfl) rfl ?_
  intro p e R s m args below meth c Q C hQ
  refine j_aload_n C dX5_mustSaying_0 rfl ?_
  refine j_iload_n C dX5_mustSaying_1 rfl ?_
  refine j_callSr C (v := .int (nI 1)) (w := (mW E x0 x1 x2 x3 x4 x5 mo ou th re ak gv kn ro LL ff)) (m_isNo_1 l E A hbx) ok_X5_isNo w_959 (by decide) rfl rfl (Nat.le_of_ble_eq_true rfl) ⟨Nat.le_of_ble_eq_true rfl, Nat.le_of_ble_eq_true rfl⟩ dX5_mustSaying_2 ?_
  refine j_iconst (v := (nI 1)) C dX5_mustSaying_5 rfl ?_
  refine j_callVr C 6 (v := .int (nI 1)) (w := (mW E x0 x1 x2 x3 x4 x5 mo ou (nI 1) re ak gv kn ro LL ff)) (m_start_1 l E A (by decide) (by decide)) ok_X5_start w_962 (by decide) rfl rfl (Nat.le_of_ble_eq_true rfl) rfl rfl ⟨Nat.le_of_ble_eq_true rfl, Nat.le_of_ble_eq_true rfl⟩ dX5_mustSaying_6 ?_
  refine j_ifn_eq_f (tgt := 14) C dX5_mustSaying_9 (by decide) (by omega) (by omega) ?_
  refine j_iconst (v := (nI 0)) C dX5_mustSaying_12 rfl ?_
  exact j_iret C hQ rfl dX5_mustSaying_13 ⟨Nat.le_of_ble_eq_true rfl, Nat.le_of_ble_eq_true rfl⟩ ⟨rfl, rfl⟩
set_option maxHeartbeats 4000000 in
set_option maxRecDepth 100000 in
theorem g_leave_b (l : Launch) (E : jE) (A : Nat → Prop) {x0 x1 x2 x3 x4 x5 : Nat × va_E} {mo ou : Nat} {th re ak gv kn : Int32} {ro : Nat → Option Nat} {LL : List Nat} {ff : Nat → va_E} {x : Int32} (hbx : x < 0 ∨ nI 9 ≤ x)  : jMet l yX5_leave cX5_leave 3 (some .int) 5 0 0 E A [.ref mo, .int x] (mW E x0 x1 x2 x3 x4 x5 mo ou th re ak gv kn ro LL ff) (jR (some (.int (nI 0))) (mW E x0 x1 x2 x3 x4 x5 mo ou (nI 1) re ak gv kn ro LL ff)) jNo := by
  refine jMet.intro' [(0, .ref mo), (1, .int x)] (by decide) (Nat.le_of_ble_eq_true rfl) rfl ?_
  intro p e R s m args below meth c Q C hQ
  refine j_aload_n C dX5_leave_0 rfl ?_
  refine j_iload_n C dX5_leave_1 rfl ?_
  refine j_callSr C (v := .int (nI 1)) (w := (mW E x0 x1 x2 x3 x4 x5 mo ou th re ak gv kn ro LL ff)) (m_isNo_1 l E A hbx) ok_X5_isNo w_959 (by decide) rfl rfl (Nat.le_of_ble_eq_true rfl) ⟨Nat.le_of_ble_eq_true rfl, Nat.le_of_ble_eq_true rfl⟩ dX5_leave_2 ?_
  refine j_iconst (v := (nI 1)) C dX5_leave_5 rfl ?_
  refine j_callVr C 6 (v := .int (nI 1)) (w := (mW E x0 x1 x2 x3 x4 x5 mo ou (nI 1) re ak gv kn ro LL ff)) (m_start_1 l E A (by decide) (by decide)) ok_X5_start w_962 (by decide) rfl rfl (Nat.le_of_ble_eq_true rfl) rfl rfl ⟨Nat.le_of_ble_eq_true rfl, Nat.le_of_ble_eq_true rfl⟩ dX5_leave_6 ?_
  refine j_ifn_eq_f (tgt := 14) C dX5_leave_9 (by decide) (by omega) (by omega) ?_
  refine j_iconst (v := (nI 0)) C dX5_leave_12 rfl ?_
  exact j_iret C hQ rfl dX5_leave_13 ⟨Nat.le_of_ble_eq_true rfl, Nat.le_of_ble_eq_true rfl⟩ ⟨rfl, rfl⟩
set_option maxHeartbeats 4000000 in
set_option maxRecDepth 100000 in
theorem g_code_b (l : Launch) (E : jE) (A : Nat → Prop) {x0 x1 x2 x3 x4 x5 : Nat × va_E} {mo ou : Nat} {th re ak gv kn : Int32} {ro : Nat → Option Nat} {LL : List Nat} {ff : Nat → va_E} {x : Int32} (hbx : x < 0 ∨ nI 9 ≤ x)  : jMet l yX5_code cX5_code 2 (some .int) 5 0 0 E A [.ref mo, .int x] (mW E x0 x1 x2 x3 x4 x5 mo ou th re ak gv kn ro LL ff) (jR (some (.int (nI 0))) (mW E x0 x1 x2 x3 x4 x5 mo ou (nI 1) re ak gv kn ro LL ff)) jNo := by
  refine jMet.intro' [(0, .ref mo), (1, .int x)] (by decide) (Nat.le_of_ble_eq_true rfl) rfl ?_
  intro p e R s m args below meth c Q C hQ
  refine j_aload_n C dX5_code_0 rfl ?_
  refine j_iload_n C dX5_code_1 rfl ?_
  refine j_callSr C (v := .int (nI 1)) (w := (mW E x0 x1 x2 x3 x4 x5 mo ou th re ak gv kn ro LL ff)) (m_isNo_1 l E A hbx) ok_X5_isNo w_959 (by decide) rfl rfl (Nat.le_of_ble_eq_true rfl) ⟨Nat.le_of_ble_eq_true rfl, Nat.le_of_ble_eq_true rfl⟩ dX5_code_2 ?_
  refine j_iconst (v := (nI 1)) C dX5_code_5 rfl ?_
  refine j_callVr C 6 (v := .int (nI 1)) (w := (mW E x0 x1 x2 x3 x4 x5 mo ou (nI 1) re ak gv kn ro LL ff)) (m_start_1 l E A (by decide) (by decide)) ok_X5_start w_962 (by decide) rfl rfl (Nat.le_of_ble_eq_true rfl) rfl rfl ⟨Nat.le_of_ble_eq_true rfl, Nat.le_of_ble_eq_true rfl⟩ dX5_code_6 ?_
  refine j_ifn_eq_f (tgt := 16) C dX5_code_9 (by decide) (by omega) (by omega) ?_
  refine j_iconst (v := (nI 0)) C dX5_code_12 rfl ?_
  refine j_goto (tgt := 25) C dX5_code_13 (by decide) ?_
  exact j_iret C hQ rfl dX5_code_25 ⟨Nat.le_of_ble_eq_true rfl, Nat.le_of_ble_eq_true rfl⟩ ⟨rfl, rfl⟩
set_option maxHeartbeats 4000000 in
set_option maxRecDepth 100000 in
theorem g_cut_b (l : Launch) (E : jE) (A : Nat → Prop) {x0 x1 x2 x3 x4 x5 : Nat × va_E} {mo ou : Nat} {th re ak gv kn : Int32} {ro : Nat → Option Nat} {LL : List Nat} {ff : Nat → va_E} {x y w : Int32} (hbx : x < 0 ∨ nI 9 ≤ x)  : jMet l yX5_cut cX5_cut 4 (some .int) 5 0 0 E A [.ref mo, .int x, .int y, .int w] (mW E x0 x1 x2 x3 x4 x5 mo ou th re ak gv kn ro LL ff) (jR (some (.int (nI 0))) (mW E x0 x1 x2 x3 x4 x5 mo ou (nI 1) re ak gv kn ro LL ff)) jNo := by
  refine jMet.intro' [(0, .ref mo), (1, .int x), (2, .int y), (3, .int w)] (by decide) (Nat.le_of_ble_eq_true rfl) rfl ?_
  intro p e R s m args below meth c Q C hQ
  refine j_aload_n C dX5_cut_0 rfl ?_
  refine j_iload_n C dX5_cut_1 rfl ?_
  refine j_callVr C 6 (v := .int (nI 1)) (w := (mW E x0 x1 x2 x3 x4 x5 mo ou (nI 1) re ak gv kn ro LL ff)) (m_isNone_b l E A hbx) ok_X5_isNone w_985 (by decide) rfl rfl (Nat.le_of_ble_eq_true rfl) rfl rfl ⟨Nat.le_of_ble_eq_true rfl, Nat.le_of_ble_eq_true rfl⟩ dX5_cut_2 ?_
  refine j_ifn_eq_f (tgt := 10) C dX5_cut_5 (by decide) (by omega) (by omega) ?_
  refine j_iconst (v := (nI 0)) C dX5_cut_8 rfl ?_
  exact j_iret C hQ rfl dX5_cut_9 ⟨Nat.le_of_ble_eq_true rfl, Nat.le_of_ble_eq_true rfl⟩ ⟨rfl, rfl⟩
set_option maxHeartbeats 4000000 in
set_option maxRecDepth 100000 in
theorem g_take_b (l : Launch) (E : jE) (A : Nat → Prop) {x0 x1 x2 x3 x4 x5 : Nat × va_E} {mo ou : Nat} {th re ak gv kn : Int32} {ro : Nat → Option Nat} {LL : List Nat} {ff : Nat → va_E} {x y w : Int32} (hbx : x < 0 ∨ nI 9 ≤ x)  : jMet l yX5_take cX5_take 4 (some .int) 5 0 0 E A [.ref mo, .int x, .int y, .int w] (mW E x0 x1 x2 x3 x4 x5 mo ou th re ak gv kn ro LL ff) (jR (some (.int (nI 0))) (mW E x0 x1 x2 x3 x4 x5 mo ou (nI 1) re ak gv kn ro LL ff)) jNo := by
  refine jMet.intro' [(0, .ref mo), (1, .int x), (2, .int y), (3, .int w)] (by decide) (Nat.le_of_ble_eq_true rfl) rfl ?_
  intro p e R s m args below meth c Q C hQ
  refine j_aload_n C dX5_take_0 rfl ?_
  refine j_iload_n C dX5_take_1 rfl ?_
  refine j_callVr C 6 (v := .int (nI 1)) (w := (mW E x0 x1 x2 x3 x4 x5 mo ou (nI 1) re ak gv kn ro LL ff)) (m_isNone_b l E A hbx) ok_X5_isNone w_985 (by decide) rfl rfl (Nat.le_of_ble_eq_true rfl) rfl rfl ⟨Nat.le_of_ble_eq_true rfl, Nat.le_of_ble_eq_true rfl⟩ dX5_take_2 ?_
  refine j_ifn_eq_f (tgt := 10) C dX5_take_5 (by decide) (by omega) (by omega) ?_
  refine j_iconst (v := (nI 0)) C dX5_take_8 rfl ?_
  exact j_iret C hQ rfl dX5_take_9 ⟨Nat.le_of_ble_eq_true rfl, Nat.le_of_ble_eq_true rfl⟩ ⟨rfl, rfl⟩
set_option maxHeartbeats 4000000 in
set_option maxRecDepth 100000 in
theorem g_put_b (l : Launch) (E : jE) (A : Nat → Prop) {x0 x1 x2 x3 x4 x5 : Nat × va_E} {mo ou : Nat} {th re ak gv kn : Int32} {ro : Nat → Option Nat} {LL : List Nat} {ff : Nat → va_E} {x y w : Int32} (hbx : x < 0 ∨ nI 9 ≤ x)  : jMet l yX5_put cX5_put 5 (some .int) 5 0 0 E A [.ref mo, .int x, .int y, .int w] (mW E x0 x1 x2 x3 x4 x5 mo ou th re ak gv kn ro LL ff) (jR (some (.int (nI 0))) (mW E x0 x1 x2 x3 x4 x5 mo ou (nI 1) re ak gv kn ro LL ff)) jNo := by
  refine jMet.intro' [(0, .ref mo), (1, .int x), (2, .int y), (3, .int w)] (by decide) (Nat.le_of_ble_eq_true rfl) rfl ?_
  intro p e R s m args below meth c Q C hQ
  refine j_aload_n C dX5_put_0 rfl ?_
  refine j_iload_n C dX5_put_1 rfl ?_
  refine j_callSr C (v := .int (nI 1)) (w := (mW E x0 x1 x2 x3 x4 x5 mo ou th re ak gv kn ro LL ff)) (m_isNo_1 l E A hbx) ok_X5_isNo w_959 (by decide) rfl rfl (Nat.le_of_ble_eq_true rfl) ⟨Nat.le_of_ble_eq_true rfl, Nat.le_of_ble_eq_true rfl⟩ dX5_put_2 ?_
  refine j_iconst (v := (nI 1)) C dX5_put_5 rfl ?_
  refine j_callVr C 6 (v := .int (nI 1)) (w := (mW E x0 x1 x2 x3 x4 x5 mo ou (nI 1) re ak gv kn ro LL ff)) (m_start_1 l E A (by decide) (by decide)) ok_X5_start w_962 (by decide) rfl rfl (Nat.le_of_ble_eq_true rfl) rfl rfl ⟨Nat.le_of_ble_eq_true rfl, Nat.le_of_ble_eq_true rfl⟩ dX5_put_6 ?_
  refine j_ifn_ne_t (tgt := 54) C dX5_put_9 (by decide) (by omega) (by omega) ?_
  refine j_iconst (v := (nI 0)) C dX5_put_54 rfl ?_
  exact j_iret C hQ rfl dX5_put_55 ⟨Nat.le_of_ble_eq_true rfl, Nat.le_of_ble_eq_true rfl⟩ ⟨rfl, rfl⟩
set_option maxHeartbeats 4000000 in
set_option maxRecDepth 100000 in
theorem g_fill_b (l : Launch) (E : jE) (A : Nat → Prop) {x0 x1 x2 x3 x4 x5 : Nat × va_E} {mo ou : Nat} {th re ak gv kn : Int32} {ro : Nat → Option Nat} {LL : List Nat} {ff : Nat → va_E} {x y w : Int32} (hbx : x < 0 ∨ nI 9 ≤ x)  : jMet l yX5_fill cX5_fill 6 (some .int) 5 0 0 E A [.ref mo, .int x, .int y, .int w] (mW E x0 x1 x2 x3 x4 x5 mo ou th re ak gv kn ro LL ff) (jR (some (.int (nI 0))) (mW E x0 x1 x2 x3 x4 x5 mo ou (nI 1) re ak gv kn ro LL ff)) jNo := by
  refine jMet.intro' [(0, .ref mo), (1, .int x), (2, .int y), (3, .int w)] (by decide) (Nat.le_of_ble_eq_true rfl) rfl ?_
  intro p e R s m args below meth c Q C hQ
  refine j_aload_n C dX5_fill_0 rfl ?_
  refine j_iload_n C dX5_fill_1 rfl ?_
  refine j_callSr C (v := .int (nI 1)) (w := (mW E x0 x1 x2 x3 x4 x5 mo ou th re ak gv kn ro LL ff)) (m_isNo_1 l E A hbx) ok_X5_isNo w_959 (by decide) rfl rfl (Nat.le_of_ble_eq_true rfl) ⟨Nat.le_of_ble_eq_true rfl, Nat.le_of_ble_eq_true rfl⟩ dX5_fill_2 ?_
  refine j_iconst (v := (nI 1)) C dX5_fill_5 rfl ?_
  refine j_callVr C 6 (v := .int (nI 1)) (w := (mW E x0 x1 x2 x3 x4 x5 mo ou (nI 1) re ak gv kn ro LL ff)) (m_start_1 l E A (by decide) (by decide)) ok_X5_start w_962 (by decide) rfl rfl (Nat.le_of_ble_eq_true rfl) rfl rfl ⟨Nat.le_of_ble_eq_true rfl, Nat.le_of_ble_eq_true rfl⟩ dX5_fill_6 ?_
  refine j_ifn_ne_t (tgt := 42) C dX5_fill_9 (by decide) (by omega) (by omega) ?_
  refine j_iconst (v := (nI 0)) C dX5_fill_42 rfl ?_
  exact j_iret C hQ rfl dX5_fill_43 ⟨Nat.le_of_ble_eq_true rfl, Nat.le_of_ble_eq_true rfl⟩ ⟨rfl, rfl⟩
set_option maxHeartbeats 4000000 in
set_option maxRecDepth 100000 in
theorem g_ahead_b (l : Launch) (E : jE) (A : Nat → Prop) {x0 x1 x2 x3 x4 x5 : Nat × va_E} {mo ou : Nat} {th re ak gv kn : Int32} {ro : Nat → Option Nat} {LL : List Nat} {ff : Nat → va_E} {x w : Int32} (hbx : x < 0 ∨ nI 9 ≤ x)  : jMet l yX5_ahead cX5_ahead 5 (some .int) 5 0 0 E A [.ref mo, .int x, .int w] (mW E x0 x1 x2 x3 x4 x5 mo ou th re ak gv kn ro LL ff) (jR (some (.int (nI 0))) (mW E x0 x1 x2 x3 x4 x5 mo ou (nI 1) re ak gv kn ro LL ff)) jNo := by
  refine jMet.intro' [(0, .ref mo), (1, .int x), (2, .int w)] (by decide) (Nat.le_of_ble_eq_true rfl) rfl ?_
  intro p e R s m args below meth c Q C hQ
  refine j_aload_n C dX5_ahead_0 rfl ?_
  refine j_iload_n C dX5_ahead_1 rfl ?_
  refine j_callSr C (v := .int (nI 1)) (w := (mW E x0 x1 x2 x3 x4 x5 mo ou th re ak gv kn ro LL ff)) (m_isNo_1 l E A hbx) ok_X5_isNo w_959 (by decide) rfl rfl (Nat.le_of_ble_eq_true rfl) ⟨Nat.le_of_ble_eq_true rfl, Nat.le_of_ble_eq_true rfl⟩ dX5_ahead_2 ?_
  refine j_iconst (v := (nI 1)) C dX5_ahead_5 rfl ?_
  refine j_callVr C 6 (v := .int (nI 1)) (w := (mW E x0 x1 x2 x3 x4 x5 mo ou (nI 1) re ak gv kn ro LL ff)) (m_start_1 l E A (by decide) (by decide)) ok_X5_start w_962 (by decide) rfl rfl (Nat.le_of_ble_eq_true rfl) rfl rfl ⟨Nat.le_of_ble_eq_true rfl, Nat.le_of_ble_eq_true rfl⟩ dX5_ahead_6 ?_
  refine j_ifn_ne_t (tgt := 34) C dX5_ahead_9 (by decide) (by omega) (by omega) ?_
  refine j_iconst (v := (nI 0)) C dX5_ahead_34 rfl ?_
  exact j_iret C hQ rfl dX5_ahead_35 ⟨Nat.le_of_ble_eq_true rfl, Nat.le_of_ble_eq_true rfl⟩ ⟨rfl, rfl⟩
set_option maxHeartbeats 4000000 in
set_option maxRecDepth 100000 in
theorem g_copy_b1 (l : Launch) (E : jE) (A : Nat → Prop) {x0 x1 x2 x3 x4 x5 : Nat × va_E} {mo ou : Nat} {th re ak gv kn : Int32} {ro : Nat → Option Nat} {LL : List Nat} {ff : Nat → va_E} {x y : Int32} (hbx : x < 0 ∨ nI 9 ≤ x)  : jMet l yX5_copy cX5_copy 3 (some .int) 5 0 0 E A [.ref mo, .int x, .int y] (mW E x0 x1 x2 x3 x4 x5 mo ou th re ak gv kn ro LL ff) (jR (some (.int (nI 0))) (mW E x0 x1 x2 x3 x4 x5 mo ou (nI 1) re ak gv kn ro LL ff)) jNo := by
  refine jMet.intro' [(0, .ref mo), (1, .int x), (2, .int y)] (by decide) (Nat.le_of_ble_eq_true rfl) rfl ?_
  intro p e R s m args below meth c Q C hQ
  refine j_aload_n C dX5_copy_0 rfl ?_
  refine j_iload_n C dX5_copy_1 rfl ?_
  refine j_iload_n C dX5_copy_2 rfl ?_
  refine j_callVr C 6 (v := .int (nI 1)) (w := (mW E x0 x1 x2 x3 x4 x5 mo ou (nI 1) re ak gv kn ro LL ff)) (m_areNo_1 l E A hbx) ok_X5_areNo w_1014 (by decide) rfl rfl (Nat.le_of_ble_eq_true rfl) rfl rfl ⟨Nat.le_of_ble_eq_true rfl, Nat.le_of_ble_eq_true rfl⟩ dX5_copy_3 ?_
  refine j_ifn_eq_f (tgt := 11) C dX5_copy_6 (by decide) (by omega) (by omega) ?_
  refine j_iconst (v := (nI 0)) C dX5_copy_9 rfl ?_
  exact j_iret C hQ rfl dX5_copy_10 ⟨Nat.le_of_ble_eq_true rfl, Nat.le_of_ble_eq_true rfl⟩ ⟨rfl, rfl⟩
set_option maxHeartbeats 4000000 in
set_option maxRecDepth 100000 in
theorem g_copy_b2 (l : Launch) (E : jE) (A : Nat → Prop) {x0 x1 x2 x3 x4 x5 : Nat × va_E} {mo ou : Nat} {th re ak gv kn : Int32} {ro : Nat → Option Nat} {LL : List Nat} {ff : Nat → va_E} {i : Nat} (hi : i < 9) {y : Int32} (hby : y < 0 ∨ nI 9 ≤ y)  : jMet l yX5_copy cX5_copy 3 (some .int) 5 0 0 E A [.ref mo, .int (nI i), .int y] (mW E x0 x1 x2 x3 x4 x5 mo ou th re ak gv kn ro LL ff) (jR (some (.int (nI 0))) (mW E x0 x1 x2 x3 x4 x5 mo ou (nI 1) re ak gv kn ro LL ff)) jNo := by
  refine jMet.intro' [(0, .ref mo), (1, .int (nI i)), (2, .int y)] (by decide) (Nat.le_of_ble_eq_true rfl) rfl ?_
  intro p e R s m args below meth c Q C hQ
  refine j_aload_n C dX5_copy_0 rfl ?_
  refine j_iload_n C dX5_copy_1 rfl ?_
  refine j_iload_n C dX5_copy_2 rfl ?_
  refine j_callVr C 6 (v := .int (nI 1)) (w := (mW E x0 x1 x2 x3 x4 x5 mo ou (nI 1) re ak gv kn ro LL ff)) (m_areNo_2 l E A (by omega) hby) ok_X5_areNo w_1014 (by decide) rfl rfl (Nat.le_of_ble_eq_true rfl) rfl rfl ⟨Nat.le_of_ble_eq_true rfl, Nat.le_of_ble_eq_true rfl⟩ dX5_copy_3 ?_
  refine j_ifn_eq_f (tgt := 11) C dX5_copy_6 (by decide) (by omega) (by omega) ?_
  refine j_iconst (v := (nI 0)) C dX5_copy_9 rfl ?_
  exact j_iret C hQ rfl dX5_copy_10 ⟨Nat.le_of_ble_eq_true rfl, Nat.le_of_ble_eq_true rfl⟩ ⟨rfl, rfl⟩
set_option maxHeartbeats 4000000 in
set_option maxRecDepth 100000 in
theorem g_compare_b1 (l : Launch) (E : jE) (A : Nat → Prop) {x0 x1 x2 x3 x4 x5 : Nat × va_E} {mo ou : Nat} {th re ak gv kn : Int32} {ro : Nat → Option Nat} {LL : List Nat} {ff : Nat → va_E} {x y : Int32} (hbx : x < 0 ∨ nI 9 ≤ x)  : jMet l yX5_compare cX5_compare 3 (some .int) 5 0 0 E A [.ref mo, .int x, .int y] (mW E x0 x1 x2 x3 x4 x5 mo ou th re ak gv kn ro LL ff) (jR (some (.int (nI 0))) (mW E x0 x1 x2 x3 x4 x5 mo ou (nI 1) re ak gv kn ro LL ff)) jNo := by
  refine jMet.intro' [(0, .ref mo), (1, .int x), (2, .int y)] (by decide) (Nat.le_of_ble_eq_true rfl) rfl ?_
  intro p e R s m args below meth c Q C hQ
  refine j_aload_n C dX5_compare_0 rfl ?_
  refine j_iload_n C dX5_compare_1 rfl ?_
  refine j_iload_n C dX5_compare_2 rfl ?_
  refine j_callVr C 6 (v := .int (nI 1)) (w := (mW E x0 x1 x2 x3 x4 x5 mo ou (nI 1) re ak gv kn ro LL ff)) (m_areNo_1 l E A hbx) ok_X5_areNo w_1014 (by decide) rfl rfl (Nat.le_of_ble_eq_true rfl) rfl rfl ⟨Nat.le_of_ble_eq_true rfl, Nat.le_of_ble_eq_true rfl⟩ dX5_compare_3 ?_
  refine j_ifn_eq_f (tgt := 11) C dX5_compare_6 (by decide) (by omega) (by omega) ?_
  refine j_iconst (v := (nI 0)) C dX5_compare_9 rfl ?_
  exact j_iret C hQ rfl dX5_compare_10 ⟨Nat.le_of_ble_eq_true rfl, Nat.le_of_ble_eq_true rfl⟩ ⟨rfl, rfl⟩
set_option maxHeartbeats 4000000 in
set_option maxRecDepth 100000 in
theorem g_compare_b2 (l : Launch) (E : jE) (A : Nat → Prop) {x0 x1 x2 x3 x4 x5 : Nat × va_E} {mo ou : Nat} {th re ak gv kn : Int32} {ro : Nat → Option Nat} {LL : List Nat} {ff : Nat → va_E} {i : Nat} (hi : i < 9) {y : Int32} (hby : y < 0 ∨ nI 9 ≤ y)  : jMet l yX5_compare cX5_compare 3 (some .int) 5 0 0 E A [.ref mo, .int (nI i), .int y] (mW E x0 x1 x2 x3 x4 x5 mo ou th re ak gv kn ro LL ff) (jR (some (.int (nI 0))) (mW E x0 x1 x2 x3 x4 x5 mo ou (nI 1) re ak gv kn ro LL ff)) jNo := by
  refine jMet.intro' [(0, .ref mo), (1, .int (nI i)), (2, .int y)] (by decide) (Nat.le_of_ble_eq_true rfl) rfl ?_
  intro p e R s m args below meth c Q C hQ
  refine j_aload_n C dX5_compare_0 rfl ?_
  refine j_iload_n C dX5_compare_1 rfl ?_
  refine j_iload_n C dX5_compare_2 rfl ?_
  refine j_callVr C 6 (v := .int (nI 1)) (w := (mW E x0 x1 x2 x3 x4 x5 mo ou (nI 1) re ak gv kn ro LL ff)) (m_areNo_2 l E A (by omega) hby) ok_X5_areNo w_1014 (by decide) rfl rfl (Nat.le_of_ble_eq_true rfl) rfl rfl ⟨Nat.le_of_ble_eq_true rfl, Nat.le_of_ble_eq_true rfl⟩ dX5_compare_3 ?_
  refine j_ifn_eq_f (tgt := 11) C dX5_compare_6 (by decide) (by omega) (by omega) ?_
  refine j_iconst (v := (nI 0)) C dX5_compare_9 rfl ?_
  exact j_iret C hQ rfl dX5_compare_10 ⟨Nat.le_of_ble_eq_true rfl, Nat.le_of_ble_eq_true rfl⟩ ⟨rfl, rfl⟩
set_option maxHeartbeats 4000000 in
set_option maxRecDepth 100000 in
theorem g_areSame_b1 (l : Launch) (E : jE) (A : Nat → Prop) {x0 x1 x2 x3 x4 x5 : Nat × va_E} {mo ou : Nat} {th re ak gv kn : Int32} {ro : Nat → Option Nat} {LL : List Nat} {ff : Nat → va_E} {x y : Int32} (hbx : x < 0 ∨ nI 9 ≤ x)  : jMet l yX5_areSame cX5_areSame 3 (some .boolean) 5 0 0 E A [.ref mo, .int x, .int y] (mW E x0 x1 x2 x3 x4 x5 mo ou th re ak gv kn ro LL ff) (jR (some (.int (nI 0))) (mW E x0 x1 x2 x3 x4 x5 mo ou (nI 1) re ak gv kn ro LL ff)) jNo := by
  refine jMet.intro' [(0, .ref mo), (1, .int x), (2, .int y)] (by decide) (Nat.le_of_ble_eq_true rfl) rfl ?_
  intro p e R s m args below meth c Q C hQ
  refine j_aload_n C dX5_areSame_0 rfl ?_
  refine j_iload_n C dX5_areSame_1 rfl ?_
  refine j_iload_n C dX5_areSame_2 rfl ?_
  refine j_callVr C 6 (v := .int (nI 1)) (w := (mW E x0 x1 x2 x3 x4 x5 mo ou (nI 1) re ak gv kn ro LL ff)) (m_areNo_1 l E A hbx) ok_X5_areNo w_1014 (by decide) rfl rfl (Nat.le_of_ble_eq_true rfl) rfl rfl ⟨Nat.le_of_ble_eq_true rfl, Nat.le_of_ble_eq_true rfl⟩ dX5_areSame_3 ?_
  refine j_ifn_ne_t (tgt := 22) C dX5_areSame_6 (by decide) (by omega) (by omega) ?_
  refine j_iconst (v := (nI 0)) C dX5_areSame_22 rfl ?_
  exact j_zret C hQ rfl rfl dX5_areSame_23 ⟨Nat.le_of_ble_eq_true rfl, Nat.le_of_ble_eq_true rfl⟩ ⟨rfl, rfl⟩
set_option maxHeartbeats 4000000 in
set_option maxRecDepth 100000 in
theorem g_areSame_b2 (l : Launch) (E : jE) (A : Nat → Prop) {x0 x1 x2 x3 x4 x5 : Nat × va_E} {mo ou : Nat} {th re ak gv kn : Int32} {ro : Nat → Option Nat} {LL : List Nat} {ff : Nat → va_E} {i : Nat} (hi : i < 9) {y : Int32} (hby : y < 0 ∨ nI 9 ≤ y)  : jMet l yX5_areSame cX5_areSame 3 (some .boolean) 5 0 0 E A [.ref mo, .int (nI i), .int y] (mW E x0 x1 x2 x3 x4 x5 mo ou th re ak gv kn ro LL ff) (jR (some (.int (nI 0))) (mW E x0 x1 x2 x3 x4 x5 mo ou (nI 1) re ak gv kn ro LL ff)) jNo := by
  refine jMet.intro' [(0, .ref mo), (1, .int (nI i)), (2, .int y)] (by decide) (Nat.le_of_ble_eq_true rfl) rfl ?_
  intro p e R s m args below meth c Q C hQ
  refine j_aload_n C dX5_areSame_0 rfl ?_
  refine j_iload_n C dX5_areSame_1 rfl ?_
  refine j_iload_n C dX5_areSame_2 rfl ?_
  refine j_callVr C 6 (v := .int (nI 1)) (w := (mW E x0 x1 x2 x3 x4 x5 mo ou (nI 1) re ak gv kn ro LL ff)) (m_areNo_2 l E A (by omega) hby) ok_X5_areNo w_1014 (by decide) rfl rfl (Nat.le_of_ble_eq_true rfl) rfl rfl ⟨Nat.le_of_ble_eq_true rfl, Nat.le_of_ble_eq_true rfl⟩ dX5_areSame_3 ?_
  refine j_ifn_ne_t (tgt := 22) C dX5_areSame_6 (by decide) (by omega) (by omega) ?_
  refine j_iconst (v := (nI 0)) C dX5_areSame_22 rfl ?_
  exact j_zret C hQ rfl rfl dX5_areSame_23 ⟨Nat.le_of_ble_eq_true rfl, Nat.le_of_ble_eq_true rfl⟩ ⟨rfl, rfl⟩
set_option maxHeartbeats 4000000 in
set_option maxRecDepth 100000 in
theorem g_compareParts_b1 (l : Launch) (E : jE) (A : Nat → Prop) {x0 x1 x2 x3 x4 x5 : Nat × va_E} {mo ou : Nat} {th re ak gv kn : Int32} {ro : Nat → Option Nat} {LL : List Nat} {ff : Nat → va_E} {x y u w : Int32} (hbx : x < 0 ∨ nI 9 ≤ x)  : jMet l yX5_compareParts cX5_compareParts 5 (some .int) 5 0 0 E A [.ref mo, .int x, .int y, .int u, .int w] (mW E x0 x1 x2 x3 x4 x5 mo ou th re ak gv kn ro LL ff) (jR (some (.int (nI 0))) (mW E x0 x1 x2 x3 x4 x5 mo ou (nI 1) re ak gv kn ro LL ff)) jNo := by
  refine jMet.intro' [(0, .ref mo), (1, .int x), (2, .int y), (3, .int u), (4, .int w)] (by decide) (Nat.le_of_ble_eq_true rfl) rfl ?_
  intro p e R s m args below meth c Q C hQ
  refine j_aload_n C dX5_compareParts_0 rfl ?_
  refine j_iload_n C dX5_compareParts_1 rfl ?_
  refine j_iload_n C dX5_compareParts_2 rfl ?_
  refine j_callVr C 6 (v := .int (nI 1)) (w := (mW E x0 x1 x2 x3 x4 x5 mo ou (nI 1) re ak gv kn ro LL ff)) (m_areNo_1 l E A hbx) ok_X5_areNo w_1014 (by decide) rfl rfl (Nat.le_of_ble_eq_true rfl) rfl rfl ⟨Nat.le_of_ble_eq_true rfl, Nat.le_of_ble_eq_true rfl⟩ dX5_compareParts_3 ?_
  refine j_ifn_eq_f (tgt := 11) C dX5_compareParts_6 (by decide) (by omega) (by omega) ?_
  refine j_iconst (v := (nI 0)) C dX5_compareParts_9 rfl ?_
  exact j_iret C hQ rfl dX5_compareParts_10 ⟨Nat.le_of_ble_eq_true rfl, Nat.le_of_ble_eq_true rfl⟩ ⟨rfl, rfl⟩
set_option maxHeartbeats 4000000 in
set_option maxRecDepth 100000 in
theorem g_compareParts_b2 (l : Launch) (E : jE) (A : Nat → Prop) {x0 x1 x2 x3 x4 x5 : Nat × va_E} {mo ou : Nat} {th re ak gv kn : Int32} {ro : Nat → Option Nat} {LL : List Nat} {ff : Nat → va_E} {i : Nat} (hi : i < 9) {y u w : Int32} (hby : y < 0 ∨ nI 9 ≤ y)  : jMet l yX5_compareParts cX5_compareParts 5 (some .int) 5 0 0 E A [.ref mo, .int (nI i), .int y, .int u, .int w] (mW E x0 x1 x2 x3 x4 x5 mo ou th re ak gv kn ro LL ff) (jR (some (.int (nI 0))) (mW E x0 x1 x2 x3 x4 x5 mo ou (nI 1) re ak gv kn ro LL ff)) jNo := by
  refine jMet.intro' [(0, .ref mo), (1, .int (nI i)), (2, .int y), (3, .int u), (4, .int w)] (by decide) (Nat.le_of_ble_eq_true rfl) rfl ?_
  intro p e R s m args below meth c Q C hQ
  refine j_aload_n C dX5_compareParts_0 rfl ?_
  refine j_iload_n C dX5_compareParts_1 rfl ?_
  refine j_iload_n C dX5_compareParts_2 rfl ?_
  refine j_callVr C 6 (v := .int (nI 1)) (w := (mW E x0 x1 x2 x3 x4 x5 mo ou (nI 1) re ak gv kn ro LL ff)) (m_areNo_2 l E A (by omega) hby) ok_X5_areNo w_1014 (by decide) rfl rfl (Nat.le_of_ble_eq_true rfl) rfl rfl ⟨Nat.le_of_ble_eq_true rfl, Nat.le_of_ble_eq_true rfl⟩ dX5_compareParts_3 ?_
  refine j_ifn_eq_f (tgt := 11) C dX5_compareParts_6 (by decide) (by omega) (by omega) ?_
  refine j_iconst (v := (nI 0)) C dX5_compareParts_9 rfl ?_
  exact j_iret C hQ rfl dX5_compareParts_10 ⟨Nat.le_of_ble_eq_true rfl, Nat.le_of_ble_eq_true rfl⟩ ⟨rfl, rfl⟩
set_option maxHeartbeats 4000000 in
set_option maxRecDepth 100000 in
theorem g_order_b1 (l : Launch) (E : jE) (A : Nat → Prop) {x0 x1 x2 x3 x4 x5 : Nat × va_E} {mo ou : Nat} {th re ak gv kn : Int32} {ro : Nat → Option Nat} {LL : List Nat} {ff : Nat → va_E} {x y w : Int32} (hbx : x < 0 ∨ nI 9 ≤ x)  : jMet l yX5_order cX5_order 4 (some .int) 5 0 0 E A [.ref mo, .int x, .int y, .int w] (mW E x0 x1 x2 x3 x4 x5 mo ou th re ak gv kn ro LL ff) (jR (some (.int (nI 0))) (mW E x0 x1 x2 x3 x4 x5 mo ou (nI 1) re ak gv kn ro LL ff)) jNo := by
  refine jMet.intro' [(0, .ref mo), (1, .int x), (2, .int y), (3, .int w)] (by decide) (Nat.le_of_ble_eq_true rfl) rfl ?_
  intro p e R s m args below meth c Q C hQ
  refine j_aload_n C dX5_order_0 rfl ?_
  refine j_iload_n C dX5_order_1 rfl ?_
  refine j_iload_n C dX5_order_2 rfl ?_
  refine j_callVr C 6 (v := .int (nI 1)) (w := (mW E x0 x1 x2 x3 x4 x5 mo ou (nI 1) re ak gv kn ro LL ff)) (m_areNo_1 l E A hbx) ok_X5_areNo w_1014 (by decide) rfl rfl (Nat.le_of_ble_eq_true rfl) rfl rfl ⟨Nat.le_of_ble_eq_true rfl, Nat.le_of_ble_eq_true rfl⟩ dX5_order_3 ?_
  refine j_ifn_ne_t (tgt := 31) C dX5_order_6 (by decide) (by omega) (by omega) ?_
  refine j_iconst (v := (nI 0)) C dX5_order_31 rfl ?_
  exact j_iret C hQ rfl dX5_order_32 ⟨Nat.le_of_ble_eq_true rfl, Nat.le_of_ble_eq_true rfl⟩ ⟨rfl, rfl⟩
set_option maxHeartbeats 4000000 in
set_option maxRecDepth 100000 in
theorem g_order_b2 (l : Launch) (E : jE) (A : Nat → Prop) {x0 x1 x2 x3 x4 x5 : Nat × va_E} {mo ou : Nat} {th re ak gv kn : Int32} {ro : Nat → Option Nat} {LL : List Nat} {ff : Nat → va_E} {i : Nat} (hi : i < 9) {y w : Int32} (hby : y < 0 ∨ nI 9 ≤ y)  : jMet l yX5_order cX5_order 4 (some .int) 5 0 0 E A [.ref mo, .int (nI i), .int y, .int w] (mW E x0 x1 x2 x3 x4 x5 mo ou th re ak gv kn ro LL ff) (jR (some (.int (nI 0))) (mW E x0 x1 x2 x3 x4 x5 mo ou (nI 1) re ak gv kn ro LL ff)) jNo := by
  refine jMet.intro' [(0, .ref mo), (1, .int (nI i)), (2, .int y), (3, .int w)] (by decide) (Nat.le_of_ble_eq_true rfl) rfl ?_
  intro p e R s m args below meth c Q C hQ
  refine j_aload_n C dX5_order_0 rfl ?_
  refine j_iload_n C dX5_order_1 rfl ?_
  refine j_iload_n C dX5_order_2 rfl ?_
  refine j_callVr C 6 (v := .int (nI 1)) (w := (mW E x0 x1 x2 x3 x4 x5 mo ou (nI 1) re ak gv kn ro LL ff)) (m_areNo_2 l E A (by omega) hby) ok_X5_areNo w_1014 (by decide) rfl rfl (Nat.le_of_ble_eq_true rfl) rfl rfl ⟨Nat.le_of_ble_eq_true rfl, Nat.le_of_ble_eq_true rfl⟩ dX5_order_3 ?_
  refine j_ifn_ne_t (tgt := 31) C dX5_order_6 (by decide) (by omega) (by omega) ?_
  refine j_iconst (v := (nI 0)) C dX5_order_31 rfl ?_
  exact j_iret C hQ rfl dX5_order_32 ⟨Nat.le_of_ble_eq_true rfl, Nat.le_of_ble_eq_true rfl⟩ ⟨rfl, rfl⟩
set_option maxHeartbeats 4000000 in
set_option maxRecDepth 100000 in
theorem g_codes_b1 (l : Launch) (E : jE) (A : Nat → Prop) {x0 x1 x2 x3 x4 x5 : Nat × va_E} {mo ou : Nat} {th re ak gv kn : Int32} {ro : Nat → Option Nat} {LL : List Nat} {ff : Nat → va_E} {x y w : Int32} (hbx : x < 0 ∨ nI 9 ≤ x)  : jMet l yX5_codes cX5_codes 4 (some .int) 5 0 0 E A [.ref mo, .int x, .int y, .int w] (mW E x0 x1 x2 x3 x4 x5 mo ou th re ak gv kn ro LL ff) (jR (some (.int (nI 0))) (mW E x0 x1 x2 x3 x4 x5 mo ou (nI 1) re ak gv kn ro LL ff)) jNo := by
  refine jMet.intro' [(0, .ref mo), (1, .int x), (2, .int y), (3, .int w)] (by decide) (Nat.le_of_ble_eq_true rfl) rfl ?_
  intro p e R s m args below meth c Q C hQ
  refine j_aload_n C dX5_codes_0 rfl ?_
  refine j_iload_n C dX5_codes_1 rfl ?_
  refine j_callSr C (v := .int (nI 1)) (w := (mW E x0 x1 x2 x3 x4 x5 mo ou th re ak gv kn ro LL ff)) (m_isNo_1 l E A hbx) ok_X5_isNo w_959 (by decide) rfl rfl (Nat.le_of_ble_eq_true rfl) ⟨Nat.le_of_ble_eq_true rfl, Nat.le_of_ble_eq_true rfl⟩ dX5_codes_2 ?_
  refine j_ifn_ne_t (tgt := 22) C dX5_codes_5 (by decide) (by omega) (by omega) ?_
  refine j_iconst (v := (nI 1)) C dX5_codes_22 rfl ?_
  refine j_goto (tgt := 27) C dX5_codes_23 (by decide) ?_
  refine j_iconst (v := (nI 1)) C dX5_codes_27 rfl ?_
  refine j_callVr C 6 (v := .int (nI 1)) (w := (mW E x0 x1 x2 x3 x4 x5 mo ou (nI 1) re ak gv kn ro LL ff)) (m_start_1 l E A (by decide) (by decide)) ok_X5_start w_962 (by decide) rfl rfl (Nat.le_of_ble_eq_true rfl) rfl rfl ⟨Nat.le_of_ble_eq_true rfl, Nat.le_of_ble_eq_true rfl⟩ dX5_codes_28 ?_
  refine j_ifn_eq_f (tgt := 38) C dX5_codes_31 (by decide) (by omega) (by omega) ?_
  refine j_iconst (v := (nI 0)) C dX5_codes_34 rfl ?_
  refine j_goto (tgt := 45) C dX5_codes_35 (by decide) ?_
  exact j_iret C hQ rfl dX5_codes_45 ⟨Nat.le_of_ble_eq_true rfl, Nat.le_of_ble_eq_true rfl⟩ ⟨rfl, rfl⟩
set_option maxHeartbeats 4000000 in
set_option maxRecDepth 100000 in
theorem g_codes_b2 (l : Launch) (E : jE) (A : Nat → Prop) {x0 x1 x2 x3 x4 x5 : Nat × va_E} {mo ou : Nat} {th re ak gv kn : Int32} {ro : Nat → Option Nat} {LL : List Nat} {ff : Nat → va_E} {i : Nat} (hi : i < 9) {y w : Int32} (hby : y < 0 ∨ nI 9 ≤ y)  : jMet l yX5_codes cX5_codes 4 (some .int) 5 0 0 E A [.ref mo, .int (nI i), .int y, .int w] (mW E x0 x1 x2 x3 x4 x5 mo ou th re ak gv kn ro LL ff) (jR (some (.int (nI 0))) (mW E x0 x1 x2 x3 x4 x5 mo ou (nI 1) re ak gv kn ro LL ff)) jNo := by
  refine jMet.intro' [(0, .ref mo), (1, .int (nI i)), (2, .int y), (3, .int w)] (by decide) (Nat.le_of_ble_eq_true rfl) rfl ?_
  intro p e R s m args below meth c Q C hQ
  refine j_aload_n C dX5_codes_0 rfl ?_
  refine j_iload_n C dX5_codes_1 rfl ?_
  refine j_callSr C (v := .int (nI 0)) (w := (mW E x0 x1 x2 x3 x4 x5 mo ou th re ak gv kn ro LL ff)) (m_isNo_0 l E A (by omega)) ok_X5_isNo w_959 (by decide) rfl rfl (Nat.le_of_ble_eq_true rfl) ⟨Nat.le_of_ble_eq_true rfl, Nat.le_of_ble_eq_true rfl⟩ dX5_codes_2 ?_
  refine j_ifn_ne_f (tgt := 22) C dX5_codes_5 (by decide) (by omega) (by omega) ?_
  refine j_iload_n C dX5_codes_8 rfl ?_
  refine j_callSr C (v := .int (nI 1)) (w := (mW E x0 x1 x2 x3 x4 x5 mo ou th re ak gv kn ro LL ff)) (m_isNo_1 l E A hby) ok_X5_isNo w_959 (by decide) rfl rfl (Nat.le_of_ble_eq_true rfl) ⟨Nat.le_of_ble_eq_true rfl, Nat.le_of_ble_eq_true rfl⟩ dX5_codes_9 ?_
  refine j_ifn_ne_t (tgt := 22) C dX5_codes_12 (by decide) (by omega) (by omega) ?_
  refine j_iconst (v := (nI 1)) C dX5_codes_22 rfl ?_
  refine j_goto (tgt := 27) C dX5_codes_23 (by decide) ?_
  refine j_iconst (v := (nI 1)) C dX5_codes_27 rfl ?_
  refine j_callVr C 6 (v := .int (nI 1)) (w := (mW E x0 x1 x2 x3 x4 x5 mo ou (nI 1) re ak gv kn ro LL ff)) (m_start_1 l E A (by decide) (by decide)) ok_X5_start w_962 (by decide) rfl rfl (Nat.le_of_ble_eq_true rfl) rfl rfl ⟨Nat.le_of_ble_eq_true rfl, Nat.le_of_ble_eq_true rfl⟩ dX5_codes_28 ?_
  refine j_ifn_eq_f (tgt := 38) C dX5_codes_31 (by decide) (by omega) (by omega) ?_
  refine j_iconst (v := (nI 0)) C dX5_codes_34 rfl ?_
  refine j_goto (tgt := 45) C dX5_codes_35 (by decide) ?_
  exact j_iret C hQ rfl dX5_codes_45 ⟨Nat.le_of_ble_eq_true rfl, Nat.le_of_ble_eq_true rfl⟩ ⟨rfl, rfl⟩
set_option maxHeartbeats 4000000 in
set_option maxRecDepth 100000 in
theorem g_codes_b3 (l : Launch) (E : jE) (A : Nat → Prop) {x0 x1 x2 x3 x4 x5 : Nat × va_E} {mo ou : Nat} {th re ak gv kn : Int32} {ro : Nat → Option Nat} {LL : List Nat} {ff : Nat → va_E} {i : Nat} (hi : i < 9) {j : Nat} {w : Int32} (hj : j < 9) (hbw : w < 0 ∨ nI 9 ≤ w)  : jMet l yX5_codes cX5_codes 4 (some .int) 5 0 0 E A [.ref mo, .int (nI i), .int (nI j), .int w] (mW E x0 x1 x2 x3 x4 x5 mo ou th re ak gv kn ro LL ff) (jR (some (.int (nI 0))) (mW E x0 x1 x2 x3 x4 x5 mo ou (nI 1) re ak gv kn ro LL ff)) jNo := by
  refine jMet.intro' [(0, .ref mo), (1, .int (nI i)), (2, .int (nI j)), (3, .int w)] (by decide) (Nat.le_of_ble_eq_true rfl) rfl ?_
  intro p e R s m args below meth c Q C hQ
  refine j_aload_n C dX5_codes_0 rfl ?_
  refine j_iload_n C dX5_codes_1 rfl ?_
  refine j_callSr C (v := .int (nI 0)) (w := (mW E x0 x1 x2 x3 x4 x5 mo ou th re ak gv kn ro LL ff)) (m_isNo_0 l E A (by omega)) ok_X5_isNo w_959 (by decide) rfl rfl (Nat.le_of_ble_eq_true rfl) ⟨Nat.le_of_ble_eq_true rfl, Nat.le_of_ble_eq_true rfl⟩ dX5_codes_2 ?_
  refine j_ifn_ne_f (tgt := 22) C dX5_codes_5 (by decide) (by omega) (by omega) ?_
  refine j_iload_n C dX5_codes_8 rfl ?_
  refine j_callSr C (v := .int (nI 0)) (w := (mW E x0 x1 x2 x3 x4 x5 mo ou th re ak gv kn ro LL ff)) (m_isNo_0 l E A (by omega)) ok_X5_isNo w_959 (by decide) rfl rfl (Nat.le_of_ble_eq_true rfl) ⟨Nat.le_of_ble_eq_true rfl, Nat.le_of_ble_eq_true rfl⟩ dX5_codes_9 ?_
  refine j_ifn_ne_f (tgt := 22) C dX5_codes_12 (by decide) (by omega) (by omega) ?_
  refine j_iload_n C dX5_codes_15 rfl ?_
  refine j_callSr C (v := .int (nI 1)) (w := (mW E x0 x1 x2 x3 x4 x5 mo ou th re ak gv kn ro LL ff)) (m_isNo_1 l E A hbw) ok_X5_isNo w_959 (by decide) rfl rfl (Nat.le_of_ble_eq_true rfl) ⟨Nat.le_of_ble_eq_true rfl, Nat.le_of_ble_eq_true rfl⟩ dX5_codes_16 ?_
  refine j_ifn_eq_f (tgt := 26) C dX5_codes_19 (by decide) (by omega) (by omega) ?_
  refine j_iconst (v := (nI 1)) C dX5_codes_22 rfl ?_
  refine j_goto (tgt := 27) C dX5_codes_23 (by decide) ?_
  refine j_iconst (v := (nI 1)) C dX5_codes_27 rfl ?_
  refine j_callVr C 6 (v := .int (nI 1)) (w := (mW E x0 x1 x2 x3 x4 x5 mo ou (nI 1) re ak gv kn ro LL ff)) (m_start_1 l E A (by decide) (by decide)) ok_X5_start w_962 (by decide) rfl rfl (Nat.le_of_ble_eq_true rfl) rfl rfl ⟨Nat.le_of_ble_eq_true rfl, Nat.le_of_ble_eq_true rfl⟩ dX5_codes_28 ?_
  refine j_ifn_eq_f (tgt := 38) C dX5_codes_31 (by decide) (by omega) (by omega) ?_
  refine j_iconst (v := (nI 0)) C dX5_codes_34 rfl ?_
  refine j_goto (tgt := 45) C dX5_codes_35 (by decide) ?_
  exact j_iret C hQ rfl dX5_codes_45 ⟨Nat.le_of_ble_eq_true rfl, Nat.le_of_ble_eq_true rfl⟩ ⟨rfl, rfl⟩
set_option maxHeartbeats 4000000 in
set_option maxRecDepth 100000 in
theorem g_length_m (l : Launch) (E : jE) (A : Nat → Prop) {x0 x1 x2 x3 x4 x5 : Nat × va_E} {mo ou : Nat} {th re ak gv kn : Int32} {ro : Nat → Option Nat} {LL : List Nat} {ff : Nat → va_E} {i : Nat} (hi : i < 9) (hri : ro i = none)  : jMet l yX5_length cX5_length 2 (some .int) 5 0 0 E A [.ref mo, .int (nI i)] (mW E x0 x1 x2 x3 x4 x5 mo ou th re ak gv kn ro LL ff) (jR (some (.int (-1))) (mW E x0 x1 x2 x3 x4 x5 mo ou (nI 0) re ak gv kn ro LL ff)) jNo := by
  refine jMet.intro' [(0, .ref mo), (1, .int (nI i))] (by decide) (Nat.le_of_ble_eq_true rfl) rfl ?_
  intro p e R s m args below meth c Q C hQ
  refine j_aload_n C dX5_length_0 rfl ?_
  refine j_iload_n C dX5_length_1 rfl ?_
  refine j_callSr C (v := .int (nI 0)) (w := (mW E x0 x1 x2 x3 x4 x5 mo ou th re ak gv kn ro LL ff)) (m_isNo_0 l E A (by omega)) ok_X5_isNo w_959 (by decide) rfl rfl (Nat.le_of_ble_eq_true rfl) ⟨Nat.le_of_ble_eq_true rfl, Nat.le_of_ble_eq_true rfl⟩ dX5_length_2 ?_
  refine j_iconst (v := (nI 1)) C dX5_length_5 rfl ?_
  refine j_callVr C 6 (v := .int (nI 0)) (w := (mW E x0 x1 x2 x3 x4 x5 mo ou (nI 0) re ak gv kn ro LL ff)) (m_start_0 l E A) ok_X5_start w_962 (by decide) rfl rfl (Nat.le_of_ble_eq_true rfl) rfl rfl ⟨Nat.le_of_ble_eq_true rfl, Nat.le_of_ble_eq_true rfl⟩ dX5_length_6 ?_
  refine j_ifn_eq_t (tgt := 16) C dX5_length_9 (by decide) (by omega) (by omega) ?_
  refine j_aload_n C dX5_length_16 rfl ?_
  refine j_iload_n C dX5_length_17 rfl ?_
  refine j_callVr C 6 (v := .int (-1)) (w := (mW E x0 x1 x2 x3 x4 x5 mo ou (nI 0) re ak gv kn ro LL ff)) (m_many_m l E A (by omega) hri) ok_X5_many w_970 (by decide) rfl rfl (Nat.le_of_ble_eq_true rfl) rfl rfl ⟨Nat.le_of_ble_eq_true rfl, Nat.le_of_ble_eq_true rfl⟩ dX5_length_18 ?_
  exact j_iret C hQ rfl dX5_length_21 ⟨Nat.le_of_ble_eq_true rfl, Nat.le_of_ble_eq_true rfl⟩ ⟨rfl, rfl⟩
set_option maxHeartbeats 4000000 in
set_option maxRecDepth 100000 in
theorem g_length_k (l : Launch) (E : jE) (A : Nat → Prop) {x0 x1 x2 x3 x4 x5 : Nat × va_E} {mo ou : Nat} {th re ak gv kn : Int32} {ro : Nat → Option Nat} {LL : List Nat} {ff : Nat → va_E} {i : Nat} (hi : i < 9) {ai n : Nat} {h : Nat → Int32} (hrai : ro i = some ai) (hmai : ai ∈ LL) (hfai : ff ai = .inl (E.2.1, n, .inl h)) (hnai : n ≤ 24)  : jMet l yX5_length cX5_length 2 (some .int) 5 0 0 E A [.ref mo, .int (nI i)] (mW E x0 x1 x2 x3 x4 x5 mo ou th re ak gv kn ro LL ff) (jR (some (.int (nI n))) (mW E x0 x1 x2 x3 x4 x5 mo ou (nI 0) re ak gv kn ro LL ff)) jNo := by
  refine jMet.intro' [(0, .ref mo), (1, .int (nI i))] (by decide) (Nat.le_of_ble_eq_true rfl) rfl ?_
  intro p e R s m args below meth c Q C hQ
  refine j_aload_n C dX5_length_0 rfl ?_
  refine j_iload_n C dX5_length_1 rfl ?_
  refine j_callSr C (v := .int (nI 0)) (w := (mW E x0 x1 x2 x3 x4 x5 mo ou th re ak gv kn ro LL ff)) (m_isNo_0 l E A (by omega)) ok_X5_isNo w_959 (by decide) rfl rfl (Nat.le_of_ble_eq_true rfl) ⟨Nat.le_of_ble_eq_true rfl, Nat.le_of_ble_eq_true rfl⟩ dX5_length_2 ?_
  refine j_iconst (v := (nI 1)) C dX5_length_5 rfl ?_
  refine j_callVr C 6 (v := .int (nI 0)) (w := (mW E x0 x1 x2 x3 x4 x5 mo ou (nI 0) re ak gv kn ro LL ff)) (m_start_0 l E A) ok_X5_start w_962 (by decide) rfl rfl (Nat.le_of_ble_eq_true rfl) rfl rfl ⟨Nat.le_of_ble_eq_true rfl, Nat.le_of_ble_eq_true rfl⟩ dX5_length_6 ?_
  refine j_ifn_eq_t (tgt := 16) C dX5_length_9 (by decide) (by omega) (by omega) ?_
  refine j_aload_n C dX5_length_16 rfl ?_
  refine j_iload_n C dX5_length_17 rfl ?_
  refine j_callVr C 6 (v := .int (nI n)) (w := (mW E x0 x1 x2 x3 x4 x5 mo ou (nI 0) re ak gv kn ro LL ff)) (m_many_k l E A (by omega) hrai hmai hfai (by omega)) ok_X5_many w_970 (by decide) rfl rfl (Nat.le_of_ble_eq_true rfl) rfl rfl ⟨Nat.le_of_ble_eq_true rfl, Nat.le_of_ble_eq_true rfl⟩ dX5_length_18 ?_
  exact j_iret C hQ rfl dX5_length_21 ⟨Nat.le_of_ble_eq_true rfl, Nat.le_of_ble_eq_true rfl⟩ ⟨rfl, rfl⟩
set_option maxHeartbeats 4000000 in
set_option maxRecDepth 100000 in
theorem g_signAt_o (l : Launch) (E : jE) (A : Nat → Prop) {x0 x1 x2 x3 x4 x5 : Nat × va_E} {mo ou : Nat} {th re ak gv kn : Int32} {ro : Nat → Option Nat} {LL : List Nat} {ff : Nat → va_E} {i : Nat} (hi : i < 9) {ai n : Nat} {h : Nat → Int32} (hrai : ro i = some ai) (hmai : ai ∈ LL) (hfai : ff ai = .inl (E.2.1, n, .inl h)) (hnai : n ≤ 24) {y : Int32} (hout : ¬ (¬ y < nI 0 ∧ ¬ nI n - nI 1 < y)) : jMet l yX5_signAt cX5_signAt 3 (some .int) 5 0 0 E A [.ref mo, .int (nI i), .int y] (mW E x0 x1 x2 x3 x4 x5 mo ou th re ak gv kn ro LL ff) (jR (some (.int (-9))) (mW E x0 x1 x2 x3 x4 x5 mo ou (nI 0) (re + nI 1) ak gv kn ro LL ff)) jNo := by
  refine jMet.intro' [(0, .ref mo), (1, .int (nI i)), (2, .int y)] (by decide) (Nat.le_of_ble_eq_true rfl) rfl ?_
  intro p e R s m args below meth c Q C hQ
  refine j_aload_n C dX5_signAt_0 rfl ?_
  refine j_iload_n C dX5_signAt_1 rfl ?_
  refine j_callSr C (v := .int (nI 0)) (w := (mW E x0 x1 x2 x3 x4 x5 mo ou th re ak gv kn ro LL ff)) (m_isNo_0 l E A (by omega)) ok_X5_isNo w_959 (by decide) rfl rfl (Nat.le_of_ble_eq_true rfl) ⟨Nat.le_of_ble_eq_true rfl, Nat.le_of_ble_eq_true rfl⟩ dX5_signAt_2 ?_
  refine j_iconst (v := (nI 1)) C dX5_signAt_5 rfl ?_
  refine j_callVr C 6 (v := .int (nI 0)) (w := (mW E x0 x1 x2 x3 x4 x5 mo ou (nI 0) re ak gv kn ro LL ff)) (m_start_0 l E A) ok_X5_start w_962 (by decide) rfl rfl (Nat.le_of_ble_eq_true rfl) rfl rfl ⟨Nat.le_of_ble_eq_true rfl, Nat.le_of_ble_eq_true rfl⟩ dX5_signAt_6 ?_
  refine j_ifn_eq_t (tgt := 14) C dX5_signAt_9 (by decide) (by omega) (by omega) ?_
  refine j_aload_n C dX5_signAt_14 rfl ?_
  refine j_get C 6 rfl inj_X5 rfl 1 (by decide) w_922 rfl dX5_signAt_15 ?_
  refine j_iload_n C dX5_signAt_18 rfl ?_
  refine j_aaload (v := .ref ai) C 7 i rfl rfl (by omega) (by decide) (by rw [show ro i = some ai from hrai]; rfl) dX5_signAt_19 ?_
  refine j_ifnull_f C dX5_signAt_20 ?_
  refine j_iload_n C dX5_signAt_23 rfl ?_
  refine j_iconst (v := (nI 0)) C dX5_signAt_24 rfl ?_
  refine j_aload_n C dX5_signAt_25 rfl ?_
  refine j_iload_n C dX5_signAt_26 rfl ?_
  refine j_callVr C 6 (v := .int (nI n)) (w := (mW E x0 x1 x2 x3 x4 x5 mo ou (nI 0) re ak gv kn ro LL ff)) (m_many_k l E A (by omega) hrai hmai hfai (by omega)) ok_X5_many w_970 (by decide) rfl rfl (Nat.le_of_ble_eq_true rfl) rfl rfl ⟨Nat.le_of_ble_eq_true rfl, Nat.le_of_ble_eq_true rfl⟩ dX5_signAt_27 ?_
  refine j_iconst (v := (nI 1)) C dX5_signAt_30 rfl ?_
  refine j_isub (z := ((nI n) - (nI 1))) C dX5_signAt_31 rfl ?_
  refine j_callSr C (v := .int (bI (¬ y < (nI 0) ∧ ¬ ((nI n) - (nI 1)) < y))) (w := (mW E x0 x1 x2 x3 x4 x5 mo ou (nI 0) re ak gv kn ro LL ff)) (m_isIn l E A) ok_X5_isIn w_953 (by decide) rfl rfl (Nat.le_of_ble_eq_true rfl) ⟨Nat.le_of_ble_eq_true rfl, Nat.le_of_ble_eq_true rfl⟩ dX5_signAt_32 ?_
  refine j_ifb_ne_f (tgt := 45) C dX5_signAt_35 (by decide) hout ?_
  refine j_aload_n C dX5_signAt_38 rfl ?_
  refine j_callVr C 6 (v := .int (-9)) (w := (mW E x0 x1 x2 x3 x4 x5 mo ou (nI 0) (re + nI 1) ak gv kn ro LL ff)) (m_no l E A) ok_X5_no w_992 (by decide) rfl rfl (Nat.le_of_ble_eq_true rfl) rfl rfl ⟨Nat.le_of_ble_eq_true rfl, Nat.le_of_ble_eq_true rfl⟩ dX5_signAt_39 ?_
  refine j_goto (tgt := 53) C dX5_signAt_42 (by decide) ?_
  exact j_iret C hQ rfl dX5_signAt_53 ⟨Nat.le_of_ble_eq_true rfl, Nat.le_of_ble_eq_true rfl⟩ ⟨rfl, rfl⟩
set_option maxHeartbeats 4000000 in
set_option maxRecDepth 100000 in
theorem g_put_o (l : Launch) (E : jE) (A : Nat → Prop) {x0 x1 x2 x3 x4 x5 : Nat × va_E} {mo ou : Nat} {th re ak gv kn : Int32} {ro : Nat → Option Nat} {LL : List Nat} {ff : Nat → va_E} {i : Nat} (hi : i < 9) {ai n : Nat} {h : Nat → Int32} (hrai : ro i = some ai) (hmai : ai ∈ LL) (hfai : ff ai = .inl (E.2.1, n, .inl h)) (hnai : n ≤ 24) {y : Int32} {w : Nat} (hw : w < 10) (hout : ¬ (¬ y < nI 0 ∧ ¬ nI n - nI 1 < y)) : jMet l yX5_put cX5_put 5 (some .int) 5 0 0 E A [.ref mo, .int (nI i), .int y, .int (nI w)] (mW E x0 x1 x2 x3 x4 x5 mo ou th re ak gv kn ro LL ff) (jR (some (.int (-9))) (mW E x0 x1 x2 x3 x4 x5 mo ou (nI 0) (re + nI 1) ak gv kn ro LL ff)) jNo := by
  refine jMet.intro' [(0, .ref mo), (1, .int (nI i)), (2, .int y), (3, .int (nI w))] (by decide) (Nat.le_of_ble_eq_true rfl) rfl ?_
  intro p e R s m args below meth c Q C hQ
  refine j_aload_n C dX5_put_0 rfl ?_
  refine j_iload_n C dX5_put_1 rfl ?_
  refine j_callSr C (v := .int (nI 0)) (w := (mW E x0 x1 x2 x3 x4 x5 mo ou th re ak gv kn ro LL ff)) (m_isNo_0 l E A (by omega)) ok_X5_isNo w_959 (by decide) rfl rfl (Nat.le_of_ble_eq_true rfl) ⟨Nat.le_of_ble_eq_true rfl, Nat.le_of_ble_eq_true rfl⟩ dX5_put_2 ?_
  refine j_iconst (v := (nI 1)) C dX5_put_5 rfl ?_
  refine j_callVr C 6 (v := .int (nI 0)) (w := (mW E x0 x1 x2 x3 x4 x5 mo ou (nI 0) re ak gv kn ro LL ff)) (m_start_0 l E A) ok_X5_start w_962 (by decide) rfl rfl (Nat.le_of_ble_eq_true rfl) rfl rfl ⟨Nat.le_of_ble_eq_true rfl, Nat.le_of_ble_eq_true rfl⟩ dX5_put_6 ?_
  refine j_ifn_ne_f (tgt := 54) C dX5_put_9 (by decide) (by omega) (by omega) ?_
  refine j_aload_n C dX5_put_12 rfl ?_
  refine j_iload_n C dX5_put_13 rfl ?_
  refine j_callSr C (v := .int (nI 1)) (w := (mW E x0 x1 x2 x3 x4 x5 mo ou (nI 0) re ak gv kn ro LL ff)) (m_isSign_1 l E A ⟨_, by omega, rfl⟩) ok_X5_isSign w_948 (by decide) rfl rfl (Nat.le_of_ble_eq_true rfl) ⟨Nat.le_of_ble_eq_true rfl, Nat.le_of_ble_eq_true rfl⟩ dX5_put_14 ?_
  refine j_ifn_ne_t (tgt := 24) C dX5_put_17 (by decide) (by omega) (by omega) ?_
  refine j_iconst (v := (nI 0)) C dX5_put_24 rfl ?_
  refine j_iconst (v := (nI 2)) C dX5_put_25 rfl ?_
  refine j_callVr C 6 (v := .int (nI 0)) (w := (mW E x0 x1 x2 x3 x4 x5 mo ou (nI 0) re ak gv kn ro LL ff)) (m_refuse_0 l E A) ok_X5_refuse w_966 (by decide) rfl rfl (Nat.le_of_ble_eq_true rfl) rfl rfl ⟨Nat.le_of_ble_eq_true rfl, Nat.le_of_ble_eq_true rfl⟩ dX5_put_26 ?_
  refine j_ifn_ne_f (tgt := 54) C dX5_put_29 (by decide) (by omega) (by omega) ?_
  refine j_aload_n C dX5_put_32 rfl ?_
  refine j_aload_n C dX5_put_33 rfl ?_
  refine j_get C 6 rfl inj_X5 rfl 1 (by decide) w_922 rfl dX5_put_34 ?_
  refine j_iload_n C dX5_put_37 rfl ?_
  refine j_aaload (v := .ref ai) C 7 i rfl rfl (by omega) (by decide) (by rw [show ro i = some ai from hrai]; rfl) dX5_put_38 ?_
  refine j_ifnonnull_t (tgt := 46) C dX5_put_39 (by decide) ?_
  refine j_iconst (v := (nI 0)) C dX5_put_46 rfl ?_
  refine j_iconst (v := (nI 3)) C dX5_put_47 rfl ?_
  refine j_callVr C 6 (v := .int (nI 0)) (w := (mW E x0 x1 x2 x3 x4 x5 mo ou (nI 0) re ak gv kn ro LL ff)) (m_refuse_0 l E A) ok_X5_refuse w_966 (by decide) rfl rfl (Nat.le_of_ble_eq_true rfl) rfl rfl ⟨Nat.le_of_ble_eq_true rfl, Nat.le_of_ble_eq_true rfl⟩ dX5_put_48 ?_
  refine j_ifn_eq_t (tgt := 56) C dX5_put_51 (by decide) (by omega) (by omega) ?_
  refine j_iload_n C dX5_put_56 rfl ?_
  refine j_iconst (v := (nI 0)) C dX5_put_57 rfl ?_
  refine j_aload_n C dX5_put_58 rfl ?_
  refine j_iload_n C dX5_put_59 rfl ?_
  refine j_callVr C 6 (v := .int (nI n)) (w := (mW E x0 x1 x2 x3 x4 x5 mo ou (nI 0) re ak gv kn ro LL ff)) (m_many_k l E A (by omega) hrai hmai hfai (by omega)) ok_X5_many w_970 (by decide) rfl rfl (Nat.le_of_ble_eq_true rfl) rfl rfl ⟨Nat.le_of_ble_eq_true rfl, Nat.le_of_ble_eq_true rfl⟩ dX5_put_60 ?_
  refine j_iconst (v := (nI 1)) C dX5_put_63 rfl ?_
  refine j_isub (z := ((nI n) - (nI 1))) C dX5_put_64 rfl ?_
  refine j_callSr C (v := .int (bI (¬ y < (nI 0) ∧ ¬ ((nI n) - (nI 1)) < y))) (w := (mW E x0 x1 x2 x3 x4 x5 mo ou (nI 0) re ak gv kn ro LL ff)) (m_isIn l E A) ok_X5_isIn w_953 (by decide) rfl rfl (Nat.le_of_ble_eq_true rfl) ⟨Nat.le_of_ble_eq_true rfl, Nat.le_of_ble_eq_true rfl⟩ dX5_put_65 ?_
  refine j_ifb_ne_f (tgt := 76) C dX5_put_68 (by decide) hout ?_
  refine j_aload_n C dX5_put_71 rfl ?_
  refine j_callVr C 6 (v := .int (-9)) (w := (mW E x0 x1 x2 x3 x4 x5 mo ou (nI 0) (re + nI 1) ak gv kn ro LL ff)) (m_no l E A) ok_X5_no w_992 (by decide) rfl rfl (Nat.le_of_ble_eq_true rfl) rfl rfl ⟨Nat.le_of_ble_eq_true rfl, Nat.le_of_ble_eq_true rfl⟩ dX5_put_72 ?_
  exact j_iret C hQ rfl dX5_put_75 ⟨Nat.le_of_ble_eq_true rfl, Nat.le_of_ble_eq_true rfl⟩ ⟨rfl, rfl⟩
set_option maxHeartbeats 4000000 in
set_option maxRecDepth 100000 in
theorem g_signAt_m (l : Launch) (E : jE) (A : Nat → Prop) {x0 x1 x2 x3 x4 x5 : Nat × va_E} {mo ou : Nat} {th re ak gv kn : Int32} {ro : Nat → Option Nat} {LL : List Nat} {ff : Nat → va_E} {i : Nat} (hi : i < 9) (hri : ro i = none) {y : Int32}  : jMet l yX5_signAt cX5_signAt 3 (some .int) 5 0 0 E A [.ref mo, .int (nI i), .int y] (mW E x0 x1 x2 x3 x4 x5 mo ou th re ak gv kn ro LL ff) (jR (some (.int (-9))) (mW E x0 x1 x2 x3 x4 x5 mo ou (nI 0) (re + nI 1) ak gv kn ro LL ff)) jNo := by
  refine jMet.intro' [(0, .ref mo), (1, .int (nI i)), (2, .int y)] (by decide) (Nat.le_of_ble_eq_true rfl) rfl ?_
  intro p e R s m args below meth c Q C hQ
  refine j_aload_n C dX5_signAt_0 rfl ?_
  refine j_iload_n C dX5_signAt_1 rfl ?_
  refine j_callSr C (v := .int (nI 0)) (w := (mW E x0 x1 x2 x3 x4 x5 mo ou th re ak gv kn ro LL ff)) (m_isNo_0 l E A (by omega)) ok_X5_isNo w_959 (by decide) rfl rfl (Nat.le_of_ble_eq_true rfl) ⟨Nat.le_of_ble_eq_true rfl, Nat.le_of_ble_eq_true rfl⟩ dX5_signAt_2 ?_
  refine j_iconst (v := (nI 1)) C dX5_signAt_5 rfl ?_
  refine j_callVr C 6 (v := .int (nI 0)) (w := (mW E x0 x1 x2 x3 x4 x5 mo ou (nI 0) re ak gv kn ro LL ff)) (m_start_0 l E A) ok_X5_start w_962 (by decide) rfl rfl (Nat.le_of_ble_eq_true rfl) rfl rfl ⟨Nat.le_of_ble_eq_true rfl, Nat.le_of_ble_eq_true rfl⟩ dX5_signAt_6 ?_
  refine j_ifn_eq_t (tgt := 14) C dX5_signAt_9 (by decide) (by omega) (by omega) ?_
  refine j_aload_n C dX5_signAt_14 rfl ?_
  refine j_get C 6 rfl inj_X5 rfl 1 (by decide) w_922 rfl dX5_signAt_15 ?_
  refine j_iload_n C dX5_signAt_18 rfl ?_
  refine j_aaload (v := .null) C 7 i rfl rfl (by omega) (by decide) (by rw [show ro i = none from hri]; rfl) dX5_signAt_19 ?_
  refine j_ifnull_t (tgt := 38) C dX5_signAt_20 (by decide) ?_
  refine j_aload_n C dX5_signAt_38 rfl ?_
  refine j_callVr C 6 (v := .int (-9)) (w := (mW E x0 x1 x2 x3 x4 x5 mo ou (nI 0) (re + nI 1) ak gv kn ro LL ff)) (m_no l E A) ok_X5_no w_992 (by decide) rfl rfl (Nat.le_of_ble_eq_true rfl) rfl rfl ⟨Nat.le_of_ble_eq_true rfl, Nat.le_of_ble_eq_true rfl⟩ dX5_signAt_39 ?_
  refine j_goto (tgt := 53) C dX5_signAt_42 (by decide) ?_
  exact j_iret C hQ rfl dX5_signAt_53 ⟨Nat.le_of_ble_eq_true rfl, Nat.le_of_ble_eq_true rfl⟩ ⟨rfl, rfl⟩
set_option maxHeartbeats 4000000 in
set_option maxRecDepth 100000 in
theorem g_signAt_k (l : Launch) (E : jE) (A : Nat → Prop) {x0 x1 x2 x3 x4 x5 : Nat × va_E} {mo ou : Nat} {th re ak gv kn : Int32} {ro : Nat → Option Nat} {LL : List Nat} {ff : Nat → va_E} {i : Nat} (hi : i < 9) {ai n : Nat} {h : Nat → Int32} (hrai : ro i = some ai) (hmai : ai ∈ LL) (hfai : ff ai = .inl (E.2.1, n, .inl h)) (hnai : n ≤ 24) {y : Nat} (hy : y < n)  : jMet l yX5_signAt cX5_signAt 3 (some .int) 5 0 0 E A [.ref mo, .int (nI i), .int (nI y)] (mW E x0 x1 x2 x3 x4 x5 mo ou th re ak gv kn ro LL ff) (jR (some (.int (h y))) (mW E x0 x1 x2 x3 x4 x5 mo ou (nI 0) re ak gv kn ro LL ff)) jNo := by
  refine jMet.intro' [(0, .ref mo), (1, .int (nI i)), (2, .int (nI y))] (by decide) (Nat.le_of_ble_eq_true rfl) rfl ?_
  intro p e R s m args below meth c Q C hQ
  refine j_aload_n C dX5_signAt_0 rfl ?_
  refine j_iload_n C dX5_signAt_1 rfl ?_
  refine j_callSr C (v := .int (nI 0)) (w := (mW E x0 x1 x2 x3 x4 x5 mo ou th re ak gv kn ro LL ff)) (m_isNo_0 l E A (by omega)) ok_X5_isNo w_959 (by decide) rfl rfl (Nat.le_of_ble_eq_true rfl) ⟨Nat.le_of_ble_eq_true rfl, Nat.le_of_ble_eq_true rfl⟩ dX5_signAt_2 ?_
  refine j_iconst (v := (nI 1)) C dX5_signAt_5 rfl ?_
  refine j_callVr C 6 (v := .int (nI 0)) (w := (mW E x0 x1 x2 x3 x4 x5 mo ou (nI 0) re ak gv kn ro LL ff)) (m_start_0 l E A) ok_X5_start w_962 (by decide) rfl rfl (Nat.le_of_ble_eq_true rfl) rfl rfl ⟨Nat.le_of_ble_eq_true rfl, Nat.le_of_ble_eq_true rfl⟩ dX5_signAt_6 ?_
  refine j_ifn_eq_t (tgt := 14) C dX5_signAt_9 (by decide) (by omega) (by omega) ?_
  refine j_aload_n C dX5_signAt_14 rfl ?_
  refine j_get C 6 rfl inj_X5 rfl 1 (by decide) w_922 rfl dX5_signAt_15 ?_
  refine j_iload_n C dX5_signAt_18 rfl ?_
  refine j_aaload (v := .ref ai) C 7 i rfl rfl (by omega) (by decide) (by rw [show ro i = some ai from hrai]; rfl) dX5_signAt_19 ?_
  refine j_ifnull_f C dX5_signAt_20 ?_
  refine j_iload_n C dX5_signAt_23 rfl ?_
  refine j_iconst (v := (nI 0)) C dX5_signAt_24 rfl ?_
  refine j_aload_n C dX5_signAt_25 rfl ?_
  refine j_iload_n C dX5_signAt_26 rfl ?_
  refine j_callVr C 6 (v := .int (nI n)) (w := (mW E x0 x1 x2 x3 x4 x5 mo ou (nI 0) re ak gv kn ro LL ff)) (m_many_k l E A (by omega) hrai hmai hfai (by omega)) ok_X5_many w_970 (by decide) rfl rfl (Nat.le_of_ble_eq_true rfl) rfl rfl ⟨Nat.le_of_ble_eq_true rfl, Nat.le_of_ble_eq_true rfl⟩ dX5_signAt_27 ?_
  refine j_iconst (v := (nI 1)) C dX5_signAt_30 rfl ?_
  refine j_isub (z := (nI (n - 1))) C dX5_signAt_31 (pk_sub (by omega)) ?_
  refine j_callSr C (v := .int (bI (¬ (nI y) < (nI 0) ∧ ¬ (nI (n - 1)) < (nI y)))) (w := (mW E x0 x1 x2 x3 x4 x5 mo ou (nI 0) re ak gv kn ro LL ff)) (m_isIn l E A) ok_X5_isIn w_953 (by decide) rfl rfl (Nat.le_of_ble_eq_true rfl) ⟨Nat.le_of_ble_eq_true rfl, Nat.le_of_ble_eq_true rfl⟩ dX5_signAt_32 ?_
  refine j_ifb_ne_t (tgt := 45) C dX5_signAt_35 (by decide) (in_t (by omega) (by omega) (by omega)) ?_
  refine j_aload_n C dX5_signAt_45 rfl ?_
  refine j_get C 6 rfl inj_X5 rfl 1 (by decide) w_922 rfl dX5_signAt_46 ?_
  refine j_iload_n C dX5_signAt_49 rfl ?_
  refine j_aaload (v := .ref ai) C 7 i rfl rfl (by omega) (by decide) (by rw [show ro i = some ai from hrai]; rfl) dX5_signAt_50 ?_
  refine j_iload_n C dX5_signAt_51 rfl ?_
  refine j_ialoadP (z := (h y)) C y hmai hfai rfl (by omega) (by omega) rfl dX5_signAt_52 ?_
  exact j_iret C hQ rfl dX5_signAt_53 ⟨Nat.le_of_ble_eq_true rfl, Nat.le_of_ble_eq_true rfl⟩ ⟨rfl, rfl⟩
set_option maxHeartbeats 4000000 in
set_option maxRecDepth 100000 in
theorem g_isEmpty_m (l : Launch) (E : jE) (A : Nat → Prop) {x0 x1 x2 x3 x4 x5 : Nat × va_E} {mo ou : Nat} {th re ak gv kn : Int32} {ro : Nat → Option Nat} {LL : List Nat} {ff : Nat → va_E} {i : Nat} (hi : i < 9) (hri : ro i = none)  : jMet l yX5_isEmpty cX5_isEmpty 2 (some .boolean) 5 0 0 E A [.ref mo, .int (nI i)] (mW E x0 x1 x2 x3 x4 x5 mo ou th re ak gv kn ro LL ff) (jR (some (.int (nI 0))) (mW E x0 x1 x2 x3 x4 x5 mo ou (nI 2) re ak gv kn ro LL ff)) jNo := by
  refine jMet.intro' [(0, .ref mo), (1, .int (nI i))] (by decide) (Nat.le_of_ble_eq_true rfl) rfl ?_
  intro p e R s m args below meth c Q C hQ
  refine j_aload_n C dX5_isEmpty_0 rfl ?_
  refine j_iload_n C dX5_isEmpty_1 rfl ?_
  refine j_callVr C 6 (v := .int (nI 1)) (w := (mW E x0 x1 x2 x3 x4 x5 mo ou (nI 2) re ak gv kn ro LL ff)) (m_isNone_m l E A (by omega) hri) ok_X5_isNone w_985 (by decide) rfl rfl (Nat.le_of_ble_eq_true rfl) rfl rfl ⟨Nat.le_of_ble_eq_true rfl, Nat.le_of_ble_eq_true rfl⟩ dX5_isEmpty_2 ?_
  refine j_ifn_ne_t (tgt := 20) C dX5_isEmpty_5 (by decide) (by omega) (by omega) ?_
  refine j_iconst (v := (nI 0)) C dX5_isEmpty_20 rfl ?_
  exact j_zret C hQ rfl rfl dX5_isEmpty_21 ⟨Nat.le_of_ble_eq_true rfl, Nat.le_of_ble_eq_true rfl⟩ ⟨rfl, rfl⟩
set_option maxHeartbeats 4000000 in
set_option maxRecDepth 100000 in
theorem g_isEmpty_k (l : Launch) (E : jE) (A : Nat → Prop) {x0 x1 x2 x3 x4 x5 : Nat × va_E} {mo ou : Nat} {th re ak gv kn : Int32} {ro : Nat → Option Nat} {LL : List Nat} {ff : Nat → va_E} {i : Nat} (hi : i < 9) {ai n : Nat} {h : Nat → Int32} (hrai : ro i = some ai) (hmai : ai ∈ LL) (hfai : ff ai = .inl (E.2.1, n, .inl h)) (hnai : n ≤ 24)  : jMet l yX5_isEmpty cX5_isEmpty 2 (some .boolean) 5 0 0 E A [.ref mo, .int (nI i)] (mW E x0 x1 x2 x3 x4 x5 mo ou th re ak gv kn ro LL ff) (jR (some (.int (bI (n = 0)))) (mW E x0 x1 x2 x3 x4 x5 mo ou (nI 0) re ak gv kn ro LL ff)) jNo := by
  refine jMet.intro' [(0, .ref mo), (1, .int (nI i))] (by decide) (Nat.le_of_ble_eq_true rfl) rfl ?_
  intro p e R s m args below meth c Q C hQ
  refine j_aload_n C dX5_isEmpty_0 rfl ?_
  refine j_iload_n C dX5_isEmpty_1 rfl ?_
  refine j_callVr C 6 (v := .int (nI 0)) (w := (mW E x0 x1 x2 x3 x4 x5 mo ou (nI 0) re ak gv kn ro LL ff)) (m_isNone_k l E A (by omega) hrai hmai hfai (by omega)) ok_X5_isNone w_985 (by decide) rfl rfl (Nat.le_of_ble_eq_true rfl) rfl rfl ⟨Nat.le_of_ble_eq_true rfl, Nat.le_of_ble_eq_true rfl⟩ dX5_isEmpty_2 ?_
  refine j_ifn_ne_f (tgt := 20) C dX5_isEmpty_5 (by decide) (by omega) (by omega) ?_
  refine j_aload_n C dX5_isEmpty_8 rfl ?_
  refine j_iload_n C dX5_isEmpty_9 rfl ?_
  refine j_callVr C 6 (v := .int (nI n)) (w := (mW E x0 x1 x2 x3 x4 x5 mo ou (nI 0) re ak gv kn ro LL ff)) (m_many_k l E A (by omega) hrai hmai hfai (by omega)) ok_X5_many w_970 (by decide) rfl rfl (Nat.le_of_ble_eq_true rfl) rfl rfl ⟨Nat.le_of_ble_eq_true rfl, Nat.le_of_ble_eq_true rfl⟩ dX5_isEmpty_10 ?_
  refine j_ifn_ne (tgt := 20) C dX5_isEmpty_13 (by decide) (by omega) (fun h13 => ?_) (fun h13 => ?_)
  · skip
    refine j_iconst (v := (nI 0)) C dX5_isEmpty_20 rfl ?_
    exact j_zret C hQ rfl rfl dX5_isEmpty_21 ⟨Nat.le_of_ble_eq_true rfl, Nat.le_of_ble_eq_true rfl⟩ ⟨by rw [bI_f (by simp only [*, not_true_eq_false, not_false_eq_true, false_and, and_false, and_self])]; rfl, rfl⟩
  · skip
    refine j_iconst (v := (nI 1)) C dX5_isEmpty_16 rfl ?_
    refine j_goto (tgt := 21) C dX5_isEmpty_17 (by decide) ?_
    exact j_zret C hQ rfl rfl dX5_isEmpty_21 ⟨Nat.le_of_ble_eq_true rfl, Nat.le_of_ble_eq_true rfl⟩ ⟨by rw [bI_t (by simp only [*, not_false_eq_true, and_self])]; rfl, rfl⟩
set_option maxHeartbeats 4000000 in
set_option maxRecDepth 100000 in
theorem g_isMissing_m (l : Launch) (E : jE) (A : Nat → Prop) {x0 x1 x2 x3 x4 x5 : Nat × va_E} {mo ou : Nat} {th re ak gv kn : Int32} {ro : Nat → Option Nat} {LL : List Nat} {ff : Nat → va_E} {i : Nat} (hi : i < 9) (hri : ro i = none)  : jMet l yX5_isMissing cX5_isMissing 2 (some .boolean) 5 0 0 E A [.ref mo, .int (nI i)] (mW E x0 x1 x2 x3 x4 x5 mo ou th re ak gv kn ro LL ff) (jR (some (.int (nI 1))) (mW E x0 x1 x2 x3 x4 x5 mo ou (nI 0) re ak gv kn ro LL ff)) jNo := by
  refine jMet.intro' [(0, .ref mo), (1, .int (nI i))] (by decide) (Nat.le_of_ble_eq_true rfl) rfl ?_
  intro p e R s m args below meth c Q C hQ
  refine j_aload_n C dX5_isMissing_0 rfl ?_
  refine j_iload_n C dX5_isMissing_1 rfl ?_
  refine j_callSr C (v := .int (nI 0)) (w := (mW E x0 x1 x2 x3 x4 x5 mo ou th re ak gv kn ro LL ff)) (m_isNo_0 l E A (by omega)) ok_X5_isNo w_959 (by decide) rfl rfl (Nat.le_of_ble_eq_true rfl) ⟨Nat.le_of_ble_eq_true rfl, Nat.le_of_ble_eq_true rfl⟩ dX5_isMissing_2 ?_
  refine j_iconst (v := (nI 1)) C dX5_isMissing_5 rfl ?_
  refine j_callVr C 6 (v := .int (nI 0)) (w := (mW E x0 x1 x2 x3 x4 x5 mo ou (nI 0) re ak gv kn ro LL ff)) (m_start_0 l E A) ok_X5_start w_962 (by decide) rfl rfl (Nat.le_of_ble_eq_true rfl) rfl rfl ⟨Nat.le_of_ble_eq_true rfl, Nat.le_of_ble_eq_true rfl⟩ dX5_isMissing_6 ?_
  refine j_ifn_ne_f (tgt := 25) C dX5_isMissing_9 (by decide) (by omega) (by omega) ?_
  refine j_aload_n C dX5_isMissing_12 rfl ?_
  refine j_get C 6 rfl inj_X5 rfl 1 (by decide) w_922 rfl dX5_isMissing_13 ?_
  refine j_iload_n C dX5_isMissing_16 rfl ?_
  refine j_aaload (v := .null) C 7 i rfl rfl (by omega) (by decide) (by rw [show ro i = none from hri]; rfl) dX5_isMissing_17 ?_
  refine j_ifnonnull_f C dX5_isMissing_18 ?_
  refine j_iconst (v := (nI 1)) C dX5_isMissing_21 rfl ?_
  refine j_goto (tgt := 26) C dX5_isMissing_22 (by decide) ?_
  exact j_zret C hQ rfl rfl dX5_isMissing_26 ⟨Nat.le_of_ble_eq_true rfl, Nat.le_of_ble_eq_true rfl⟩ ⟨rfl, rfl⟩
set_option maxHeartbeats 4000000 in
set_option maxRecDepth 100000 in
theorem g_isMissing_k (l : Launch) (E : jE) (A : Nat → Prop) {x0 x1 x2 x3 x4 x5 : Nat × va_E} {mo ou : Nat} {th re ak gv kn : Int32} {ro : Nat → Option Nat} {LL : List Nat} {ff : Nat → va_E} {i : Nat} (hi : i < 9) {ai n : Nat} {h : Nat → Int32} (hrai : ro i = some ai) (hmai : ai ∈ LL) (hfai : ff ai = .inl (E.2.1, n, .inl h)) (hnai : n ≤ 24)  : jMet l yX5_isMissing cX5_isMissing 2 (some .boolean) 5 0 0 E A [.ref mo, .int (nI i)] (mW E x0 x1 x2 x3 x4 x5 mo ou th re ak gv kn ro LL ff) (jR (some (.int (nI 0))) (mW E x0 x1 x2 x3 x4 x5 mo ou (nI 0) re ak gv kn ro LL ff)) jNo := by
  refine jMet.intro' [(0, .ref mo), (1, .int (nI i))] (by decide) (Nat.le_of_ble_eq_true rfl) rfl ?_
  intro p e R s m args below meth c Q C hQ
  refine j_aload_n C dX5_isMissing_0 rfl ?_
  refine j_iload_n C dX5_isMissing_1 rfl ?_
  refine j_callSr C (v := .int (nI 0)) (w := (mW E x0 x1 x2 x3 x4 x5 mo ou th re ak gv kn ro LL ff)) (m_isNo_0 l E A (by omega)) ok_X5_isNo w_959 (by decide) rfl rfl (Nat.le_of_ble_eq_true rfl) ⟨Nat.le_of_ble_eq_true rfl, Nat.le_of_ble_eq_true rfl⟩ dX5_isMissing_2 ?_
  refine j_iconst (v := (nI 1)) C dX5_isMissing_5 rfl ?_
  refine j_callVr C 6 (v := .int (nI 0)) (w := (mW E x0 x1 x2 x3 x4 x5 mo ou (nI 0) re ak gv kn ro LL ff)) (m_start_0 l E A) ok_X5_start w_962 (by decide) rfl rfl (Nat.le_of_ble_eq_true rfl) rfl rfl ⟨Nat.le_of_ble_eq_true rfl, Nat.le_of_ble_eq_true rfl⟩ dX5_isMissing_6 ?_
  refine j_ifn_ne_f (tgt := 25) C dX5_isMissing_9 (by decide) (by omega) (by omega) ?_
  refine j_aload_n C dX5_isMissing_12 rfl ?_
  refine j_get C 6 rfl inj_X5 rfl 1 (by decide) w_922 rfl dX5_isMissing_13 ?_
  refine j_iload_n C dX5_isMissing_16 rfl ?_
  refine j_aaload (v := .ref ai) C 7 i rfl rfl (by omega) (by decide) (by rw [show ro i = some ai from hrai]; rfl) dX5_isMissing_17 ?_
  refine j_ifnonnull_t (tgt := 25) C dX5_isMissing_18 (by decide) ?_
  refine j_iconst (v := (nI 0)) C dX5_isMissing_25 rfl ?_
  exact j_zret C hQ rfl rfl dX5_isMissing_26 ⟨Nat.le_of_ble_eq_true rfl, Nat.le_of_ble_eq_true rfl⟩ ⟨rfl, rfl⟩
set_option maxHeartbeats 4000000 in
set_option maxRecDepth 100000 in
theorem g_isThere_m (l : Launch) (E : jE) (A : Nat → Prop) {x0 x1 x2 x3 x4 x5 : Nat × va_E} {mo ou : Nat} {th re ak gv kn : Int32} {ro : Nat → Option Nat} {LL : List Nat} {ff : Nat → va_E} {i : Nat} (hi : i < 9) (hri : ro i = none)  : jMet l yX5_isThere cX5_isThere 2 (some .boolean) 5 0 0 E A [.ref mo, .int (nI i)] (mW E x0 x1 x2 x3 x4 x5 mo ou th re ak gv kn ro LL ff) (jR (some (.int (nI 0))) (mW E x0 x1 x2 x3 x4 x5 mo ou (nI 0) re ak gv kn ro LL ff)) jNo := by
  refine jMet.intro' [(0, .ref mo), (1, .int (nI i))] (by decide) (Nat.le_of_ble_eq_true rfl) rfl ?_
  intro p e R s m args below meth c Q C hQ
  refine j_aload_n C dX5_isThere_0 rfl ?_
  refine j_iload_n C dX5_isThere_1 rfl ?_
  refine j_callSr C (v := .int (nI 0)) (w := (mW E x0 x1 x2 x3 x4 x5 mo ou th re ak gv kn ro LL ff)) (m_isNo_0 l E A (by omega)) ok_X5_isNo w_959 (by decide) rfl rfl (Nat.le_of_ble_eq_true rfl) ⟨Nat.le_of_ble_eq_true rfl, Nat.le_of_ble_eq_true rfl⟩ dX5_isThere_2 ?_
  refine j_iconst (v := (nI 1)) C dX5_isThere_5 rfl ?_
  refine j_callVr C 6 (v := .int (nI 0)) (w := (mW E x0 x1 x2 x3 x4 x5 mo ou (nI 0) re ak gv kn ro LL ff)) (m_start_0 l E A) ok_X5_start w_962 (by decide) rfl rfl (Nat.le_of_ble_eq_true rfl) rfl rfl ⟨Nat.le_of_ble_eq_true rfl, Nat.le_of_ble_eq_true rfl⟩ dX5_isThere_6 ?_
  refine j_ifn_ne_f (tgt := 25) C dX5_isThere_9 (by decide) (by omega) (by omega) ?_
  refine j_aload_n C dX5_isThere_12 rfl ?_
  refine j_get C 6 rfl inj_X5 rfl 1 (by decide) w_922 rfl dX5_isThere_13 ?_
  refine j_iload_n C dX5_isThere_16 rfl ?_
  refine j_aaload (v := .null) C 7 i rfl rfl (by omega) (by decide) (by rw [show ro i = none from hri]; rfl) dX5_isThere_17 ?_
  refine j_ifnull_t (tgt := 25) C dX5_isThere_18 (by decide) ?_
  refine j_iconst (v := (nI 0)) C dX5_isThere_25 rfl ?_
  exact j_zret C hQ rfl rfl dX5_isThere_26 ⟨Nat.le_of_ble_eq_true rfl, Nat.le_of_ble_eq_true rfl⟩ ⟨rfl, rfl⟩
set_option maxHeartbeats 4000000 in
set_option maxRecDepth 100000 in
theorem g_isThere_k (l : Launch) (E : jE) (A : Nat → Prop) {x0 x1 x2 x3 x4 x5 : Nat × va_E} {mo ou : Nat} {th re ak gv kn : Int32} {ro : Nat → Option Nat} {LL : List Nat} {ff : Nat → va_E} {i : Nat} (hi : i < 9) {ai n : Nat} {h : Nat → Int32} (hrai : ro i = some ai) (hmai : ai ∈ LL) (hfai : ff ai = .inl (E.2.1, n, .inl h)) (hnai : n ≤ 24)  : jMet l yX5_isThere cX5_isThere 2 (some .boolean) 5 0 0 E A [.ref mo, .int (nI i)] (mW E x0 x1 x2 x3 x4 x5 mo ou th re ak gv kn ro LL ff) (jR (some (.int (nI 1))) (mW E x0 x1 x2 x3 x4 x5 mo ou (nI 0) re ak gv kn ro LL ff)) jNo := by
  refine jMet.intro' [(0, .ref mo), (1, .int (nI i))] (by decide) (Nat.le_of_ble_eq_true rfl) rfl ?_
  intro p e R s m args below meth c Q C hQ
  refine j_aload_n C dX5_isThere_0 rfl ?_
  refine j_iload_n C dX5_isThere_1 rfl ?_
  refine j_callSr C (v := .int (nI 0)) (w := (mW E x0 x1 x2 x3 x4 x5 mo ou th re ak gv kn ro LL ff)) (m_isNo_0 l E A (by omega)) ok_X5_isNo w_959 (by decide) rfl rfl (Nat.le_of_ble_eq_true rfl) ⟨Nat.le_of_ble_eq_true rfl, Nat.le_of_ble_eq_true rfl⟩ dX5_isThere_2 ?_
  refine j_iconst (v := (nI 1)) C dX5_isThere_5 rfl ?_
  refine j_callVr C 6 (v := .int (nI 0)) (w := (mW E x0 x1 x2 x3 x4 x5 mo ou (nI 0) re ak gv kn ro LL ff)) (m_start_0 l E A) ok_X5_start w_962 (by decide) rfl rfl (Nat.le_of_ble_eq_true rfl) rfl rfl ⟨Nat.le_of_ble_eq_true rfl, Nat.le_of_ble_eq_true rfl⟩ dX5_isThere_6 ?_
  refine j_ifn_ne_f (tgt := 25) C dX5_isThere_9 (by decide) (by omega) (by omega) ?_
  refine j_aload_n C dX5_isThere_12 rfl ?_
  refine j_get C 6 rfl inj_X5 rfl 1 (by decide) w_922 rfl dX5_isThere_13 ?_
  refine j_iload_n C dX5_isThere_16 rfl ?_
  refine j_aaload (v := .ref ai) C 7 i rfl rfl (by omega) (by decide) (by rw [show ro i = some ai from hrai]; rfl) dX5_isThere_17 ?_
  refine j_ifnull_f C dX5_isThere_18 ?_
  refine j_iconst (v := (nI 1)) C dX5_isThere_21 rfl ?_
  refine j_goto (tgt := 26) C dX5_isThere_22 (by decide) ?_
  exact j_zret C hQ rfl rfl dX5_isThere_26 ⟨Nat.le_of_ble_eq_true rfl, Nat.le_of_ble_eq_true rfl⟩ ⟨rfl, rfl⟩
set_option maxHeartbeats 4000000 in
set_option maxRecDepth 100000 in
theorem g_must_m (l : Launch) (E : jE) (A : Nat → Prop) {x0 x1 x2 x3 x4 x5 : Nat × va_E} {mo ou : Nat} {th re ak gv kn : Int32} {ro : Nat → Option Nat} {LL : List Nat} {ff : Nat → va_E} {i : Nat} (hi : i < 9) (hri : ro i = none)  : jMet l yX5_must cX5_must 2 (some .int) 5 0 0 E A [.ref mo, .int (nI i)] (mW E x0 x1 x2 x3 x4 x5 mo ou th re ak gv kn ro LL ff) (jR (some (.int (-9))) (mW E x0 x1 x2 x3 x4 x5 mo ou (nI 0) (re + nI 1) ak gv kn ro LL ff)) jNo := by
  refine jMet.intro' [(0, .ref mo), (1, .int (nI i))] (by decide) (Nat.le_of_ble_eq_true rfl) rfl ?_
  intro p e R s m args below meth c Q C hQ
  refine j_aload_n C dX5_must_0 rfl ?_
  refine j_iload_n C dX5_must_1 rfl ?_
  refine j_callSr C (v := .int (nI 0)) (w := (mW E x0 x1 x2 x3 x4 x5 mo ou th re ak gv kn ro LL ff)) (m_isNo_0 l E A (by omega)) ok_X5_isNo w_959 (by decide) rfl rfl (Nat.le_of_ble_eq_true rfl) ⟨Nat.le_of_ble_eq_true rfl, Nat.le_of_ble_eq_true rfl⟩ dX5_must_2 ?_
  refine j_iconst (v := (nI 1)) C dX5_must_5 rfl ?_
  refine j_callVr C 6 (v := .int (nI 0)) (w := (mW E x0 x1 x2 x3 x4 x5 mo ou (nI 0) re ak gv kn ro LL ff)) (m_start_0 l E A) ok_X5_start w_962 (by decide) rfl rfl (Nat.le_of_ble_eq_true rfl) rfl rfl ⟨Nat.le_of_ble_eq_true rfl, Nat.le_of_ble_eq_true rfl⟩ dX5_must_6 ?_
  refine j_ifn_eq_t (tgt := 16) C dX5_must_9 (by decide) (by omega) (by omega) ?_
  refine j_aload_n C dX5_must_16 rfl ?_
  refine j_get C 6 rfl inj_X5 rfl 1 (by decide) w_922 rfl dX5_must_17 ?_
  refine j_iload_n C dX5_must_20 rfl ?_
  refine j_aaload (v := .null) C 7 i rfl rfl (by omega) (by decide) (by rw [show ro i = none from hri]; rfl) dX5_must_21 ?_
  refine j_ifnonnull_f C dX5_must_22 ?_
  refine j_aload_n C dX5_must_25 rfl ?_
  refine j_callVr C 6 (v := .int (-9)) (w := (mW E x0 x1 x2 x3 x4 x5 mo ou (nI 0) (re + nI 1) ak gv kn ro LL ff)) (m_no l E A) ok_X5_no w_992 (by decide) rfl rfl (Nat.le_of_ble_eq_true rfl) rfl rfl ⟨Nat.le_of_ble_eq_true rfl, Nat.le_of_ble_eq_true rfl⟩ dX5_must_26 ?_
  refine j_goto (tgt := 37) C dX5_must_29 (by decide) ?_
  exact j_iret C hQ rfl dX5_must_37 ⟨Nat.le_of_ble_eq_true rfl, Nat.le_of_ble_eq_true rfl⟩ ⟨rfl, rfl⟩
set_option maxHeartbeats 4000000 in
set_option maxRecDepth 100000 in
theorem g_must_k (l : Launch) (E : jE) (A : Nat → Prop) {x0 x1 x2 x3 x4 x5 : Nat × va_E} {mo ou : Nat} {th re ak gv kn : Int32} {ro : Nat → Option Nat} {LL : List Nat} {ff : Nat → va_E} {i : Nat} (hi : i < 9) {ai n : Nat} {h : Nat → Int32} (hrai : ro i = some ai) (hmai : ai ∈ LL) (hfai : ff ai = .inl (E.2.1, n, .inl h)) (hnai : n ≤ 24)  : jMet l yX5_must cX5_must 2 (some .int) 5 0 0 E A [.ref mo, .int (nI i)] (mW E x0 x1 x2 x3 x4 x5 mo ou th re ak gv kn ro LL ff) (jR (some (.int (nI n))) (mW E x0 x1 x2 x3 x4 x5 mo ou (nI 0) re ak gv kn ro LL ff)) jNo := by
  refine jMet.intro' [(0, .ref mo), (1, .int (nI i))] (by decide) (Nat.le_of_ble_eq_true rfl) rfl ?_
  intro p e R s m args below meth c Q C hQ
  refine j_aload_n C dX5_must_0 rfl ?_
  refine j_iload_n C dX5_must_1 rfl ?_
  refine j_callSr C (v := .int (nI 0)) (w := (mW E x0 x1 x2 x3 x4 x5 mo ou th re ak gv kn ro LL ff)) (m_isNo_0 l E A (by omega)) ok_X5_isNo w_959 (by decide) rfl rfl (Nat.le_of_ble_eq_true rfl) ⟨Nat.le_of_ble_eq_true rfl, Nat.le_of_ble_eq_true rfl⟩ dX5_must_2 ?_
  refine j_iconst (v := (nI 1)) C dX5_must_5 rfl ?_
  refine j_callVr C 6 (v := .int (nI 0)) (w := (mW E x0 x1 x2 x3 x4 x5 mo ou (nI 0) re ak gv kn ro LL ff)) (m_start_0 l E A) ok_X5_start w_962 (by decide) rfl rfl (Nat.le_of_ble_eq_true rfl) rfl rfl ⟨Nat.le_of_ble_eq_true rfl, Nat.le_of_ble_eq_true rfl⟩ dX5_must_6 ?_
  refine j_ifn_eq_t (tgt := 16) C dX5_must_9 (by decide) (by omega) (by omega) ?_
  refine j_aload_n C dX5_must_16 rfl ?_
  refine j_get C 6 rfl inj_X5 rfl 1 (by decide) w_922 rfl dX5_must_17 ?_
  refine j_iload_n C dX5_must_20 rfl ?_
  refine j_aaload (v := .ref ai) C 7 i rfl rfl (by omega) (by decide) (by rw [show ro i = some ai from hrai]; rfl) dX5_must_21 ?_
  refine j_ifnonnull_t (tgt := 32) C dX5_must_22 (by decide) ?_
  refine j_aload_n C dX5_must_32 rfl ?_
  refine j_iload_n C dX5_must_33 rfl ?_
  refine j_callVr C 6 (v := .int (nI n)) (w := (mW E x0 x1 x2 x3 x4 x5 mo ou (nI 0) re ak gv kn ro LL ff)) (m_many_k l E A (by omega) hrai hmai hfai (by omega)) ok_X5_many w_970 (by decide) rfl rfl (Nat.le_of_ble_eq_true rfl) rfl rfl ⟨Nat.le_of_ble_eq_true rfl, Nat.le_of_ble_eq_true rfl⟩ dX5_must_34 ?_
  exact j_iret C hQ rfl dX5_must_37 ⟨Nat.le_of_ble_eq_true rfl, Nat.le_of_ble_eq_true rfl⟩ ⟨rfl, rfl⟩
set_option maxHeartbeats 4000000 in
set_option maxRecDepth 100000 in
theorem g_mustSaying_m (l : Launch) (E : jE) (A : Nat → Prop) {x0 x1 x2 x3 x4 x5 : Nat × va_E} {mo ou : Nat} {th re ak gv kn : Int32} {ro : Nat → Option Nat} {LL : List Nat} {ff : Nat → va_E} {i : Nat} (hi : i < 9) (hri : ro i = none)  : jMet l yX5_mustSaying cX5_mustSaying 2 (some .int) 5 0 0 E A [.ref mo, .int (nI i)] (mW E x0 x1 x2 x3 x4 x5 mo ou th re ak gv kn ro LL ff) (jR (some (.int (-9))) (mW E x0 x1 x2 x3 x4 x5 mo ou (nI 0) (re + nI 1) ak (gv + nI 1) kn ro LL ff)) jNo := by
  refine jMet.intro' [(0, .ref mo), (1, .int (nI i))] (by decide) (Nat.le_of_ble_eq_true rfl) rfl ?_
  intro p e R s m args below meth c Q C hQ
  refine j_aload_n C dX5_mustSaying_0 rfl ?_
  refine j_iload_n C dX5_mustSaying_1 rfl ?_
  refine j_callSr C (v := .int (nI 0)) (w := (mW E x0 x1 x2 x3 x4 x5 mo ou th re ak gv kn ro LL ff)) (m_isNo_0 l E A (by omega)) ok_X5_isNo w_959 (by decide) rfl rfl (Nat.le_of_ble_eq_true rfl) ⟨Nat.le_of_ble_eq_true rfl, Nat.le_of_ble_eq_true rfl⟩ dX5_mustSaying_2 ?_
  refine j_iconst (v := (nI 1)) C dX5_mustSaying_5 rfl ?_
  refine j_callVr C 6 (v := .int (nI 0)) (w := (mW E x0 x1 x2 x3 x4 x5 mo ou (nI 0) re ak gv kn ro LL ff)) (m_start_0 l E A) ok_X5_start w_962 (by decide) rfl rfl (Nat.le_of_ble_eq_true rfl) rfl rfl ⟨Nat.le_of_ble_eq_true rfl, Nat.le_of_ble_eq_true rfl⟩ dX5_mustSaying_6 ?_
  refine j_ifn_eq_t (tgt := 14) C dX5_mustSaying_9 (by decide) (by omega) (by omega) ?_
  refine j_aload_n C dX5_mustSaying_14 rfl ?_
  refine j_dup C dX5_mustSaying_15 rfl ?_
  refine j_get C 6 rfl inj_X5 rfl 4 (by decide) w_925 rfl dX5_mustSaying_16 ?_
  refine j_aload_n C dX5_mustSaying_19 rfl ?_
  refine j_get C 6 rfl inj_X5 rfl 1 (by decide) w_922 rfl dX5_mustSaying_20 ?_
  refine j_iload_n C dX5_mustSaying_23 rfl ?_
  refine j_aaload (v := .null) C 7 i rfl rfl (by omega) (by decide) (by rw [show ro i = none from hri]; rfl) dX5_mustSaying_24 ?_
  refine j_ifnonnull_f C dX5_mustSaying_25 ?_
  refine j_iconst (v := (nI 1)) C dX5_mustSaying_28 rfl ?_
  refine j_goto (tgt := 33) C dX5_mustSaying_29 (by decide) ?_
  refine j_callSr C (v := .int (nI 1)) (w := (mW E x0 x1 x2 x3 x4 x5 mo ou (nI 0) re ak gv kn ro LL ff)) (m_one_1 l E A) ok_X5_one w_956 (by decide) rfl rfl (Nat.le_of_ble_eq_true rfl) ⟨Nat.le_of_ble_eq_true rfl, Nat.le_of_ble_eq_true rfl⟩ dX5_mustSaying_33 ?_
  refine j_iadd (z := (gv + (nI 1))) C dX5_mustSaying_36 rfl ?_
  refine j_put (ws' := (mW E x0 x1 x2 x3 x4 x5 mo ou (nI 0) re ak (gv + (nI 1)) kn ro LL ff)) C 6 rfl inj_X5 tyX5 tyX5_ok nmX5 rfl 4 (by decide) w_925 rfl (tyX5_ok 4 (by decide)) rfl rfl (Nat.le_of_ble_eq_true rfl) dX5_mustSaying_37 rfl ?_
  refine j_aload_n C dX5_mustSaying_40 rfl ?_
  refine j_get C 6 rfl inj_X5 rfl 1 (by decide) w_922 rfl dX5_mustSaying_41 ?_
  refine j_iload_n C dX5_mustSaying_44 rfl ?_
  refine j_aaload (v := .null) C 7 i rfl rfl (by omega) (by decide) (by rw [show ro i = none from hri]; rfl) dX5_mustSaying_45 ?_
  refine j_ifnonnull_f C dX5_mustSaying_46 ?_
  refine j_aload_n C dX5_mustSaying_49 rfl ?_
  refine j_callVr C 6 (v := .int (-9)) (w := (mW E x0 x1 x2 x3 x4 x5 mo ou (nI 0) (re + nI 1) ak (gv + (nI 1)) kn ro LL ff)) (m_no l E A) ok_X5_no w_992 (by decide) rfl rfl (Nat.le_of_ble_eq_true rfl) rfl rfl ⟨Nat.le_of_ble_eq_true rfl, Nat.le_of_ble_eq_true rfl⟩ dX5_mustSaying_50 ?_
  refine j_goto (tgt := 61) C dX5_mustSaying_53 (by decide) ?_
  exact j_iret C hQ rfl dX5_mustSaying_61 ⟨Nat.le_of_ble_eq_true rfl, Nat.le_of_ble_eq_true rfl⟩ ⟨rfl, rfl⟩
set_option maxHeartbeats 4000000 in
set_option maxRecDepth 100000 in
theorem g_mustSaying_k (l : Launch) (E : jE) (A : Nat → Prop) {x0 x1 x2 x3 x4 x5 : Nat × va_E} {mo ou : Nat} {th re ak gv kn : Int32} {ro : Nat → Option Nat} {LL : List Nat} {ff : Nat → va_E} {i : Nat} (hi : i < 9) {ai n : Nat} {h : Nat → Int32} (hrai : ro i = some ai) (hmai : ai ∈ LL) (hfai : ff ai = .inl (E.2.1, n, .inl h)) (hnai : n ≤ 24)  : jMet l yX5_mustSaying cX5_mustSaying 2 (some .int) 5 0 0 E A [.ref mo, .int (nI i)] (mW E x0 x1 x2 x3 x4 x5 mo ou th re ak gv kn ro LL ff) (jR (some (.int (nI n))) (mW E x0 x1 x2 x3 x4 x5 mo ou (nI 0) re ak (gv + nI 0) kn ro LL ff)) jNo := by
  refine jMet.intro' [(0, .ref mo), (1, .int (nI i))] (by decide) (Nat.le_of_ble_eq_true rfl) rfl ?_
  intro p e R s m args below meth c Q C hQ
  refine j_aload_n C dX5_mustSaying_0 rfl ?_
  refine j_iload_n C dX5_mustSaying_1 rfl ?_
  refine j_callSr C (v := .int (nI 0)) (w := (mW E x0 x1 x2 x3 x4 x5 mo ou th re ak gv kn ro LL ff)) (m_isNo_0 l E A (by omega)) ok_X5_isNo w_959 (by decide) rfl rfl (Nat.le_of_ble_eq_true rfl) ⟨Nat.le_of_ble_eq_true rfl, Nat.le_of_ble_eq_true rfl⟩ dX5_mustSaying_2 ?_
  refine j_iconst (v := (nI 1)) C dX5_mustSaying_5 rfl ?_
  refine j_callVr C 6 (v := .int (nI 0)) (w := (mW E x0 x1 x2 x3 x4 x5 mo ou (nI 0) re ak gv kn ro LL ff)) (m_start_0 l E A) ok_X5_start w_962 (by decide) rfl rfl (Nat.le_of_ble_eq_true rfl) rfl rfl ⟨Nat.le_of_ble_eq_true rfl, Nat.le_of_ble_eq_true rfl⟩ dX5_mustSaying_6 ?_
  refine j_ifn_eq_t (tgt := 14) C dX5_mustSaying_9 (by decide) (by omega) (by omega) ?_
  refine j_aload_n C dX5_mustSaying_14 rfl ?_
  refine j_dup C dX5_mustSaying_15 rfl ?_
  refine j_get C 6 rfl inj_X5 rfl 4 (by decide) w_925 rfl dX5_mustSaying_16 ?_
  refine j_aload_n C dX5_mustSaying_19 rfl ?_
  refine j_get C 6 rfl inj_X5 rfl 1 (by decide) w_922 rfl dX5_mustSaying_20 ?_
  refine j_iload_n C dX5_mustSaying_23 rfl ?_
  refine j_aaload (v := .ref ai) C 7 i rfl rfl (by omega) (by decide) (by rw [show ro i = some ai from hrai]; rfl) dX5_mustSaying_24 ?_
  refine j_ifnonnull_t (tgt := 32) C dX5_mustSaying_25 (by decide) ?_
  refine j_iconst (v := (nI 0)) C dX5_mustSaying_32 rfl ?_
  refine j_callSr C (v := .int (nI 0)) (w := (mW E x0 x1 x2 x3 x4 x5 mo ou (nI 0) re ak gv kn ro LL ff)) (m_one_0 l E A) ok_X5_one w_956 (by decide) rfl rfl (Nat.le_of_ble_eq_true rfl) ⟨Nat.le_of_ble_eq_true rfl, Nat.le_of_ble_eq_true rfl⟩ dX5_mustSaying_33 ?_
  refine j_iadd (z := (gv + (nI 0))) C dX5_mustSaying_36 rfl ?_
  refine j_put (ws' := (mW E x0 x1 x2 x3 x4 x5 mo ou (nI 0) re ak (gv + (nI 0)) kn ro LL ff)) C 6 rfl inj_X5 tyX5 tyX5_ok nmX5 rfl 4 (by decide) w_925 rfl (tyX5_ok 4 (by decide)) rfl rfl (Nat.le_of_ble_eq_true rfl) dX5_mustSaying_37 rfl ?_
  refine j_aload_n C dX5_mustSaying_40 rfl ?_
  refine j_get C 6 rfl inj_X5 rfl 1 (by decide) w_922 rfl dX5_mustSaying_41 ?_
  refine j_iload_n C dX5_mustSaying_44 rfl ?_
  refine j_aaload (v := .ref ai) C 7 i rfl rfl (by omega) (by decide) (by rw [show ro i = some ai from hrai]; rfl) dX5_mustSaying_45 ?_
  refine j_ifnonnull_t (tgt := 56) C dX5_mustSaying_46 (by decide) ?_
  refine j_aload_n C dX5_mustSaying_56 rfl ?_
  refine j_iload_n C dX5_mustSaying_57 rfl ?_
  refine j_callVr C 6 (v := .int (nI n)) (w := (mW E x0 x1 x2 x3 x4 x5 mo ou (nI 0) re ak (gv + (nI 0)) kn ro LL ff)) (m_many_k l E A (by omega) hrai hmai hfai (by omega)) ok_X5_many w_970 (by decide) rfl rfl (Nat.le_of_ble_eq_true rfl) rfl rfl ⟨Nat.le_of_ble_eq_true rfl, Nat.le_of_ble_eq_true rfl⟩ dX5_mustSaying_58 ?_
  exact j_iret C hQ rfl dX5_mustSaying_61 ⟨Nat.le_of_ble_eq_true rfl, Nat.le_of_ble_eq_true rfl⟩ ⟨rfl, rfl⟩
set_option maxHeartbeats 4000000 in
set_option maxRecDepth 100000 in
theorem g_knock_k (l : Launch) (E : jE) (A : Nat → Prop) {x0 x1 x2 x3 x4 x5 : Nat × va_E} {mo ou : Nat} {th re ak gv kn : Int32} {ro : Nat → Option Nat} {LL : List Nat} {ff : Nat → va_E}  : jMet l yX5_knock cX5_knock 1 (some .int) 5 0 0 E A [.ref mo] (mW E x0 x1 x2 x3 x4 x5 mo ou th re ak gv kn ro LL ff) (jR (some (.int (kn + nI 1))) (mW E x0 x1 x2 x3 x4 x5 mo ou (nI 0) re ak gv (kn + nI 1) ro LL ff)) jNo := by
  refine jMet.intro' [(0, .ref mo)] (by decide) (Nat.le_of_ble_eq_true rfl) rfl ?_
  intro p e R s m args below meth c Q C hQ
  refine j_aload_n C dX5_knock_0 rfl ?_
  refine j_iconst (v := (nI 0)) C dX5_knock_1 rfl ?_
  refine j_put (ws' := (mW E x0 x1 x2 x3 x4 x5 mo ou (nI 0) re ak gv kn ro LL ff)) C 6 rfl inj_X5 tyX5 tyX5_ok nmX5 rfl 0 (by decide) w_921 rfl (tyX5_ok 0 (by decide)) rfl rfl (Nat.le_of_ble_eq_true rfl) dX5_knock_2 rfl ?_
  refine j_aload_n C dX5_knock_5 rfl ?_
  refine j_dup C dX5_knock_6 rfl ?_
  refine j_get C 6 rfl inj_X5 rfl 5 (by decide) w_926 rfl dX5_knock_7 ?_
  refine j_iconst (v := (nI 1)) C dX5_knock_10 rfl ?_
  refine j_iadd (z := (kn + (nI 1))) C dX5_knock_11 rfl ?_
  refine j_put (ws' := (mW E x0 x1 x2 x3 x4 x5 mo ou (nI 0) re ak gv (kn + (nI 1)) ro LL ff)) C 6 rfl inj_X5 tyX5 tyX5_ok nmX5 rfl 5 (by decide) w_926 rfl (tyX5_ok 5 (by decide)) rfl rfl (Nat.le_of_ble_eq_true rfl) dX5_knock_12 rfl ?_
  refine j_aload_n C dX5_knock_15 rfl ?_
  refine j_get C 6 rfl inj_X5 rfl 5 (by decide) w_926 rfl dX5_knock_16 ?_
  exact j_iret C hQ rfl dX5_knock_19 ⟨Nat.le_of_ble_eq_true rfl, Nat.le_of_ble_eq_true rfl⟩ ⟨rfl, rfl⟩
set_option maxHeartbeats 4000000 in
set_option maxRecDepth 100000 in
theorem g_code_k (l : Launch) (E : jE) (A : Nat → Prop) {x0 x1 x2 x3 x4 x5 : Nat × va_E} {mo ou : Nat} {th re ak gv kn : Int32} {ro : Nat → Option Nat} {LL : List Nat} {ff : Nat → va_E} {i : Nat} (hi : i < 9) {z g : Nat → Int32} (hR : Rel E z g ro LL ff)  : jMet l yX5_code cX5_code 2 (some .int) 5 0 0 E A [.ref mo, .int (nI i)] (mW E x0 x1 x2 x3 x4 x5 mo ou th re ak gv kn ro LL ff) (jR (some (.int (codS z g i))) (mW E x0 x1 x2 x3 x4 x5 mo ou (nI 0) re ak gv kn ro LL ff)) jNo := by
  refine jMet.intro' [(0, .ref mo), (1, .int (nI i))] (by decide) (Nat.le_of_ble_eq_true rfl) rfl ?_
  intro p e R s m args below meth c Q C hQ
  refine j_aload_n C dX5_code_0 rfl ?_
  refine j_iload_n C dX5_code_1 rfl ?_
  refine j_callSr C (v := .int (nI 0)) (w := (mW E x0 x1 x2 x3 x4 x5 mo ou th re ak gv kn ro LL ff)) (m_isNo_0 l E A (by omega)) ok_X5_isNo w_959 (by decide) rfl rfl (Nat.le_of_ble_eq_true rfl) ⟨Nat.le_of_ble_eq_true rfl, Nat.le_of_ble_eq_true rfl⟩ dX5_code_2 ?_
  refine j_iconst (v := (nI 1)) C dX5_code_5 rfl ?_
  refine j_callVr C 6 (v := .int (nI 0)) (w := (mW E x0 x1 x2 x3 x4 x5 mo ou (nI 0) re ak gv kn ro LL ff)) (m_start_0 l E A) ok_X5_start w_962 (by decide) rfl rfl (Nat.le_of_ble_eq_true rfl) rfl rfl ⟨Nat.le_of_ble_eq_true rfl, Nat.le_of_ble_eq_true rfl⟩ dX5_code_6 ?_
  refine j_ifn_eq_t (tgt := 16) C dX5_code_9 (by decide) (by omega) (by omega) ?_
  refine j_aload_n C dX5_code_16 rfl ?_
  refine j_get C 6 rfl inj_X5 rfl 1 (by decide) w_922 rfl dX5_code_17 ?_
  refine j_iload_n C dX5_code_20 rfl ?_
  refine j_aaload (v := va_rf (ro i)) C 7 i rfl rfl (by omega) (by decide) rfl dX5_code_21 ?_
  refine j_callSr C (v := .int (codS z g i)) (w := (mW E x0 x1 x2 x3 x4 x5 mo ou (nI 0) re ak gv kn ro LL ff)) (m_codS l E A hR (i := i) (by omega)) ok_X5_codeOf w_1170 (by decide) rfl rfl (Nat.le_of_ble_eq_true rfl) ⟨Nat.le_of_ble_eq_true rfl, Nat.le_of_ble_eq_true rfl⟩ dX5_code_22 ?_
  exact j_iret C hQ rfl dX5_code_25 ⟨Nat.le_of_ble_eq_true rfl, Nat.le_of_ble_eq_true rfl⟩ ⟨rfl, rfl⟩
set_option maxHeartbeats 4000000 in
set_option maxRecDepth 100000 in
theorem g_codes_k (l : Launch) (E : jE) (A : Nat → Prop) {x0 x1 x2 x3 x4 x5 : Nat × va_E} {mo ou : Nat} {th re ak gv kn : Int32} {ro : Nat → Option Nat} {LL : List Nat} {ff : Nat → va_E} {i : Nat} (hi : i < 9) {j k : Nat} (hj : j < 9) (hk : k < 9) {z g : Nat → Int32} (hR : Rel E z g ro LL ff)  : jMet l yX5_codes cX5_codes 4 (some .int) 5 0 0 E A [.ref mo, .int (nI i), .int (nI j), .int (nI k)] (mW E x0 x1 x2 x3 x4 x5 mo ou th re ak gv kn ro LL ff) (jR (some (.int (cod3 (codS z g i) (codS z g j) (codS z g k)))) (mW E x0 x1 x2 x3 x4 x5 mo ou (nI 0) re ak gv kn ro LL ff)) jNo := by
  refine jMet.intro' [(0, .ref mo), (1, .int (nI i)), (2, .int (nI j)), (3, .int (nI k))] (by decide) (Nat.le_of_ble_eq_true rfl) rfl ?_
  intro p e R s m args below meth c Q C hQ
  refine j_aload_n C dX5_codes_0 rfl ?_
  refine j_iload_n C dX5_codes_1 rfl ?_
  refine j_callSr C (v := .int (nI 0)) (w := (mW E x0 x1 x2 x3 x4 x5 mo ou th re ak gv kn ro LL ff)) (m_isNo_0 l E A (by omega)) ok_X5_isNo w_959 (by decide) rfl rfl (Nat.le_of_ble_eq_true rfl) ⟨Nat.le_of_ble_eq_true rfl, Nat.le_of_ble_eq_true rfl⟩ dX5_codes_2 ?_
  refine j_ifn_ne_f (tgt := 22) C dX5_codes_5 (by decide) (by omega) (by omega) ?_
  refine j_iload_n C dX5_codes_8 rfl ?_
  refine j_callSr C (v := .int (nI 0)) (w := (mW E x0 x1 x2 x3 x4 x5 mo ou th re ak gv kn ro LL ff)) (m_isNo_0 l E A (by omega)) ok_X5_isNo w_959 (by decide) rfl rfl (Nat.le_of_ble_eq_true rfl) ⟨Nat.le_of_ble_eq_true rfl, Nat.le_of_ble_eq_true rfl⟩ dX5_codes_9 ?_
  refine j_ifn_ne_f (tgt := 22) C dX5_codes_12 (by decide) (by omega) (by omega) ?_
  refine j_iload_n C dX5_codes_15 rfl ?_
  refine j_callSr C (v := .int (nI 0)) (w := (mW E x0 x1 x2 x3 x4 x5 mo ou th re ak gv kn ro LL ff)) (m_isNo_0 l E A (by omega)) ok_X5_isNo w_959 (by decide) rfl rfl (Nat.le_of_ble_eq_true rfl) ⟨Nat.le_of_ble_eq_true rfl, Nat.le_of_ble_eq_true rfl⟩ dX5_codes_16 ?_
  refine j_ifn_eq_t (tgt := 26) C dX5_codes_19 (by decide) (by omega) (by omega) ?_
  refine j_iconst (v := (nI 0)) C dX5_codes_26 rfl ?_
  refine j_iconst (v := (nI 1)) C dX5_codes_27 rfl ?_
  refine j_callVr C 6 (v := .int (nI 0)) (w := (mW E x0 x1 x2 x3 x4 x5 mo ou (nI 0) re ak gv kn ro LL ff)) (m_start_0 l E A) ok_X5_start w_962 (by decide) rfl rfl (Nat.le_of_ble_eq_true rfl) rfl rfl ⟨Nat.le_of_ble_eq_true rfl, Nat.le_of_ble_eq_true rfl⟩ dX5_codes_28 ?_
  refine j_ifn_eq_t (tgt := 38) C dX5_codes_31 (by decide) (by omega) (by omega) ?_
  refine j_aload_n C dX5_codes_38 rfl ?_
  refine j_iload_n C dX5_codes_39 rfl ?_
  refine j_iload_n C dX5_codes_40 rfl ?_
  refine j_iload_n C dX5_codes_41 rfl ?_
  refine j_callVr C 6 (v := .int (cod3 (codS z g i) (codS z g j) (codS z g k))) (w := (mW E x0 x1 x2 x3 x4 x5 mo ou (nI 0) re ak gv kn ro LL ff)) (m_codesOf l E A (by omega) (by omega) (by omega) hR) ok_X5_codesOf w_1177 (by decide) rfl rfl (Nat.le_of_ble_eq_true rfl) rfl rfl ⟨Nat.le_of_ble_eq_true rfl, Nat.le_of_ble_eq_true rfl⟩ dX5_codes_42 ?_
  exact j_iret C hQ rfl dX5_codes_45 ⟨Nat.le_of_ble_eq_true rfl, Nat.le_of_ble_eq_true rfl⟩ ⟨rfl, rfl⟩
set_option maxHeartbeats 4000000 in
set_option maxRecDepth 100000 in
theorem g_leave_m (l : Launch) (E : jE) (A : Nat → Prop) {x0 x1 x2 x3 x4 x5 : Nat × va_E} {mo ou : Nat} {th re ak gv kn : Int32} {ro : Nat → Option Nat} {LL : List Nat} {ff : Nat → va_E} {i : Nat} (hi : i < 9) (hri : ro i = none)  : jMet l yX5_leave cX5_leave 3 (some .int) 5 0 0 E A [.ref mo, .int (nI i)] (mW E x0 x1 x2 x3 x4 x5 mo ou th re ak gv kn ro LL ff) (jR (some (.int (-1))) (mW E x0 x1 x2 x3 x4 x5 mo ou (nI 0) re ak gv kn (va_up ro i none) LL ff)) jNo := by
  refine jMet.intro' [(0, .ref mo), (1, .int (nI i))] (by decide) (Nat.le_of_ble_eq_true rfl) rfl ?_
  intro p e R s m args below meth c Q C hQ
  refine j_aload_n C dX5_leave_0 rfl ?_
  refine j_iload_n C dX5_leave_1 rfl ?_
  refine j_callSr C (v := .int (nI 0)) (w := (mW E x0 x1 x2 x3 x4 x5 mo ou th re ak gv kn ro LL ff)) (m_isNo_0 l E A (by omega)) ok_X5_isNo w_959 (by decide) rfl rfl (Nat.le_of_ble_eq_true rfl) ⟨Nat.le_of_ble_eq_true rfl, Nat.le_of_ble_eq_true rfl⟩ dX5_leave_2 ?_
  refine j_iconst (v := (nI 1)) C dX5_leave_5 rfl ?_
  refine j_callVr C 6 (v := .int (nI 0)) (w := (mW E x0 x1 x2 x3 x4 x5 mo ou (nI 0) re ak gv kn ro LL ff)) (m_start_0 l E A) ok_X5_start w_962 (by decide) rfl rfl (Nat.le_of_ble_eq_true rfl) rfl rfl ⟨Nat.le_of_ble_eq_true rfl, Nat.le_of_ble_eq_true rfl⟩ dX5_leave_6 ?_
  refine j_ifn_eq_t (tgt := 14) C dX5_leave_9 (by decide) (by omega) (by omega) ?_
  refine j_aload_n C dX5_leave_14 rfl ?_
  refine j_iload_n C dX5_leave_15 rfl ?_
  refine j_callVr C 6 (v := .int (-1)) (w := (mW E x0 x1 x2 x3 x4 x5 mo ou (nI 0) re ak gv kn ro LL ff)) (m_many_m l E A (by omega) hri) ok_X5_many w_970 (by decide) rfl rfl (Nat.le_of_ble_eq_true rfl) rfl rfl ⟨Nat.le_of_ble_eq_true rfl, Nat.le_of_ble_eq_true rfl⟩ dX5_leave_16 ?_
  refine j_istore_n (lv' := [(2, .int (-1)), (0, .ref mo), (1, .int (nI i))]) C dX5_leave_19 (by decide) rfl ?_
  refine j_aload_n C dX5_leave_20 rfl ?_
  refine j_get C 6 rfl inj_X5 rfl 1 (by decide) w_922 rfl dX5_leave_21 ?_
  refine j_iload_n C dX5_leave_24 rfl ?_
  refine j_null C dX5_leave_25 ?_
  refine j_aastoreN (ws' := (mW E x0 x1 x2 x3 x4 x5 mo ou (nI 0) re ak gv kn (va_up ro i none) LL ff)) C 7 i rfl rfl (by omega) (by decide) dX5_leave_26 rfl ?_
  refine j_iload_n C dX5_leave_27 rfl ?_
  exact j_iret C hQ rfl dX5_leave_28 ⟨Nat.le_of_ble_eq_true rfl, Nat.le_of_ble_eq_true rfl⟩ ⟨rfl, rfl⟩
set_option maxHeartbeats 4000000 in
set_option maxRecDepth 100000 in
theorem g_leave_k (l : Launch) (E : jE) (A : Nat → Prop) {x0 x1 x2 x3 x4 x5 : Nat × va_E} {mo ou : Nat} {th re ak gv kn : Int32} {ro : Nat → Option Nat} {LL : List Nat} {ff : Nat → va_E} {i : Nat} (hi : i < 9) {ai n : Nat} {h : Nat → Int32} (hrai : ro i = some ai) (hmai : ai ∈ LL) (hfai : ff ai = .inl (E.2.1, n, .inl h)) (hnai : n ≤ 24)  : jMet l yX5_leave cX5_leave 3 (some .int) 5 0 0 E A [.ref mo, .int (nI i)] (mW E x0 x1 x2 x3 x4 x5 mo ou th re ak gv kn ro LL ff) (jR (some (.int (nI n))) (mW E x0 x1 x2 x3 x4 x5 mo ou (nI 0) re ak gv kn (va_up ro i none) LL ff)) jNo := by
  refine jMet.intro' [(0, .ref mo), (1, .int (nI i))] (by decide) (Nat.le_of_ble_eq_true rfl) rfl ?_
  intro p e R s m args below meth c Q C hQ
  refine j_aload_n C dX5_leave_0 rfl ?_
  refine j_iload_n C dX5_leave_1 rfl ?_
  refine j_callSr C (v := .int (nI 0)) (w := (mW E x0 x1 x2 x3 x4 x5 mo ou th re ak gv kn ro LL ff)) (m_isNo_0 l E A (by omega)) ok_X5_isNo w_959 (by decide) rfl rfl (Nat.le_of_ble_eq_true rfl) ⟨Nat.le_of_ble_eq_true rfl, Nat.le_of_ble_eq_true rfl⟩ dX5_leave_2 ?_
  refine j_iconst (v := (nI 1)) C dX5_leave_5 rfl ?_
  refine j_callVr C 6 (v := .int (nI 0)) (w := (mW E x0 x1 x2 x3 x4 x5 mo ou (nI 0) re ak gv kn ro LL ff)) (m_start_0 l E A) ok_X5_start w_962 (by decide) rfl rfl (Nat.le_of_ble_eq_true rfl) rfl rfl ⟨Nat.le_of_ble_eq_true rfl, Nat.le_of_ble_eq_true rfl⟩ dX5_leave_6 ?_
  refine j_ifn_eq_t (tgt := 14) C dX5_leave_9 (by decide) (by omega) (by omega) ?_
  refine j_aload_n C dX5_leave_14 rfl ?_
  refine j_iload_n C dX5_leave_15 rfl ?_
  refine j_callVr C 6 (v := .int (nI n)) (w := (mW E x0 x1 x2 x3 x4 x5 mo ou (nI 0) re ak gv kn ro LL ff)) (m_many_k l E A (by omega) hrai hmai hfai (by omega)) ok_X5_many w_970 (by decide) rfl rfl (Nat.le_of_ble_eq_true rfl) rfl rfl ⟨Nat.le_of_ble_eq_true rfl, Nat.le_of_ble_eq_true rfl⟩ dX5_leave_16 ?_
  refine j_istore_n (lv' := [(2, .int (nI n)), (0, .ref mo), (1, .int (nI i))]) C dX5_leave_19 (by decide) rfl ?_
  refine j_aload_n C dX5_leave_20 rfl ?_
  refine j_get C 6 rfl inj_X5 rfl 1 (by decide) w_922 rfl dX5_leave_21 ?_
  refine j_iload_n C dX5_leave_24 rfl ?_
  refine j_null C dX5_leave_25 ?_
  refine j_aastoreN (ws' := (mW E x0 x1 x2 x3 x4 x5 mo ou (nI 0) re ak gv kn (va_up ro i none) LL ff)) C 7 i rfl rfl (by omega) (by decide) dX5_leave_26 rfl ?_
  refine j_iload_n C dX5_leave_27 rfl ?_
  exact j_iret C hQ rfl dX5_leave_28 ⟨Nat.le_of_ble_eq_true rfl, Nat.le_of_ble_eq_true rfl⟩ ⟨rfl, rfl⟩
set_option maxHeartbeats 4000000 in
set_option maxRecDepth 100000 in
theorem g_cut_m (l : Launch) (E : jE) (A : Nat → Prop) {x0 x1 x2 x3 x4 x5 : Nat × va_E} {mo ou : Nat} {th re ak gv kn : Int32} {ro : Nat → Option Nat} {LL : List Nat} {ff : Nat → va_E} {i : Nat} (hi : i < 9) (hri : ro i = none) {y w : Int32}  : jMet l yX5_cut cX5_cut 4 (some .int) 5 0 0 E A [.ref mo, .int (nI i), .int y, .int w] (mW E x0 x1 x2 x3 x4 x5 mo ou th re ak gv kn ro LL ff) (jR (some (.int (nI 0))) (mW E x0 x1 x2 x3 x4 x5 mo ou (nI 2) re ak gv kn ro LL ff)) jNo := by
  refine jMet.intro' [(0, .ref mo), (1, .int (nI i)), (2, .int y), (3, .int w)] (by decide) (Nat.le_of_ble_eq_true rfl) rfl ?_
  intro p e R s m args below meth c Q C hQ
  refine j_aload_n C dX5_cut_0 rfl ?_
  refine j_iload_n C dX5_cut_1 rfl ?_
  refine j_callVr C 6 (v := .int (nI 1)) (w := (mW E x0 x1 x2 x3 x4 x5 mo ou (nI 2) re ak gv kn ro LL ff)) (m_isNone_m l E A (by omega) hri) ok_X5_isNone w_985 (by decide) rfl rfl (Nat.le_of_ble_eq_true rfl) rfl rfl ⟨Nat.le_of_ble_eq_true rfl, Nat.le_of_ble_eq_true rfl⟩ dX5_cut_2 ?_
  refine j_ifn_eq_f (tgt := 10) C dX5_cut_5 (by decide) (by omega) (by omega) ?_
  refine j_iconst (v := (nI 0)) C dX5_cut_8 rfl ?_
  exact j_iret C hQ rfl dX5_cut_9 ⟨Nat.le_of_ble_eq_true rfl, Nat.le_of_ble_eq_true rfl⟩ ⟨rfl, rfl⟩
set_option maxHeartbeats 4000000 in
set_option maxRecDepth 100000 in
theorem g_cut_o (l : Launch) (E : jE) (A : Nat → Prop) {x0 x1 x2 x3 x4 x5 : Nat × va_E} {mo ou : Nat} {th re ak gv kn : Int32} {ro : Nat → Option Nat} {LL : List Nat} {ff : Nat → va_E} {i : Nat} (hi : i < 9) {ai n : Nat} {h : Nat → Int32} (hrai : ro i = some ai) (hmai : ai ∈ LL) (hfai : ff ai = .inl (E.2.1, n, .inl h)) (hnai : n ≤ 24) {y w : Int32} (hout : ¬ (¬ y.toInt64 < 0 ∧ ¬ w.toInt64 < y.toInt64 ∧ ¬ ((nI n).toInt64) < w.toInt64)) : jMet l yX5_cut cX5_cut 4 (some .int) 5 0 0 E A [.ref mo, .int (nI i), .int y, .int w] (mW E x0 x1 x2 x3 x4 x5 mo ou th re ak gv kn ro LL ff) (jR (some (.int (-9))) (mW E x0 x1 x2 x3 x4 x5 mo ou (nI 0) (re + nI 1) ak gv kn ro LL ff)) jNo := by
  refine jMet.intro' [(0, .ref mo), (1, .int (nI i)), (2, .int y), (3, .int w)] (by decide) (Nat.le_of_ble_eq_true rfl) rfl ?_
  intro p e R s m args below meth c Q C hQ
  refine j_aload_n C dX5_cut_0 rfl ?_
  refine j_iload_n C dX5_cut_1 rfl ?_
  refine j_callVr C 6 (v := .int (nI 0)) (w := (mW E x0 x1 x2 x3 x4 x5 mo ou (nI 0) re ak gv kn ro LL ff)) (m_isNone_k l E A (by omega) hrai hmai hfai (by omega)) ok_X5_isNone w_985 (by decide) rfl rfl (Nat.le_of_ble_eq_true rfl) rfl rfl ⟨Nat.le_of_ble_eq_true rfl, Nat.le_of_ble_eq_true rfl⟩ dX5_cut_2 ?_
  refine j_ifn_eq_t (tgt := 10) C dX5_cut_5 (by decide) (by omega) (by omega) ?_
  refine j_iload_n C dX5_cut_10 rfl ?_
  refine j_i2l (v := y.toInt64) C dX5_cut_11 rfl ?_
  refine j_iload_n C dX5_cut_12 rfl ?_
  refine j_i2l (v := w.toInt64) C dX5_cut_13 rfl ?_
  refine j_aload_n C dX5_cut_14 rfl ?_
  refine j_iload_n C dX5_cut_15 rfl ?_
  refine j_callVr C 6 (v := .int (nI n)) (w := (mW E x0 x1 x2 x3 x4 x5 mo ou (nI 0) re ak gv kn ro LL ff)) (m_many_k l E A (by omega) hrai hmai hfai (by omega)) ok_X5_many w_970 (by decide) rfl rfl (Nat.le_of_ble_eq_true rfl) rfl rfl ⟨Nat.le_of_ble_eq_true rfl, Nat.le_of_ble_eq_true rfl⟩ dX5_cut_16 ?_
  refine j_i2l (v := (nI n).toInt64) C dX5_cut_19 rfl ?_
  refine j_callSr C (v := .int (bI (¬ y.toInt64 < 0 ∧ ¬ w.toInt64 < y.toInt64 ∧ ¬ ((nI n).toInt64) < w.toInt64))) (w := (mW E x0 x1 x2 x3 x4 x5 mo ou (nI 0) re ak gv kn ro LL ff)) (m_isSpan l E A) ok_X5_isSpan w_989 (by decide) rfl rfl (Nat.le_of_ble_eq_true rfl) ⟨Nat.le_of_ble_eq_true rfl, Nat.le_of_ble_eq_true rfl⟩ dX5_cut_20 ?_
  refine j_ifb_ne_f (tgt := 31) C dX5_cut_23 (by decide) hout ?_
  refine j_aload_n C dX5_cut_26 rfl ?_
  refine j_callVr C 6 (v := .int (-9)) (w := (mW E x0 x1 x2 x3 x4 x5 mo ou (nI 0) (re + nI 1) ak gv kn ro LL ff)) (m_no l E A) ok_X5_no w_992 (by decide) rfl rfl (Nat.le_of_ble_eq_true rfl) rfl rfl ⟨Nat.le_of_ble_eq_true rfl, Nat.le_of_ble_eq_true rfl⟩ dX5_cut_27 ?_
  exact j_iret C hQ rfl dX5_cut_30 ⟨Nat.le_of_ble_eq_true rfl, Nat.le_of_ble_eq_true rfl⟩ ⟨rfl, rfl⟩
set_option maxHeartbeats 4000000 in
set_option maxRecDepth 100000 in
theorem g_cut_k (l : Launch) (E : jE) (A : Nat → Prop) {x0 x1 x2 x3 x4 x5 : Nat × va_E} {mo ou : Nat} {th re ak gv kn : Int32} {ro : Nat → Option Nat} {LL : List Nat} {ff : Nat → va_E} {i : Nat} (hi : i < 9) {ai n : Nat} {h : Nat → Int32} (hrai : ro i = some ai) (hmai : ai ∈ LL) (hfai : ff ai = .inl (E.2.1, n, .inl h)) (hnai : n ≤ 24) {a v : Nat} (hav : a ≤ v) (hvn : v ≤ n)  : jMet l yX5_cut cX5_cut 4 (some .int) 5 1 24 E A [.ref mo, .int (nI i), .int (nI a), .int (nI v)] (mW E x0 x1 x2 x3 x4 x5 mo ou th re ak gv kn ro LL ff) (fun vv ww => ∃ q : Nat, q ∉ LL ∧ vv = some (.int (nI (v - a))) ∧ ww = (mW E x0 x1 x2 x3 x4 x5 mo ou (nI 0) re ak gv kn (va_up ro i (some q)) (LL ++ [q]) (va_up ff q (.inl (E.2.1, v - a, .inl (pfx (fun q => h (a + q)) (v - a))))))) jNo := by
  refine jMet.intro' [(0, .ref mo), (1, .int (nI i)), (2, .int (nI a)), (3, .int (nI v))] (by decide) (Nat.le_of_ble_eq_true rfl) rfl ?_
  intro p e R s m args below meth c Q C hQ
  refine j_aload_n C dX5_cut_0 rfl ?_
  refine j_iload_n C dX5_cut_1 rfl ?_
  refine j_callVr C 6 (v := .int (nI 0)) (w := (mW E x0 x1 x2 x3 x4 x5 mo ou (nI 0) re ak gv kn ro LL ff)) (m_isNone_k l E A (by omega) hrai hmai hfai (by omega)) ok_X5_isNone w_985 (by decide) rfl rfl (Nat.le_of_ble_eq_true rfl) rfl rfl ⟨Nat.le_of_ble_eq_true rfl, Nat.le_of_ble_eq_true rfl⟩ dX5_cut_2 ?_
  refine j_ifn_eq_t (tgt := 10) C dX5_cut_5 (by decide) (by omega) (by omega) ?_
  refine j_iload_n C dX5_cut_10 rfl ?_
  refine j_i2l (v := (nI a).toInt64) C dX5_cut_11 rfl ?_
  refine j_iload_n C dX5_cut_12 rfl ?_
  refine j_i2l (v := (nI v).toInt64) C dX5_cut_13 rfl ?_
  refine j_aload_n C dX5_cut_14 rfl ?_
  refine j_iload_n C dX5_cut_15 rfl ?_
  refine j_callVr C 6 (v := .int (nI n)) (w := (mW E x0 x1 x2 x3 x4 x5 mo ou (nI 0) re ak gv kn ro LL ff)) (m_many_k l E A (by omega) hrai hmai hfai (by omega)) ok_X5_many w_970 (by decide) rfl rfl (Nat.le_of_ble_eq_true rfl) rfl rfl ⟨Nat.le_of_ble_eq_true rfl, Nat.le_of_ble_eq_true rfl⟩ dX5_cut_16 ?_
  refine j_i2l (v := (nI n).toInt64) C dX5_cut_19 rfl ?_
  refine j_callSr C (v := .int (bI (¬ ((nI a).toInt64) < 0 ∧ ¬ ((nI v).toInt64) < ((nI a).toInt64) ∧ ¬ ((nI n).toInt64) < ((nI v).toInt64)))) (w := (mW E x0 x1 x2 x3 x4 x5 mo ou (nI 0) re ak gv kn ro LL ff)) (m_isSpan l E A) ok_X5_isSpan w_989 (by decide) rfl rfl (Nat.le_of_ble_eq_true rfl) ⟨Nat.le_of_ble_eq_true rfl, Nat.le_of_ble_eq_true rfl⟩ dX5_cut_20 ?_
  refine j_ifb_ne_t (tgt := 31) C dX5_cut_23 (by decide) (span_of hav hvn hnai) ?_
  refine j_aload_n C dX5_cut_31 rfl ?_
  refine j_get C 6 rfl inj_X5 rfl 1 (by decide) w_922 rfl dX5_cut_32 ?_
  refine j_iload_n C dX5_cut_35 rfl ?_
  refine j_aload_n C dX5_cut_36 rfl ?_
  refine j_get C 6 rfl inj_X5 rfl 1 (by decide) w_922 rfl dX5_cut_37 ?_
  refine j_iload_n C dX5_cut_40 rfl ?_
  refine j_aaload (v := .ref ai) C 7 i rfl rfl (by omega) (by decide) (by rw [show ro i = some ai from hrai]; rfl) dX5_cut_41 ?_
  refine j_iload_n C dX5_cut_42 rfl ?_
  refine j_iload_n C dX5_cut_43 rfl ?_
  refine j_callSf C (n := v - a) (h := pfx (fun q => h (a + q)) (v - a)) (m_part l E A hmai hfai (by omega) (by omega) (by omega)) ok_X5_part w_996 (by decide) rfl rfl (Nat.le_of_ble_eq_true rfl) ⟨Nat.le_of_ble_eq_true rfl, Nat.le_of_ble_eq_true rfl⟩ dX5_cut_44 (fun q1 hq1 => ?_)
  refine j_aastoreP (ws' := (mW E x0 x1 x2 x3 x4 x5 mo ou (nI 0) re ak gv kn (va_up ro i (some q1)) (LL ++ [q1]) (va_up ff q1 (.inl (E.2.1, v - a, .inl (pfx (fun q => h (a + q)) (v - a))))))) C 7 i rfl pool_newm pool_new rfl (by omega) (by decide) dX5_cut_47 rfl ?_
  refine j_aload_n C dX5_cut_48 rfl ?_
  refine j_iload_n C dX5_cut_49 rfl ?_
  refine j_callVr C 6 (v := .int (nI (v - a))) (w := (mW E x0 x1 x2 x3 x4 x5 mo ou (nI 0) re ak gv kn (va_up ro i (some q1)) (LL ++ [q1]) (va_up ff q1 (.inl (E.2.1, v - a, .inl (pfx (fun q => h (a + q)) (v - a))))))) (m_many_k l E A (by omega) (if_pos rfl) pool_newm pool_new (by omega)) ok_X5_many w_970 (by decide) rfl rfl (Nat.le_of_ble_eq_true rfl) rfl rfl ⟨Nat.le_of_ble_eq_true rfl, Nat.le_of_ble_eq_true rfl⟩ dX5_cut_50 ?_
  exact j_iret C hQ rfl dX5_cut_53 ⟨Nat.le_of_ble_eq_true rfl, Nat.le_of_ble_eq_true rfl⟩ ⟨q1, hq1, rfl, rfl⟩
set_option maxHeartbeats 4000000 in
set_option maxRecDepth 100000 in
theorem g_take_m (l : Launch) (E : jE) (A : Nat → Prop) {x0 x1 x2 x3 x4 x5 : Nat × va_E} {mo ou : Nat} {th re ak gv kn : Int32} {ro : Nat → Option Nat} {LL : List Nat} {ff : Nat → va_E} {i : Nat} (hi : i < 9) (hri : ro i = none) {y w : Int32}  : jMet l yX5_take cX5_take 4 (some .int) 5 0 0 E A [.ref mo, .int (nI i), .int y, .int w] (mW E x0 x1 x2 x3 x4 x5 mo ou th re ak gv kn ro LL ff) (jR (some (.int (nI 0))) (mW E x0 x1 x2 x3 x4 x5 mo ou (nI 2) re ak gv kn ro LL ff)) jNo := by
  refine jMet.intro' [(0, .ref mo), (1, .int (nI i)), (2, .int y), (3, .int w)] (by decide) (Nat.le_of_ble_eq_true rfl) rfl ?_
  intro p e R s m args below meth c Q C hQ
  refine j_aload_n C dX5_take_0 rfl ?_
  refine j_iload_n C dX5_take_1 rfl ?_
  refine j_callVr C 6 (v := .int (nI 1)) (w := (mW E x0 x1 x2 x3 x4 x5 mo ou (nI 2) re ak gv kn ro LL ff)) (m_isNone_m l E A (by omega) hri) ok_X5_isNone w_985 (by decide) rfl rfl (Nat.le_of_ble_eq_true rfl) rfl rfl ⟨Nat.le_of_ble_eq_true rfl, Nat.le_of_ble_eq_true rfl⟩ dX5_take_2 ?_
  refine j_ifn_eq_f (tgt := 10) C dX5_take_5 (by decide) (by omega) (by omega) ?_
  refine j_iconst (v := (nI 0)) C dX5_take_8 rfl ?_
  exact j_iret C hQ rfl dX5_take_9 ⟨Nat.le_of_ble_eq_true rfl, Nat.le_of_ble_eq_true rfl⟩ ⟨rfl, rfl⟩
set_option maxHeartbeats 4000000 in
set_option maxRecDepth 100000 in
theorem g_take_o (l : Launch) (E : jE) (A : Nat → Prop) {x0 x1 x2 x3 x4 x5 : Nat × va_E} {mo ou : Nat} {th re ak gv kn : Int32} {ro : Nat → Option Nat} {LL : List Nat} {ff : Nat → va_E} {i : Nat} (hi : i < 9) {ai n : Nat} {h : Nat → Int32} (hrai : ro i = some ai) (hmai : ai ∈ LL) (hfai : ff ai = .inl (E.2.1, n, .inl h)) (hnai : n ≤ 24) {y w : Int32} (hout : ¬ (¬ y.toInt64 < 0 ∧ ¬ w.toInt64 < 0 ∧ ¬ ((nI n).toInt64) < 0 ∧ ¬ ((nI n).toInt64) < y.toInt64 + w.toInt64)) : jMet l yX5_take cX5_take 4 (some .int) 5 0 0 E A [.ref mo, .int (nI i), .int y, .int w] (mW E x0 x1 x2 x3 x4 x5 mo ou th re ak gv kn ro LL ff) (jR (some (.int (-9))) (mW E x0 x1 x2 x3 x4 x5 mo ou (nI 0) (re + nI 1) ak gv kn ro LL ff)) jNo := by
  refine jMet.intro' [(0, .ref mo), (1, .int (nI i)), (2, .int y), (3, .int w)] (by decide) (Nat.le_of_ble_eq_true rfl) rfl ?_
  intro p e R s m args below meth c Q C hQ
  refine j_aload_n C dX5_take_0 rfl ?_
  refine j_iload_n C dX5_take_1 rfl ?_
  refine j_callVr C 6 (v := .int (nI 0)) (w := (mW E x0 x1 x2 x3 x4 x5 mo ou (nI 0) re ak gv kn ro LL ff)) (m_isNone_k l E A (by omega) hrai hmai hfai (by omega)) ok_X5_isNone w_985 (by decide) rfl rfl (Nat.le_of_ble_eq_true rfl) rfl rfl ⟨Nat.le_of_ble_eq_true rfl, Nat.le_of_ble_eq_true rfl⟩ dX5_take_2 ?_
  refine j_ifn_eq_t (tgt := 10) C dX5_take_5 (by decide) (by omega) (by omega) ?_
  refine j_iload_n C dX5_take_10 rfl ?_
  refine j_i2l (v := y.toInt64) C dX5_take_11 rfl ?_
  refine j_iload_n C dX5_take_12 rfl ?_
  refine j_i2l (v := w.toInt64) C dX5_take_13 rfl ?_
  refine j_aload_n C dX5_take_14 rfl ?_
  refine j_iload_n C dX5_take_15 rfl ?_
  refine j_callVr C 6 (v := .int (nI n)) (w := (mW E x0 x1 x2 x3 x4 x5 mo ou (nI 0) re ak gv kn ro LL ff)) (m_many_k l E A (by omega) hrai hmai hfai (by omega)) ok_X5_many w_970 (by decide) rfl rfl (Nat.le_of_ble_eq_true rfl) rfl rfl ⟨Nat.le_of_ble_eq_true rfl, Nat.le_of_ble_eq_true rfl⟩ dX5_take_16 ?_
  refine j_i2l (v := (nI n).toInt64) C dX5_take_19 rfl ?_
  refine j_callSr C (v := .int (bI (¬ y.toInt64 < 0 ∧ ¬ w.toInt64 < 0 ∧ ¬ ((nI n).toInt64) < 0 ∧ ¬ ((nI n).toInt64) < y.toInt64 + w.toInt64))) (w := (mW E x0 x1 x2 x3 x4 x5 mo ou (nI 0) re ak gv kn ro LL ff)) (m_isStretch l E A) ok_X5_isStretch w_1003 (by decide) rfl rfl (Nat.le_of_ble_eq_true rfl) ⟨Nat.le_of_ble_eq_true rfl, Nat.le_of_ble_eq_true rfl⟩ dX5_take_20 ?_
  refine j_ifb_ne_f (tgt := 31) C dX5_take_23 (by decide) hout ?_
  refine j_aload_n C dX5_take_26 rfl ?_
  refine j_callVr C 6 (v := .int (-9)) (w := (mW E x0 x1 x2 x3 x4 x5 mo ou (nI 0) (re + nI 1) ak gv kn ro LL ff)) (m_no l E A) ok_X5_no w_992 (by decide) rfl rfl (Nat.le_of_ble_eq_true rfl) rfl rfl ⟨Nat.le_of_ble_eq_true rfl, Nat.le_of_ble_eq_true rfl⟩ dX5_take_27 ?_
  exact j_iret C hQ rfl dX5_take_30 ⟨Nat.le_of_ble_eq_true rfl, Nat.le_of_ble_eq_true rfl⟩ ⟨rfl, rfl⟩
set_option maxHeartbeats 4000000 in
set_option maxRecDepth 100000 in
theorem g_take_k (l : Launch) (E : jE) (A : Nat → Prop) {x0 x1 x2 x3 x4 x5 : Nat × va_E} {mo ou : Nat} {th re ak gv kn : Int32} {ro : Nat → Option Nat} {LL : List Nat} {ff : Nat → va_E} {i : Nat} (hi : i < 9) {ai n : Nat} {h : Nat → Int32} (hrai : ro i = some ai) (hmai : ai ∈ LL) (hfai : ff ai = .inl (E.2.1, n, .inl h)) (hnai : n ≤ 24) {a v : Nat} (hav : a + v ≤ n)  : jMet l yX5_take cX5_take 4 (some .int) 5 1 24 E A [.ref mo, .int (nI i), .int (nI a), .int (nI v)] (mW E x0 x1 x2 x3 x4 x5 mo ou th re ak gv kn ro LL ff) (fun vv ww => ∃ q : Nat, q ∉ LL ∧ vv = some (.int (nI ((a + v) - a))) ∧ ww = (mW E x0 x1 x2 x3 x4 x5 mo ou (nI 0) re ak gv kn (va_up ro i (some q)) (LL ++ [q]) (va_up ff q (.inl (E.2.1, (a + v) - a, .inl (pfx (fun q => h (a + q)) ((a + v) - a))))))) jNo := by
  refine jMet.intro' [(0, .ref mo), (1, .int (nI i)), (2, .int (nI a)), (3, .int (nI v))] (by decide) (Nat.le_of_ble_eq_true rfl) rfl ?_
  intro p e R s m args below meth c Q C hQ
  refine j_aload_n C dX5_take_0 rfl ?_
  refine j_iload_n C dX5_take_1 rfl ?_
  refine j_callVr C 6 (v := .int (nI 0)) (w := (mW E x0 x1 x2 x3 x4 x5 mo ou (nI 0) re ak gv kn ro LL ff)) (m_isNone_k l E A (by omega) hrai hmai hfai (by omega)) ok_X5_isNone w_985 (by decide) rfl rfl (Nat.le_of_ble_eq_true rfl) rfl rfl ⟨Nat.le_of_ble_eq_true rfl, Nat.le_of_ble_eq_true rfl⟩ dX5_take_2 ?_
  refine j_ifn_eq_t (tgt := 10) C dX5_take_5 (by decide) (by omega) (by omega) ?_
  refine j_iload_n C dX5_take_10 rfl ?_
  refine j_i2l (v := (nI a).toInt64) C dX5_take_11 rfl ?_
  refine j_iload_n C dX5_take_12 rfl ?_
  refine j_i2l (v := (nI v).toInt64) C dX5_take_13 rfl ?_
  refine j_aload_n C dX5_take_14 rfl ?_
  refine j_iload_n C dX5_take_15 rfl ?_
  refine j_callVr C 6 (v := .int (nI n)) (w := (mW E x0 x1 x2 x3 x4 x5 mo ou (nI 0) re ak gv kn ro LL ff)) (m_many_k l E A (by omega) hrai hmai hfai (by omega)) ok_X5_many w_970 (by decide) rfl rfl (Nat.le_of_ble_eq_true rfl) rfl rfl ⟨Nat.le_of_ble_eq_true rfl, Nat.le_of_ble_eq_true rfl⟩ dX5_take_16 ?_
  refine j_i2l (v := (nI n).toInt64) C dX5_take_19 rfl ?_
  refine j_callSr C (v := .int (bI (¬ ((nI a).toInt64) < 0 ∧ ¬ ((nI v).toInt64) < 0 ∧ ¬ ((nI n).toInt64) < 0 ∧ ¬ ((nI n).toInt64) < ((nI a).toInt64) + ((nI v).toInt64)))) (w := (mW E x0 x1 x2 x3 x4 x5 mo ou (nI 0) re ak gv kn ro LL ff)) (m_isStretch l E A) ok_X5_isStretch w_1003 (by decide) rfl rfl (Nat.le_of_ble_eq_true rfl) ⟨Nat.le_of_ble_eq_true rfl, Nat.le_of_ble_eq_true rfl⟩ dX5_take_20 ?_
  refine j_ifb_ne_t (tgt := 31) C dX5_take_23 (by decide) (streM_of hav hnai) ?_
  refine j_aload_n C dX5_take_31 rfl ?_
  refine j_get C 6 rfl inj_X5 rfl 1 (by decide) w_922 rfl dX5_take_32 ?_
  refine j_iload_n C dX5_take_35 rfl ?_
  refine j_aload_n C dX5_take_36 rfl ?_
  refine j_get C 6 rfl inj_X5 rfl 1 (by decide) w_922 rfl dX5_take_37 ?_
  refine j_iload_n C dX5_take_40 rfl ?_
  refine j_aaload (v := .ref ai) C 7 i rfl rfl (by omega) (by decide) (by rw [show ro i = some ai from hrai]; rfl) dX5_take_41 ?_
  refine j_iload_n C dX5_take_42 rfl ?_
  refine j_iload_n C dX5_take_43 rfl ?_
  refine j_iload_n C dX5_take_44 rfl ?_
  refine j_iadd (z := (nI (a + v))) C dX5_take_45 (nI_add _ _) ?_
  refine j_callSf C (n := (a + v) - a) (h := pfx (fun q => h (a + q)) ((a + v) - a)) (m_part l E A hmai hfai (by omega) (by omega) (by omega)) ok_X5_part w_996 (by decide) rfl rfl (Nat.le_of_ble_eq_true rfl) ⟨Nat.le_of_ble_eq_true rfl, Nat.le_of_ble_eq_true rfl⟩ dX5_take_46 (fun q1 hq1 => ?_)
  refine j_aastoreP (ws' := (mW E x0 x1 x2 x3 x4 x5 mo ou (nI 0) re ak gv kn (va_up ro i (some q1)) (LL ++ [q1]) (va_up ff q1 (.inl (E.2.1, (a + v) - a, .inl (pfx (fun q => h (a + q)) ((a + v) - a))))))) C 7 i rfl pool_newm pool_new rfl (by omega) (by decide) dX5_take_49 rfl ?_
  refine j_aload_n C dX5_take_50 rfl ?_
  refine j_iload_n C dX5_take_51 rfl ?_
  refine j_callVr C 6 (v := .int (nI ((a + v) - a))) (w := (mW E x0 x1 x2 x3 x4 x5 mo ou (nI 0) re ak gv kn (va_up ro i (some q1)) (LL ++ [q1]) (va_up ff q1 (.inl (E.2.1, (a + v) - a, .inl (pfx (fun q => h (a + q)) ((a + v) - a))))))) (m_many_k l E A (by omega) (if_pos rfl) pool_newm pool_new (by omega)) ok_X5_many w_970 (by decide) rfl rfl (Nat.le_of_ble_eq_true rfl) rfl rfl ⟨Nat.le_of_ble_eq_true rfl, Nat.le_of_ble_eq_true rfl⟩ dX5_take_52 ?_
  exact j_iret C hQ rfl dX5_take_55 ⟨Nat.le_of_ble_eq_true rfl, Nat.le_of_ble_eq_true rfl⟩ ⟨q1, hq1, rfl, rfl⟩
set_option maxHeartbeats 4000000 in
set_option maxRecDepth 100000 in
theorem g_put_a (l : Launch) (E : jE) (A : Nat → Prop) {x0 x1 x2 x3 x4 x5 : Nat × va_E} {mo ou : Nat} {th re ak gv kn : Int32} {ro : Nat → Option Nat} {LL : List Nat} {ff : Nat → va_E} {i : Nat} (hi : i < 9) {y w : Int32} (hbw : w < 0 ∨ nI 10 ≤ w)  : jMet l yX5_put cX5_put 5 (some .int) 5 0 0 E A [.ref mo, .int (nI i), .int y, .int w] (mW E x0 x1 x2 x3 x4 x5 mo ou th re ak gv kn ro LL ff) (jR (some (.int (nI 0))) (mW E x0 x1 x2 x3 x4 x5 mo ou (nI 2) re ak gv kn ro LL ff)) jNo := by
  refine jMet.intro' [(0, .ref mo), (1, .int (nI i)), (2, .int y), (3, .int w)] (by decide) (Nat.le_of_ble_eq_true rfl) rfl ?_
  intro p e R s m args below meth c Q C hQ
  refine j_aload_n C dX5_put_0 rfl ?_
  refine j_iload_n C dX5_put_1 rfl ?_
  refine j_callSr C (v := .int (nI 0)) (w := (mW E x0 x1 x2 x3 x4 x5 mo ou th re ak gv kn ro LL ff)) (m_isNo_0 l E A (by omega)) ok_X5_isNo w_959 (by decide) rfl rfl (Nat.le_of_ble_eq_true rfl) ⟨Nat.le_of_ble_eq_true rfl, Nat.le_of_ble_eq_true rfl⟩ dX5_put_2 ?_
  refine j_iconst (v := (nI 1)) C dX5_put_5 rfl ?_
  refine j_callVr C 6 (v := .int (nI 0)) (w := (mW E x0 x1 x2 x3 x4 x5 mo ou (nI 0) re ak gv kn ro LL ff)) (m_start_0 l E A) ok_X5_start w_962 (by decide) rfl rfl (Nat.le_of_ble_eq_true rfl) rfl rfl ⟨Nat.le_of_ble_eq_true rfl, Nat.le_of_ble_eq_true rfl⟩ dX5_put_6 ?_
  refine j_ifn_ne_f (tgt := 54) C dX5_put_9 (by decide) (by omega) (by omega) ?_
  refine j_aload_n C dX5_put_12 rfl ?_
  refine j_iload_n C dX5_put_13 rfl ?_
  refine j_callSr C (v := .int (nI 0)) (w := (mW E x0 x1 x2 x3 x4 x5 mo ou (nI 0) re ak gv kn ro LL ff)) (m_isSign_0 l E A hbw) ok_X5_isSign w_948 (by decide) rfl rfl (Nat.le_of_ble_eq_true rfl) ⟨Nat.le_of_ble_eq_true rfl, Nat.le_of_ble_eq_true rfl⟩ dX5_put_14 ?_
  refine j_ifn_ne_f (tgt := 24) C dX5_put_17 (by decide) (by omega) (by omega) ?_
  refine j_iconst (v := (nI 1)) C dX5_put_20 rfl ?_
  refine j_goto (tgt := 25) C dX5_put_21 (by decide) ?_
  refine j_iconst (v := (nI 2)) C dX5_put_25 rfl ?_
  refine j_callVr C 6 (v := .int (nI 1)) (w := (mW E x0 x1 x2 x3 x4 x5 mo ou (nI 2) re ak gv kn ro LL ff)) (m_refuse_1 l E A (by decide) (by decide)) ok_X5_refuse w_966 (by decide) rfl rfl (Nat.le_of_ble_eq_true rfl) rfl rfl ⟨Nat.le_of_ble_eq_true rfl, Nat.le_of_ble_eq_true rfl⟩ dX5_put_26 ?_
  refine j_ifn_ne_t (tgt := 54) C dX5_put_29 (by decide) (by omega) (by omega) ?_
  refine j_iconst (v := (nI 0)) C dX5_put_54 rfl ?_
  exact j_iret C hQ rfl dX5_put_55 ⟨Nat.le_of_ble_eq_true rfl, Nat.le_of_ble_eq_true rfl⟩ ⟨rfl, rfl⟩
set_option maxHeartbeats 4000000 in
set_option maxRecDepth 100000 in
theorem g_put_m (l : Launch) (E : jE) (A : Nat → Prop) {x0 x1 x2 x3 x4 x5 : Nat × va_E} {mo ou : Nat} {th re ak gv kn : Int32} {ro : Nat → Option Nat} {LL : List Nat} {ff : Nat → va_E} {i : Nat} (hi : i < 9) (hri : ro i = none) {y : Int32} {w : Nat} (hw : w < 10)  : jMet l yX5_put cX5_put 5 (some .int) 5 0 0 E A [.ref mo, .int (nI i), .int y, .int (nI w)] (mW E x0 x1 x2 x3 x4 x5 mo ou th re ak gv kn ro LL ff) (jR (some (.int (nI 0))) (mW E x0 x1 x2 x3 x4 x5 mo ou (nI 3) re ak gv kn ro LL ff)) jNo := by
  refine jMet.intro' [(0, .ref mo), (1, .int (nI i)), (2, .int y), (3, .int (nI w))] (by decide) (Nat.le_of_ble_eq_true rfl) rfl ?_
  intro p e R s m args below meth c Q C hQ
  refine j_aload_n C dX5_put_0 rfl ?_
  refine j_iload_n C dX5_put_1 rfl ?_
  refine j_callSr C (v := .int (nI 0)) (w := (mW E x0 x1 x2 x3 x4 x5 mo ou th re ak gv kn ro LL ff)) (m_isNo_0 l E A (by omega)) ok_X5_isNo w_959 (by decide) rfl rfl (Nat.le_of_ble_eq_true rfl) ⟨Nat.le_of_ble_eq_true rfl, Nat.le_of_ble_eq_true rfl⟩ dX5_put_2 ?_
  refine j_iconst (v := (nI 1)) C dX5_put_5 rfl ?_
  refine j_callVr C 6 (v := .int (nI 0)) (w := (mW E x0 x1 x2 x3 x4 x5 mo ou (nI 0) re ak gv kn ro LL ff)) (m_start_0 l E A) ok_X5_start w_962 (by decide) rfl rfl (Nat.le_of_ble_eq_true rfl) rfl rfl ⟨Nat.le_of_ble_eq_true rfl, Nat.le_of_ble_eq_true rfl⟩ dX5_put_6 ?_
  refine j_ifn_ne_f (tgt := 54) C dX5_put_9 (by decide) (by omega) (by omega) ?_
  refine j_aload_n C dX5_put_12 rfl ?_
  refine j_iload_n C dX5_put_13 rfl ?_
  refine j_callSr C (v := .int (nI 1)) (w := (mW E x0 x1 x2 x3 x4 x5 mo ou (nI 0) re ak gv kn ro LL ff)) (m_isSign_1 l E A ⟨_, by omega, rfl⟩) ok_X5_isSign w_948 (by decide) rfl rfl (Nat.le_of_ble_eq_true rfl) ⟨Nat.le_of_ble_eq_true rfl, Nat.le_of_ble_eq_true rfl⟩ dX5_put_14 ?_
  refine j_ifn_ne_t (tgt := 24) C dX5_put_17 (by decide) (by omega) (by omega) ?_
  refine j_iconst (v := (nI 0)) C dX5_put_24 rfl ?_
  refine j_iconst (v := (nI 2)) C dX5_put_25 rfl ?_
  refine j_callVr C 6 (v := .int (nI 0)) (w := (mW E x0 x1 x2 x3 x4 x5 mo ou (nI 0) re ak gv kn ro LL ff)) (m_refuse_0 l E A) ok_X5_refuse w_966 (by decide) rfl rfl (Nat.le_of_ble_eq_true rfl) rfl rfl ⟨Nat.le_of_ble_eq_true rfl, Nat.le_of_ble_eq_true rfl⟩ dX5_put_26 ?_
  refine j_ifn_ne_f (tgt := 54) C dX5_put_29 (by decide) (by omega) (by omega) ?_
  refine j_aload_n C dX5_put_32 rfl ?_
  refine j_aload_n C dX5_put_33 rfl ?_
  refine j_get C 6 rfl inj_X5 rfl 1 (by decide) w_922 rfl dX5_put_34 ?_
  refine j_iload_n C dX5_put_37 rfl ?_
  refine j_aaload (v := .null) C 7 i rfl rfl (by omega) (by decide) (by rw [show ro i = none from hri]; rfl) dX5_put_38 ?_
  refine j_ifnonnull_f C dX5_put_39 ?_
  refine j_iconst (v := (nI 1)) C dX5_put_42 rfl ?_
  refine j_goto (tgt := 47) C dX5_put_43 (by decide) ?_
  refine j_iconst (v := (nI 3)) C dX5_put_47 rfl ?_
  refine j_callVr C 6 (v := .int (nI 1)) (w := (mW E x0 x1 x2 x3 x4 x5 mo ou (nI 3) re ak gv kn ro LL ff)) (m_refuse_1 l E A (by decide) (by decide)) ok_X5_refuse w_966 (by decide) rfl rfl (Nat.le_of_ble_eq_true rfl) rfl rfl ⟨Nat.le_of_ble_eq_true rfl, Nat.le_of_ble_eq_true rfl⟩ dX5_put_48 ?_
  refine j_ifn_eq_f (tgt := 56) C dX5_put_51 (by decide) (by omega) (by omega) ?_
  refine j_iconst (v := (nI 0)) C dX5_put_54 rfl ?_
  exact j_iret C hQ rfl dX5_put_55 ⟨Nat.le_of_ble_eq_true rfl, Nat.le_of_ble_eq_true rfl⟩ ⟨rfl, rfl⟩
set_option maxHeartbeats 4000000 in
set_option maxRecDepth 100000 in
theorem g_put_k (l : Launch) (E : jE) (A : Nat → Prop) {x0 x1 x2 x3 x4 x5 : Nat × va_E} {mo ou : Nat} {th re ak gv kn : Int32} {ro : Nat → Option Nat} {LL : List Nat} {ff : Nat → va_E} {i : Nat} (hi : i < 9) {ai n : Nat} {h : Nat → Int32} (hrai : ro i = some ai) (hmai : ai ∈ LL) (hfai : ff ai = .inl (E.2.1, n, .inl h)) (hnai : n ≤ 24) {y w : Nat} (hw : w < 10) (hy : y < n)  : jMet l yX5_put cX5_put 5 (some .int) 5 0 0 E A [.ref mo, .int (nI i), .int (nI y), .int (nI w)] (mW E x0 x1 x2 x3 x4 x5 mo ou th re ak gv kn ro LL ff) (jR (some (.int (h y))) (mW E x0 x1 x2 x3 x4 x5 mo ou (nI 0) re ak gv kn ro LL (va_up ff ai (.inl (E.2.1, n, .inl (upd h y (nI w))))))) jNo := by
  refine jMet.intro' [(0, .ref mo), (1, .int (nI i)), (2, .int (nI y)), (3, .int (nI w))] (by decide) (Nat.le_of_ble_eq_true rfl) rfl ?_
  intro p e R s m args below meth c Q C hQ
  refine j_aload_n C dX5_put_0 rfl ?_
  refine j_iload_n C dX5_put_1 rfl ?_
  refine j_callSr C (v := .int (nI 0)) (w := (mW E x0 x1 x2 x3 x4 x5 mo ou th re ak gv kn ro LL ff)) (m_isNo_0 l E A (by omega)) ok_X5_isNo w_959 (by decide) rfl rfl (Nat.le_of_ble_eq_true rfl) ⟨Nat.le_of_ble_eq_true rfl, Nat.le_of_ble_eq_true rfl⟩ dX5_put_2 ?_
  refine j_iconst (v := (nI 1)) C dX5_put_5 rfl ?_
  refine j_callVr C 6 (v := .int (nI 0)) (w := (mW E x0 x1 x2 x3 x4 x5 mo ou (nI 0) re ak gv kn ro LL ff)) (m_start_0 l E A) ok_X5_start w_962 (by decide) rfl rfl (Nat.le_of_ble_eq_true rfl) rfl rfl ⟨Nat.le_of_ble_eq_true rfl, Nat.le_of_ble_eq_true rfl⟩ dX5_put_6 ?_
  refine j_ifn_ne_f (tgt := 54) C dX5_put_9 (by decide) (by omega) (by omega) ?_
  refine j_aload_n C dX5_put_12 rfl ?_
  refine j_iload_n C dX5_put_13 rfl ?_
  refine j_callSr C (v := .int (nI 1)) (w := (mW E x0 x1 x2 x3 x4 x5 mo ou (nI 0) re ak gv kn ro LL ff)) (m_isSign_1 l E A ⟨_, by omega, rfl⟩) ok_X5_isSign w_948 (by decide) rfl rfl (Nat.le_of_ble_eq_true rfl) ⟨Nat.le_of_ble_eq_true rfl, Nat.le_of_ble_eq_true rfl⟩ dX5_put_14 ?_
  refine j_ifn_ne_t (tgt := 24) C dX5_put_17 (by decide) (by omega) (by omega) ?_
  refine j_iconst (v := (nI 0)) C dX5_put_24 rfl ?_
  refine j_iconst (v := (nI 2)) C dX5_put_25 rfl ?_
  refine j_callVr C 6 (v := .int (nI 0)) (w := (mW E x0 x1 x2 x3 x4 x5 mo ou (nI 0) re ak gv kn ro LL ff)) (m_refuse_0 l E A) ok_X5_refuse w_966 (by decide) rfl rfl (Nat.le_of_ble_eq_true rfl) rfl rfl ⟨Nat.le_of_ble_eq_true rfl, Nat.le_of_ble_eq_true rfl⟩ dX5_put_26 ?_
  refine j_ifn_ne_f (tgt := 54) C dX5_put_29 (by decide) (by omega) (by omega) ?_
  refine j_aload_n C dX5_put_32 rfl ?_
  refine j_aload_n C dX5_put_33 rfl ?_
  refine j_get C 6 rfl inj_X5 rfl 1 (by decide) w_922 rfl dX5_put_34 ?_
  refine j_iload_n C dX5_put_37 rfl ?_
  refine j_aaload (v := .ref ai) C 7 i rfl rfl (by omega) (by decide) (by rw [show ro i = some ai from hrai]; rfl) dX5_put_38 ?_
  refine j_ifnonnull_t (tgt := 46) C dX5_put_39 (by decide) ?_
  refine j_iconst (v := (nI 0)) C dX5_put_46 rfl ?_
  refine j_iconst (v := (nI 3)) C dX5_put_47 rfl ?_
  refine j_callVr C 6 (v := .int (nI 0)) (w := (mW E x0 x1 x2 x3 x4 x5 mo ou (nI 0) re ak gv kn ro LL ff)) (m_refuse_0 l E A) ok_X5_refuse w_966 (by decide) rfl rfl (Nat.le_of_ble_eq_true rfl) rfl rfl ⟨Nat.le_of_ble_eq_true rfl, Nat.le_of_ble_eq_true rfl⟩ dX5_put_48 ?_
  refine j_ifn_eq_t (tgt := 56) C dX5_put_51 (by decide) (by omega) (by omega) ?_
  refine j_iload_n C dX5_put_56 rfl ?_
  refine j_iconst (v := (nI 0)) C dX5_put_57 rfl ?_
  refine j_aload_n C dX5_put_58 rfl ?_
  refine j_iload_n C dX5_put_59 rfl ?_
  refine j_callVr C 6 (v := .int (nI n)) (w := (mW E x0 x1 x2 x3 x4 x5 mo ou (nI 0) re ak gv kn ro LL ff)) (m_many_k l E A (by omega) hrai hmai hfai (by omega)) ok_X5_many w_970 (by decide) rfl rfl (Nat.le_of_ble_eq_true rfl) rfl rfl ⟨Nat.le_of_ble_eq_true rfl, Nat.le_of_ble_eq_true rfl⟩ dX5_put_60 ?_
  refine j_iconst (v := (nI 1)) C dX5_put_63 rfl ?_
  refine j_isub (z := (nI (n - 1))) C dX5_put_64 (pk_sub (by omega)) ?_
  refine j_callSr C (v := .int (bI (¬ (nI y) < (nI 0) ∧ ¬ (nI (n - 1)) < (nI y)))) (w := (mW E x0 x1 x2 x3 x4 x5 mo ou (nI 0) re ak gv kn ro LL ff)) (m_isIn l E A) ok_X5_isIn w_953 (by decide) rfl rfl (Nat.le_of_ble_eq_true rfl) ⟨Nat.le_of_ble_eq_true rfl, Nat.le_of_ble_eq_true rfl⟩ dX5_put_65 ?_
  refine j_ifb_ne_t (tgt := 76) C dX5_put_68 (by decide) (in_t (by omega) (by omega) (by omega)) ?_
  refine j_aload_n C dX5_put_76 rfl ?_
  refine j_get C 6 rfl inj_X5 rfl 1 (by decide) w_922 rfl dX5_put_77 ?_
  refine j_iload_n C dX5_put_80 rfl ?_
  refine j_aaload (v := .ref ai) C 7 i rfl rfl (by omega) (by decide) (by rw [show ro i = some ai from hrai]; rfl) dX5_put_81 ?_
  refine j_iload_n C dX5_put_82 rfl ?_
  refine j_ialoadP (z := (h y)) C y hmai hfai rfl (by omega) (by omega) rfl dX5_put_83 ?_
  refine j_istore (lv' := [(4, .int (h y)), (0, .ref mo), (1, .int (nI i)), (2, .int (nI y)), (3, .int (nI w))]) C dX5_put_84 (by decide) rfl ?_
  refine j_aload_n C dX5_put_86 rfl ?_
  refine j_get C 6 rfl inj_X5 rfl 1 (by decide) w_922 rfl dX5_put_87 ?_
  refine j_iload_n C dX5_put_90 rfl ?_
  refine j_aaload (v := .ref ai) C 7 i rfl rfl (by omega) (by decide) (by rw [show ro i = some ai from hrai]; rfl) dX5_put_91 ?_
  refine j_iload_n C dX5_put_92 rfl ?_
  refine j_iload_n C dX5_put_93 rfl ?_
  refine j_iastoreP (h' := upd h y (nI w)) C y hmai hfai rfl (by omega) (by omega) dX5_put_94 rfl ?_
  refine j_iload C dX5_put_95 rfl ?_
  exact j_iret C hQ rfl dX5_put_97 ⟨Nat.le_of_ble_eq_true rfl, Nat.le_of_ble_eq_true rfl⟩ ⟨rfl, rfl⟩
set_option maxHeartbeats 4000000 in
set_option maxRecDepth 100000 in
theorem g_fill_a1 (l : Launch) (E : jE) (A : Nat → Prop) {x0 x1 x2 x3 x4 x5 : Nat × va_E} {mo ou : Nat} {th re ak gv kn : Int32} {ro : Nat → Option Nat} {LL : List Nat} {ff : Nat → va_E} {i : Nat} (hi : i < 9) {y w : Int32} (hby : y < 0 ∨ nI 10 ≤ y)  : jMet l yX5_fill cX5_fill 6 (some .int) 5 0 0 E A [.ref mo, .int (nI i), .int y, .int w] (mW E x0 x1 x2 x3 x4 x5 mo ou th re ak gv kn ro LL ff) (jR (some (.int (nI 0))) (mW E x0 x1 x2 x3 x4 x5 mo ou (nI 2) re ak gv kn ro LL ff)) jNo := by
  refine jMet.intro' [(0, .ref mo), (1, .int (nI i)), (2, .int y), (3, .int w)] (by decide) (Nat.le_of_ble_eq_true rfl) rfl ?_
  intro p e R s m args below meth c Q C hQ
  refine j_aload_n C dX5_fill_0 rfl ?_
  refine j_iload_n C dX5_fill_1 rfl ?_
  refine j_callSr C (v := .int (nI 0)) (w := (mW E x0 x1 x2 x3 x4 x5 mo ou th re ak gv kn ro LL ff)) (m_isNo_0 l E A (by omega)) ok_X5_isNo w_959 (by decide) rfl rfl (Nat.le_of_ble_eq_true rfl) ⟨Nat.le_of_ble_eq_true rfl, Nat.le_of_ble_eq_true rfl⟩ dX5_fill_2 ?_
  refine j_iconst (v := (nI 1)) C dX5_fill_5 rfl ?_
  refine j_callVr C 6 (v := .int (nI 0)) (w := (mW E x0 x1 x2 x3 x4 x5 mo ou (nI 0) re ak gv kn ro LL ff)) (m_start_0 l E A) ok_X5_start w_962 (by decide) rfl rfl (Nat.le_of_ble_eq_true rfl) rfl rfl ⟨Nat.le_of_ble_eq_true rfl, Nat.le_of_ble_eq_true rfl⟩ dX5_fill_6 ?_
  refine j_ifn_ne_f (tgt := 42) C dX5_fill_9 (by decide) (by omega) (by omega) ?_
  refine j_aload_n C dX5_fill_12 rfl ?_
  refine j_iload_n C dX5_fill_13 rfl ?_
  refine j_callSr C (v := .int (nI 0)) (w := (mW E x0 x1 x2 x3 x4 x5 mo ou (nI 0) re ak gv kn ro LL ff)) (m_isSign_0 l E A hby) ok_X5_isSign w_948 (by decide) rfl rfl (Nat.le_of_ble_eq_true rfl) ⟨Nat.le_of_ble_eq_true rfl, Nat.le_of_ble_eq_true rfl⟩ dX5_fill_14 ?_
  refine j_ifn_eq_t (tgt := 30) C dX5_fill_17 (by decide) (by omega) (by omega) ?_
  refine j_iconst (v := (nI 1)) C dX5_fill_30 rfl ?_
  refine j_goto (tgt := 35) C dX5_fill_31 (by decide) ?_
  refine j_iconst (v := (nI 2)) C dX5_fill_35 rfl ?_
  refine j_callVr C 6 (v := .int (nI 1)) (w := (mW E x0 x1 x2 x3 x4 x5 mo ou (nI 2) re ak gv kn ro LL ff)) (m_refuse_1 l E A (by decide) (by decide)) ok_X5_refuse w_966 (by decide) rfl rfl (Nat.le_of_ble_eq_true rfl) rfl rfl ⟨Nat.le_of_ble_eq_true rfl, Nat.le_of_ble_eq_true rfl⟩ dX5_fill_36 ?_
  refine j_ifn_eq_f (tgt := 44) C dX5_fill_39 (by decide) (by omega) (by omega) ?_
  refine j_iconst (v := (nI 0)) C dX5_fill_42 rfl ?_
  exact j_iret C hQ rfl dX5_fill_43 ⟨Nat.le_of_ble_eq_true rfl, Nat.le_of_ble_eq_true rfl⟩ ⟨rfl, rfl⟩
set_option maxHeartbeats 4000000 in
set_option maxRecDepth 100000 in
theorem g_fill_a2 (l : Launch) (E : jE) (A : Nat → Prop) {x0 x1 x2 x3 x4 x5 : Nat × va_E} {mo ou : Nat} {th re ak gv kn : Int32} {ro : Nat → Option Nat} {LL : List Nat} {ff : Nat → va_E} {i : Nat} (hi : i < 9) {y : Nat} {w : Int32} (hy : y < 10) (hbw : w < 0 ∨ nI 24 < w)  : jMet l yX5_fill cX5_fill 6 (some .int) 5 0 0 E A [.ref mo, .int (nI i), .int (nI y), .int w] (mW E x0 x1 x2 x3 x4 x5 mo ou th re ak gv kn ro LL ff) (jR (some (.int (nI 0))) (mW E x0 x1 x2 x3 x4 x5 mo ou (nI 2) re ak gv kn ro LL ff)) jNo := by
  refine jMet.intro' [(0, .ref mo), (1, .int (nI i)), (2, .int (nI y)), (3, .int w)] (by decide) (Nat.le_of_ble_eq_true rfl) rfl ?_
  intro p e R s m args below meth c Q C hQ
  refine j_aload_n C dX5_fill_0 rfl ?_
  refine j_iload_n C dX5_fill_1 rfl ?_
  refine j_callSr C (v := .int (nI 0)) (w := (mW E x0 x1 x2 x3 x4 x5 mo ou th re ak gv kn ro LL ff)) (m_isNo_0 l E A (by omega)) ok_X5_isNo w_959 (by decide) rfl rfl (Nat.le_of_ble_eq_true rfl) ⟨Nat.le_of_ble_eq_true rfl, Nat.le_of_ble_eq_true rfl⟩ dX5_fill_2 ?_
  refine j_iconst (v := (nI 1)) C dX5_fill_5 rfl ?_
  refine j_callVr C 6 (v := .int (nI 0)) (w := (mW E x0 x1 x2 x3 x4 x5 mo ou (nI 0) re ak gv kn ro LL ff)) (m_start_0 l E A) ok_X5_start w_962 (by decide) rfl rfl (Nat.le_of_ble_eq_true rfl) rfl rfl ⟨Nat.le_of_ble_eq_true rfl, Nat.le_of_ble_eq_true rfl⟩ dX5_fill_6 ?_
  refine j_ifn_ne_f (tgt := 42) C dX5_fill_9 (by decide) (by omega) (by omega) ?_
  refine j_aload_n C dX5_fill_12 rfl ?_
  refine j_iload_n C dX5_fill_13 rfl ?_
  refine j_callSr C (v := .int (nI 1)) (w := (mW E x0 x1 x2 x3 x4 x5 mo ou (nI 0) re ak gv kn ro LL ff)) (m_isSign_1 l E A ⟨_, by omega, rfl⟩) ok_X5_isSign w_948 (by decide) rfl rfl (Nat.le_of_ble_eq_true rfl) ⟨Nat.le_of_ble_eq_true rfl, Nat.le_of_ble_eq_true rfl⟩ dX5_fill_14 ?_
  refine j_ifn_eq_f (tgt := 30) C dX5_fill_17 (by decide) (by omega) (by omega) ?_
  refine j_iload_n C dX5_fill_20 rfl ?_
  refine j_iconst (v := (nI 0)) C dX5_fill_21 rfl ?_
  refine j_bipush (v := (nI 24)) C dX5_fill_22 rfl ?_
  refine j_callSr C (v := .int (bI (¬ w < (nI 0) ∧ ¬ (nI 24) < w))) (w := (mW E x0 x1 x2 x3 x4 x5 mo ou (nI 0) re ak gv kn ro LL ff)) (m_isIn l E A) ok_X5_isIn w_953 (by decide) rfl rfl (Nat.le_of_ble_eq_true rfl) ⟨Nat.le_of_ble_eq_true rfl, Nat.le_of_ble_eq_true rfl⟩ dX5_fill_24 ?_
  refine j_ifb_ne_f (tgt := 34) C dX5_fill_27 (by decide) (in_f' hbw) ?_
  refine j_iconst (v := (nI 1)) C dX5_fill_30 rfl ?_
  refine j_goto (tgt := 35) C dX5_fill_31 (by decide) ?_
  refine j_iconst (v := (nI 2)) C dX5_fill_35 rfl ?_
  refine j_callVr C 6 (v := .int (nI 1)) (w := (mW E x0 x1 x2 x3 x4 x5 mo ou (nI 2) re ak gv kn ro LL ff)) (m_refuse_1 l E A (by decide) (by decide)) ok_X5_refuse w_966 (by decide) rfl rfl (Nat.le_of_ble_eq_true rfl) rfl rfl ⟨Nat.le_of_ble_eq_true rfl, Nat.le_of_ble_eq_true rfl⟩ dX5_fill_36 ?_
  refine j_ifn_eq_f (tgt := 44) C dX5_fill_39 (by decide) (by omega) (by omega) ?_
  refine j_iconst (v := (nI 0)) C dX5_fill_42 rfl ?_
  exact j_iret C hQ rfl dX5_fill_43 ⟨Nat.le_of_ble_eq_true rfl, Nat.le_of_ble_eq_true rfl⟩ ⟨rfl, rfl⟩
set_option maxHeartbeats 4000000 in
set_option maxRecDepth 100000 in
theorem g_fill_m (l : Launch) (E : jE) (A : Nat → Prop) {x0 x1 x2 x3 x4 x5 : Nat × va_E} {mo ou : Nat} {th re ak gv kn : Int32} {ro : Nat → Option Nat} {LL : List Nat} {ff : Nat → va_E} {i : Nat} (hi : i < 9) (hri : ro i = none) {y w : Nat} (hy : y < 10) (hw : w ≤ 24)  : jMet l yX5_fill cX5_fill 6 (some .int) 5 1 24 E A [.ref mo, .int (nI i), .int (nI y), .int (nI w)] (mW E x0 x1 x2 x3 x4 x5 mo ou th re ak gv kn ro LL ff) (fun vv ww => ∃ q : Nat, q ∉ LL ∧ vv = some (.int (-1)) ∧ ww = (mW E x0 x1 x2 x3 x4 x5 mo ou (nI 0) re ak gv kn (va_up ro i (some q)) (LL ++ [q]) (va_up ff q (.inl (E.2.1, w, .inl (pfx (fun _ => nI y) w)))))) jNo := by
  refine jMet.intro' [(0, .ref mo), (1, .int (nI i)), (2, .int (nI y)), (3, .int (nI w))] (by decide) (Nat.le_of_ble_eq_true rfl) rfl ?_
  intro p e R s m args below meth c Q C hQ
  refine j_aload_n C dX5_fill_0 rfl ?_
  refine j_iload_n C dX5_fill_1 rfl ?_
  refine j_callSr C (v := .int (nI 0)) (w := (mW E x0 x1 x2 x3 x4 x5 mo ou th re ak gv kn ro LL ff)) (m_isNo_0 l E A (by omega)) ok_X5_isNo w_959 (by decide) rfl rfl (Nat.le_of_ble_eq_true rfl) ⟨Nat.le_of_ble_eq_true rfl, Nat.le_of_ble_eq_true rfl⟩ dX5_fill_2 ?_
  refine j_iconst (v := (nI 1)) C dX5_fill_5 rfl ?_
  refine j_callVr C 6 (v := .int (nI 0)) (w := (mW E x0 x1 x2 x3 x4 x5 mo ou (nI 0) re ak gv kn ro LL ff)) (m_start_0 l E A) ok_X5_start w_962 (by decide) rfl rfl (Nat.le_of_ble_eq_true rfl) rfl rfl ⟨Nat.le_of_ble_eq_true rfl, Nat.le_of_ble_eq_true rfl⟩ dX5_fill_6 ?_
  refine j_ifn_ne_f (tgt := 42) C dX5_fill_9 (by decide) (by omega) (by omega) ?_
  refine j_aload_n C dX5_fill_12 rfl ?_
  refine j_iload_n C dX5_fill_13 rfl ?_
  refine j_callSr C (v := .int (nI 1)) (w := (mW E x0 x1 x2 x3 x4 x5 mo ou (nI 0) re ak gv kn ro LL ff)) (m_isSign_1 l E A ⟨_, by omega, rfl⟩) ok_X5_isSign w_948 (by decide) rfl rfl (Nat.le_of_ble_eq_true rfl) ⟨Nat.le_of_ble_eq_true rfl, Nat.le_of_ble_eq_true rfl⟩ dX5_fill_14 ?_
  refine j_ifn_eq_f (tgt := 30) C dX5_fill_17 (by decide) (by omega) (by omega) ?_
  refine j_iload_n C dX5_fill_20 rfl ?_
  refine j_iconst (v := (nI 0)) C dX5_fill_21 rfl ?_
  refine j_bipush (v := (nI 24)) C dX5_fill_22 rfl ?_
  refine j_callSr C (v := .int (bI (¬ (nI w) < (nI 0) ∧ ¬ (nI 24) < (nI w)))) (w := (mW E x0 x1 x2 x3 x4 x5 mo ou (nI 0) re ak gv kn ro LL ff)) (m_isIn l E A) ok_X5_isIn w_953 (by decide) rfl rfl (Nat.le_of_ble_eq_true rfl) ⟨Nat.le_of_ble_eq_true rfl, Nat.le_of_ble_eq_true rfl⟩ dX5_fill_24 ?_
  refine j_ifb_ne_t (tgt := 34) C dX5_fill_27 (by decide) (in_t (by omega) (by omega) (by omega)) ?_
  refine j_iconst (v := (nI 0)) C dX5_fill_34 rfl ?_
  refine j_iconst (v := (nI 2)) C dX5_fill_35 rfl ?_
  refine j_callVr C 6 (v := .int (nI 0)) (w := (mW E x0 x1 x2 x3 x4 x5 mo ou (nI 0) re ak gv kn ro LL ff)) (m_refuse_0 l E A) ok_X5_refuse w_966 (by decide) rfl rfl (Nat.le_of_ble_eq_true rfl) rfl rfl ⟨Nat.le_of_ble_eq_true rfl, Nat.le_of_ble_eq_true rfl⟩ dX5_fill_36 ?_
  refine j_ifn_eq_t (tgt := 44) C dX5_fill_39 (by decide) (by omega) (by omega) ?_
  refine j_aload_n C dX5_fill_44 rfl ?_
  refine j_iload_n C dX5_fill_45 rfl ?_
  refine j_callVr C 6 (v := .int (-1)) (w := (mW E x0 x1 x2 x3 x4 x5 mo ou (nI 0) re ak gv kn ro LL ff)) (m_many_m l E A (by omega) hri) ok_X5_many w_970 (by decide) rfl rfl (Nat.le_of_ble_eq_true rfl) rfl rfl ⟨Nat.le_of_ble_eq_true rfl, Nat.le_of_ble_eq_true rfl⟩ dX5_fill_46 ?_
  refine j_istore (lv' := [(4, .int (-1)), (0, .ref mo), (1, .int (nI i)), (2, .int (nI y)), (3, .int (nI w))]) C dX5_fill_49 (by decide) rfl ?_
  refine j_aload_n C dX5_fill_51 rfl ?_
  refine j_get C 6 rfl inj_X5 rfl 1 (by decide) w_922 rfl dX5_fill_52 ?_
  refine j_iload_n C dX5_fill_55 rfl ?_
  refine j_iload_n C dX5_fill_56 rfl ?_
  refine j_newIP C w w_72 rfl (by omega) (by omega) (by omega) dX5_fill_57 (fun q1 hq1 => ?_)
  refine j_aastoreP (ws' := (mW E x0 x1 x2 x3 x4 x5 mo ou (nI 0) re ak gv kn (va_up ro i (some q1)) (LL ++ [q1]) (va_up ff q1 (.inl (E.2.1, w, .inl (fun _ => 0)))))) C 7 i rfl pool_newm pool_new rfl (by omega) (by decide) dX5_fill_59 rfl ?_
  refine j_iconst (v := (nI 0)) C dX5_fill_60 rfl ?_
  refine j_istore (lv' := [(5, .int (nI 0)), (4, .int (-1)), (0, .ref mo), (1, .int (nI i)), (2, .int (nI y)), (3, .int (nI w))]) C dX5_fill_61 (by decide) rfl ?_
  have L63 : ∀ (r k : Nat), k + r = w → jJ p l e R s m args below meth c E A 6 Q 1 (0 + w) 63 [(5, .int (nI k)), (4, .int (-1)), (0, .ref mo), (1, .int (nI i)), (2, .int (nI y)), (3, .int (nI w))] [] (mW E x0 x1 x2 x3 x4 x5 mo ou (nI 0) re ak gv kn (va_up ro i (some q1)) (LL ++ [q1]) (va_up ff q1 (.inl (E.2.1, w, .inl (pfx (fun _ => nI y) k))))) := by
    intro r
    induction r with
    | zero =>
      intro k  hk63 
      refine j_iload C dX5_fill_63 rfl ?_
      refine j_iload_n C dX5_fill_65 rfl ?_
      refine j_icmpn_ge_t (tgt := 85) C dX5_fill_66 (by decide) (by omega) (by omega) (by omega) ?_
      have ek : w = k := by omega
      subst ek
      refine j_iload C dX5_fill_85 rfl ?_
      exact j_iret C hQ rfl dX5_fill_87 ⟨Nat.le_of_ble_eq_true rfl, by omega⟩ ⟨q1, hq1, rfl, rfl⟩
    | succ r ih63 =>
      intro k  hk63 
      refine j_iload C dX5_fill_63 rfl ?_
      refine j_iload_n C dX5_fill_65 rfl ?_
      refine j_icmpn_ge_f (tgt := 85) C dX5_fill_66 (by decide) (by omega) (by omega) (by omega) ?_
      refine j_aload_n C dX5_fill_69 rfl ?_
      refine j_get C 6 rfl inj_X5 rfl 1 (by decide) w_922 rfl dX5_fill_70 ?_
      refine j_iload_n C dX5_fill_73 rfl ?_
      refine j_aaload (v := .ref q1) C 7 i rfl rfl (by omega) (by decide) (by rw [show (va_up ro i (some q1)) i = some q1 from (if_pos rfl)]; rfl) dX5_fill_74 ?_
      refine j_iload C dX5_fill_75 rfl ?_
      refine j_iload_n C dX5_fill_77 rfl ?_
      refine j_iastoreP (h' := pfx (fun _ => nI y) (k + 1)) C k pool_newm pool_new rfl (by omega) (by omega) dX5_fill_78 (pfx_s (fun _ => nI y) k) ?_
      refine j_eq (ws' := (mW E x0 x1 x2 x3 x4 x5 mo ou (nI 0) re ak gv kn (va_up ro i (some q1)) (LL ++ [q1]) (va_up ff q1 (.inl (E.2.1, w, .inl (pfx (fun _ => nI y) (k + 1))))))) rfl rfl (by rw [pool_up2]) ?_
      refine j_iinc (lv' := [(5, .int (nI (k + 1))), (4, .int (-1)), (0, .ref mo), (1, .int (nI i)), (2, .int (nI y)), (3, .int (nI w))]) C dX5_fill_79 rfl (nI_1 _) (by decide) rfl ?_
      refine j_goto (tgt := 63) C dX5_fill_82 (by decide) ?_
      refine j_lv (lv' := [(5, .int (nI (k + 1))), (4, .int (-1)), (0, .ref mo), (1, .int (nI i)), (2, .int (nI y)), (3, .int (nI w))]) (by simp only [List.mem_cons, List.not_mem_nil, or_false, forall_eq_or_imp, forall_eq, true_or, or_true, and_self, Nat.add_zero]) ?_
      exact ih63 (k + 1) (by omega)
  refine j_lv (lv' := [(5, .int (nI 0)), (4, .int (-1)), (0, .ref mo), (1, .int (nI i)), (2, .int (nI y)), (3, .int (nI w))]) (by simp only [List.mem_cons, List.not_mem_nil, or_false, forall_eq_or_imp, forall_eq, true_or, or_true, and_self, Nat.add_zero]) ?_
  refine j_eq (ws' := (mW E x0 x1 x2 x3 x4 x5 mo ou (nI 0) re ak gv kn (va_up ro i (some q1)) (LL ++ [q1]) (va_up ff q1 (.inl (E.2.1, w, .inl (pfx (fun _ => nI y) 0)))))) rfl rfl (by rw [pfx_0]) ?_
  exact L63 w 0 (by omega)
set_option maxHeartbeats 4000000 in
set_option maxRecDepth 100000 in
theorem g_fill_k (l : Launch) (E : jE) (A : Nat → Prop) {x0 x1 x2 x3 x4 x5 : Nat × va_E} {mo ou : Nat} {th re ak gv kn : Int32} {ro : Nat → Option Nat} {LL : List Nat} {ff : Nat → va_E} {i : Nat} (hi : i < 9) {ai n : Nat} {h : Nat → Int32} (hrai : ro i = some ai) (hmai : ai ∈ LL) (hfai : ff ai = .inl (E.2.1, n, .inl h)) (hnai : n ≤ 24) {y w : Nat} (hy : y < 10) (hw : w ≤ 24)  : jMet l yX5_fill cX5_fill 6 (some .int) 5 1 24 E A [.ref mo, .int (nI i), .int (nI y), .int (nI w)] (mW E x0 x1 x2 x3 x4 x5 mo ou th re ak gv kn ro LL ff) (fun vv ww => ∃ q : Nat, q ∉ LL ∧ vv = some (.int (nI n)) ∧ ww = (mW E x0 x1 x2 x3 x4 x5 mo ou (nI 0) re ak gv kn (va_up ro i (some q)) (LL ++ [q]) (va_up ff q (.inl (E.2.1, w, .inl (pfx (fun _ => nI y) w)))))) jNo := by
  refine jMet.intro' [(0, .ref mo), (1, .int (nI i)), (2, .int (nI y)), (3, .int (nI w))] (by decide) (Nat.le_of_ble_eq_true rfl) rfl ?_
  intro p e R s m args below meth c Q C hQ
  refine j_aload_n C dX5_fill_0 rfl ?_
  refine j_iload_n C dX5_fill_1 rfl ?_
  refine j_callSr C (v := .int (nI 0)) (w := (mW E x0 x1 x2 x3 x4 x5 mo ou th re ak gv kn ro LL ff)) (m_isNo_0 l E A (by omega)) ok_X5_isNo w_959 (by decide) rfl rfl (Nat.le_of_ble_eq_true rfl) ⟨Nat.le_of_ble_eq_true rfl, Nat.le_of_ble_eq_true rfl⟩ dX5_fill_2 ?_
  refine j_iconst (v := (nI 1)) C dX5_fill_5 rfl ?_
  refine j_callVr C 6 (v := .int (nI 0)) (w := (mW E x0 x1 x2 x3 x4 x5 mo ou (nI 0) re ak gv kn ro LL ff)) (m_start_0 l E A) ok_X5_start w_962 (by decide) rfl rfl (Nat.le_of_ble_eq_true rfl) rfl rfl ⟨Nat.le_of_ble_eq_true rfl, Nat.le_of_ble_eq_true rfl⟩ dX5_fill_6 ?_
  refine j_ifn_ne_f (tgt := 42) C dX5_fill_9 (by decide) (by omega) (by omega) ?_
  refine j_aload_n C dX5_fill_12 rfl ?_
  refine j_iload_n C dX5_fill_13 rfl ?_
  refine j_callSr C (v := .int (nI 1)) (w := (mW E x0 x1 x2 x3 x4 x5 mo ou (nI 0) re ak gv kn ro LL ff)) (m_isSign_1 l E A ⟨_, by omega, rfl⟩) ok_X5_isSign w_948 (by decide) rfl rfl (Nat.le_of_ble_eq_true rfl) ⟨Nat.le_of_ble_eq_true rfl, Nat.le_of_ble_eq_true rfl⟩ dX5_fill_14 ?_
  refine j_ifn_eq_f (tgt := 30) C dX5_fill_17 (by decide) (by omega) (by omega) ?_
  refine j_iload_n C dX5_fill_20 rfl ?_
  refine j_iconst (v := (nI 0)) C dX5_fill_21 rfl ?_
  refine j_bipush (v := (nI 24)) C dX5_fill_22 rfl ?_
  refine j_callSr C (v := .int (bI (¬ (nI w) < (nI 0) ∧ ¬ (nI 24) < (nI w)))) (w := (mW E x0 x1 x2 x3 x4 x5 mo ou (nI 0) re ak gv kn ro LL ff)) (m_isIn l E A) ok_X5_isIn w_953 (by decide) rfl rfl (Nat.le_of_ble_eq_true rfl) ⟨Nat.le_of_ble_eq_true rfl, Nat.le_of_ble_eq_true rfl⟩ dX5_fill_24 ?_
  refine j_ifb_ne_t (tgt := 34) C dX5_fill_27 (by decide) (in_t (by omega) (by omega) (by omega)) ?_
  refine j_iconst (v := (nI 0)) C dX5_fill_34 rfl ?_
  refine j_iconst (v := (nI 2)) C dX5_fill_35 rfl ?_
  refine j_callVr C 6 (v := .int (nI 0)) (w := (mW E x0 x1 x2 x3 x4 x5 mo ou (nI 0) re ak gv kn ro LL ff)) (m_refuse_0 l E A) ok_X5_refuse w_966 (by decide) rfl rfl (Nat.le_of_ble_eq_true rfl) rfl rfl ⟨Nat.le_of_ble_eq_true rfl, Nat.le_of_ble_eq_true rfl⟩ dX5_fill_36 ?_
  refine j_ifn_eq_t (tgt := 44) C dX5_fill_39 (by decide) (by omega) (by omega) ?_
  refine j_aload_n C dX5_fill_44 rfl ?_
  refine j_iload_n C dX5_fill_45 rfl ?_
  refine j_callVr C 6 (v := .int (nI n)) (w := (mW E x0 x1 x2 x3 x4 x5 mo ou (nI 0) re ak gv kn ro LL ff)) (m_many_k l E A (by omega) hrai hmai hfai (by omega)) ok_X5_many w_970 (by decide) rfl rfl (Nat.le_of_ble_eq_true rfl) rfl rfl ⟨Nat.le_of_ble_eq_true rfl, Nat.le_of_ble_eq_true rfl⟩ dX5_fill_46 ?_
  refine j_istore (lv' := [(4, .int (nI n)), (0, .ref mo), (1, .int (nI i)), (2, .int (nI y)), (3, .int (nI w))]) C dX5_fill_49 (by decide) rfl ?_
  refine j_aload_n C dX5_fill_51 rfl ?_
  refine j_get C 6 rfl inj_X5 rfl 1 (by decide) w_922 rfl dX5_fill_52 ?_
  refine j_iload_n C dX5_fill_55 rfl ?_
  refine j_iload_n C dX5_fill_56 rfl ?_
  refine j_newIP C w w_72 rfl (by omega) (by omega) (by omega) dX5_fill_57 (fun q1 hq1 => ?_)
  refine j_aastoreP (ws' := (mW E x0 x1 x2 x3 x4 x5 mo ou (nI 0) re ak gv kn (va_up ro i (some q1)) (LL ++ [q1]) (va_up ff q1 (.inl (E.2.1, w, .inl (fun _ => 0)))))) C 7 i rfl pool_newm pool_new rfl (by omega) (by decide) dX5_fill_59 rfl ?_
  refine j_iconst (v := (nI 0)) C dX5_fill_60 rfl ?_
  refine j_istore (lv' := [(5, .int (nI 0)), (4, .int (nI n)), (0, .ref mo), (1, .int (nI i)), (2, .int (nI y)), (3, .int (nI w))]) C dX5_fill_61 (by decide) rfl ?_
  have L63 : ∀ (r k : Nat), k + r = w → jJ p l e R s m args below meth c E A 6 Q 1 (0 + w) 63 [(5, .int (nI k)), (4, .int (nI n)), (0, .ref mo), (1, .int (nI i)), (2, .int (nI y)), (3, .int (nI w))] [] (mW E x0 x1 x2 x3 x4 x5 mo ou (nI 0) re ak gv kn (va_up ro i (some q1)) (LL ++ [q1]) (va_up ff q1 (.inl (E.2.1, w, .inl (pfx (fun _ => nI y) k))))) := by
    intro r
    induction r with
    | zero =>
      intro k  hk63 
      refine j_iload C dX5_fill_63 rfl ?_
      refine j_iload_n C dX5_fill_65 rfl ?_
      refine j_icmpn_ge_t (tgt := 85) C dX5_fill_66 (by decide) (by omega) (by omega) (by omega) ?_
      have ek : w = k := by omega
      subst ek
      refine j_iload C dX5_fill_85 rfl ?_
      exact j_iret C hQ rfl dX5_fill_87 ⟨Nat.le_of_ble_eq_true rfl, by omega⟩ ⟨q1, hq1, rfl, rfl⟩
    | succ r ih63 =>
      intro k  hk63 
      refine j_iload C dX5_fill_63 rfl ?_
      refine j_iload_n C dX5_fill_65 rfl ?_
      refine j_icmpn_ge_f (tgt := 85) C dX5_fill_66 (by decide) (by omega) (by omega) (by omega) ?_
      refine j_aload_n C dX5_fill_69 rfl ?_
      refine j_get C 6 rfl inj_X5 rfl 1 (by decide) w_922 rfl dX5_fill_70 ?_
      refine j_iload_n C dX5_fill_73 rfl ?_
      refine j_aaload (v := .ref q1) C 7 i rfl rfl (by omega) (by decide) (by rw [show (va_up ro i (some q1)) i = some q1 from (if_pos rfl)]; rfl) dX5_fill_74 ?_
      refine j_iload C dX5_fill_75 rfl ?_
      refine j_iload_n C dX5_fill_77 rfl ?_
      refine j_iastoreP (h' := pfx (fun _ => nI y) (k + 1)) C k pool_newm pool_new rfl (by omega) (by omega) dX5_fill_78 (pfx_s (fun _ => nI y) k) ?_
      refine j_eq (ws' := (mW E x0 x1 x2 x3 x4 x5 mo ou (nI 0) re ak gv kn (va_up ro i (some q1)) (LL ++ [q1]) (va_up ff q1 (.inl (E.2.1, w, .inl (pfx (fun _ => nI y) (k + 1))))))) rfl rfl (by rw [pool_up2]) ?_
      refine j_iinc (lv' := [(5, .int (nI (k + 1))), (4, .int (nI n)), (0, .ref mo), (1, .int (nI i)), (2, .int (nI y)), (3, .int (nI w))]) C dX5_fill_79 rfl (nI_1 _) (by decide) rfl ?_
      refine j_goto (tgt := 63) C dX5_fill_82 (by decide) ?_
      refine j_lv (lv' := [(5, .int (nI (k + 1))), (4, .int (nI n)), (0, .ref mo), (1, .int (nI i)), (2, .int (nI y)), (3, .int (nI w))]) (by simp only [List.mem_cons, List.not_mem_nil, or_false, forall_eq_or_imp, forall_eq, true_or, or_true, and_self, Nat.add_zero]) ?_
      exact ih63 (k + 1) (by omega)
  refine j_lv (lv' := [(5, .int (nI 0)), (4, .int (nI n)), (0, .ref mo), (1, .int (nI i)), (2, .int (nI y)), (3, .int (nI w))]) (by simp only [List.mem_cons, List.not_mem_nil, or_false, forall_eq_or_imp, forall_eq, true_or, or_true, and_self, Nat.add_zero]) ?_
  refine j_eq (ws' := (mW E x0 x1 x2 x3 x4 x5 mo ou (nI 0) re ak gv kn (va_up ro i (some q1)) (LL ++ [q1]) (va_up ff q1 (.inl (E.2.1, w, .inl (pfx (fun _ => nI y) 0)))))) rfl rfl (by rw [pfx_0]) ?_
  exact L63 w 0 (by omega)
set_option maxHeartbeats 4000000 in
set_option maxRecDepth 100000 in
theorem g_copy_m (l : Launch) (E : jE) (A : Nat → Prop) {x0 x1 x2 x3 x4 x5 : Nat × va_E} {mo ou : Nat} {th re ak gv kn : Int32} {ro : Nat → Option Nat} {LL : List Nat} {ff : Nat → va_E} {i : Nat} (hi : i < 9) {j : Nat} (hj : j < 9) (hrj : ro j = none)  : jMet l yX5_copy cX5_copy 3 (some .int) 5 0 0 E A [.ref mo, .int (nI i), .int (nI j)] (mW E x0 x1 x2 x3 x4 x5 mo ou th re ak gv kn ro LL ff) (jR (some (.int (-1))) (mW E x0 x1 x2 x3 x4 x5 mo ou (nI 0) re ak gv kn (va_up ro i none) LL ff)) jNo := by
  refine jMet.intro' [(0, .ref mo), (1, .int (nI i)), (2, .int (nI j))] (by decide) (Nat.le_of_ble_eq_true rfl) rfl ?_
  intro p e R s m args below meth c Q C hQ
  refine j_aload_n C dX5_copy_0 rfl ?_
  refine j_iload_n C dX5_copy_1 rfl ?_
  refine j_iload_n C dX5_copy_2 rfl ?_
  refine j_callVr C 6 (v := .int (nI 0)) (w := (mW E x0 x1 x2 x3 x4 x5 mo ou (nI 0) re ak gv kn ro LL ff)) (m_areNo_0 l E A (by omega) (by omega)) ok_X5_areNo w_1014 (by decide) rfl rfl (Nat.le_of_ble_eq_true rfl) rfl rfl ⟨Nat.le_of_ble_eq_true rfl, Nat.le_of_ble_eq_true rfl⟩ dX5_copy_3 ?_
  refine j_ifn_eq_t (tgt := 11) C dX5_copy_6 (by decide) (by omega) (by omega) ?_
  refine j_aload_n C dX5_copy_11 rfl ?_
  refine j_get C 6 rfl inj_X5 rfl 1 (by decide) w_922 rfl dX5_copy_12 ?_
  refine j_iload_n C dX5_copy_15 rfl ?_
  refine j_aload_n C dX5_copy_16 rfl ?_
  refine j_get C 6 rfl inj_X5 rfl 1 (by decide) w_922 rfl dX5_copy_17 ?_
  refine j_iload_n C dX5_copy_20 rfl ?_
  refine j_aaload (v := .null) C 7 j rfl rfl (by omega) (by decide) (by rw [show ro j = none from hrj]; rfl) dX5_copy_21 ?_
  refine j_ifnonnull_f C dX5_copy_22 ?_
  refine j_null C dX5_copy_25 ?_
  refine j_goto (tgt := 46) C dX5_copy_26 (by decide) ?_
  refine j_aastoreN (ws' := (mW E x0 x1 x2 x3 x4 x5 mo ou (nI 0) re ak gv kn (va_up ro i none) LL ff)) C 7 i rfl rfl (by omega) (by decide) dX5_copy_46 rfl ?_
  refine j_aload_n C dX5_copy_47 rfl ?_
  refine j_iload_n C dX5_copy_48 rfl ?_
  refine j_callVr C 6 (v := .int (-1)) (w := (mW E x0 x1 x2 x3 x4 x5 mo ou (nI 0) re ak gv kn (va_up ro i none) LL ff)) (m_many_m l E A (by omega) (if_pos rfl)) ok_X5_many w_970 (by decide) rfl rfl (Nat.le_of_ble_eq_true rfl) rfl rfl ⟨Nat.le_of_ble_eq_true rfl, Nat.le_of_ble_eq_true rfl⟩ dX5_copy_49 ?_
  exact j_iret C hQ rfl dX5_copy_52 ⟨Nat.le_of_ble_eq_true rfl, Nat.le_of_ble_eq_true rfl⟩ ⟨rfl, rfl⟩
set_option maxHeartbeats 4000000 in
set_option maxRecDepth 100000 in
theorem g_copy_k (l : Launch) (E : jE) (A : Nat → Prop) {x0 x1 x2 x3 x4 x5 : Nat × va_E} {mo ou : Nat} {th re ak gv kn : Int32} {ro : Nat → Option Nat} {LL : List Nat} {ff : Nat → va_E} {i : Nat} (hi : i < 9) {j : Nat} (hj : j < 9) {aj n : Nat} {h : Nat → Int32} (hraj : ro j = some aj) (hmaj : aj ∈ LL) (hfaj : ff aj = .inl (E.2.1, n, .inl h)) (hnaj : n ≤ 24)  : jMet l yX5_copy cX5_copy 3 (some .int) 5 1 24 E A [.ref mo, .int (nI i), .int (nI j)] (mW E x0 x1 x2 x3 x4 x5 mo ou th re ak gv kn ro LL ff) (fun vv ww => ∃ q : Nat, q ∉ LL ∧ vv = some (.int (nI n)) ∧ ww = (mW E x0 x1 x2 x3 x4 x5 mo ou (nI 0) re ak gv kn (va_up ro i (some q)) (LL ++ [q]) (va_up ff q (.inl (E.2.1, n - 0, .inl (pfx (fun q => h (0 + q)) (n - 0))))))) jNo := by
  refine jMet.intro' [(0, .ref mo), (1, .int (nI i)), (2, .int (nI j))] (by decide) (Nat.le_of_ble_eq_true rfl) rfl ?_
  intro p e R s m args below meth c Q C hQ
  refine j_aload_n C dX5_copy_0 rfl ?_
  refine j_iload_n C dX5_copy_1 rfl ?_
  refine j_iload_n C dX5_copy_2 rfl ?_
  refine j_callVr C 6 (v := .int (nI 0)) (w := (mW E x0 x1 x2 x3 x4 x5 mo ou (nI 0) re ak gv kn ro LL ff)) (m_areNo_0 l E A (by omega) (by omega)) ok_X5_areNo w_1014 (by decide) rfl rfl (Nat.le_of_ble_eq_true rfl) rfl rfl ⟨Nat.le_of_ble_eq_true rfl, Nat.le_of_ble_eq_true rfl⟩ dX5_copy_3 ?_
  refine j_ifn_eq_t (tgt := 11) C dX5_copy_6 (by decide) (by omega) (by omega) ?_
  refine j_aload_n C dX5_copy_11 rfl ?_
  refine j_get C 6 rfl inj_X5 rfl 1 (by decide) w_922 rfl dX5_copy_12 ?_
  refine j_iload_n C dX5_copy_15 rfl ?_
  refine j_aload_n C dX5_copy_16 rfl ?_
  refine j_get C 6 rfl inj_X5 rfl 1 (by decide) w_922 rfl dX5_copy_17 ?_
  refine j_iload_n C dX5_copy_20 rfl ?_
  refine j_aaload (v := .ref aj) C 7 j rfl rfl (by omega) (by decide) (by rw [show ro j = some aj from hraj]; rfl) dX5_copy_21 ?_
  refine j_ifnonnull_t (tgt := 29) C dX5_copy_22 (by decide) ?_
  refine j_aload_n C dX5_copy_29 rfl ?_
  refine j_get C 6 rfl inj_X5 rfl 1 (by decide) w_922 rfl dX5_copy_30 ?_
  refine j_iload_n C dX5_copy_33 rfl ?_
  refine j_aaload (v := .ref aj) C 7 j rfl rfl (by omega) (by decide) (by rw [show ro j = some aj from hraj]; rfl) dX5_copy_34 ?_
  refine j_iconst (v := (nI 0)) C dX5_copy_35 rfl ?_
  refine j_aload_n C dX5_copy_36 rfl ?_
  refine j_get C 6 rfl inj_X5 rfl 1 (by decide) w_922 rfl dX5_copy_37 ?_
  refine j_iload_n C dX5_copy_40 rfl ?_
  refine j_aaload (v := .ref aj) C 7 j rfl rfl (by omega) (by decide) (by rw [show ro j = some aj from hraj]; rfl) dX5_copy_41 ?_
  refine j_alenP (n := n) C hmaj hfaj dX5_copy_42 ?_
  refine j_callSf C (n := n - 0) (h := pfx (fun q => h (0 + q)) (n - 0)) (m_part l E A hmaj hfaj (by omega) (by omega) (by omega)) ok_X5_part w_996 (by decide) rfl rfl (Nat.le_of_ble_eq_true rfl) ⟨Nat.le_of_ble_eq_true rfl, Nat.le_of_ble_eq_true rfl⟩ dX5_copy_43 (fun q1 hq1 => ?_)
  refine j_aastoreP (ws' := (mW E x0 x1 x2 x3 x4 x5 mo ou (nI 0) re ak gv kn (va_up ro i (some q1)) (LL ++ [q1]) (va_up ff q1 (.inl (E.2.1, n - 0, .inl (pfx (fun q => h (0 + q)) (n - 0))))))) C 7 i rfl pool_newm pool_new rfl (by omega) (by decide) dX5_copy_46 rfl ?_
  refine j_aload_n C dX5_copy_47 rfl ?_
  refine j_iload_n C dX5_copy_48 rfl ?_
  refine j_callVr C 6 (v := .int (nI (n - 0))) (w := (mW E x0 x1 x2 x3 x4 x5 mo ou (nI 0) re ak gv kn (va_up ro i (some q1)) (LL ++ [q1]) (va_up ff q1 (.inl (E.2.1, n - 0, .inl (pfx (fun q => h (0 + q)) (n - 0))))))) (m_many_k l E A (by omega) (if_pos rfl) pool_newm pool_new (by omega)) ok_X5_many w_970 (by decide) rfl rfl (Nat.le_of_ble_eq_true rfl) rfl rfl ⟨Nat.le_of_ble_eq_true rfl, Nat.le_of_ble_eq_true rfl⟩ dX5_copy_49 ?_
  exact j_iret C hQ rfl dX5_copy_52 ⟨Nat.le_of_ble_eq_true rfl, Nat.le_of_ble_eq_true rfl⟩ ⟨q1, hq1, rfl, rfl⟩
set_option maxHeartbeats 4000000 in
set_option maxRecDepth 100000 in
theorem g_place_k (l : Launch) (E : jE) (A : Nat → Prop) {x0 x1 x2 x3 x4 x5 : Nat × va_E} {mo ou : Nat} {th re ak gv kn : Int32} {ro : Nat → Option Nat} {LL : List Nat} {ff : Nat → va_E} {x y : Int32} (hin : (¬ x < nI 0 ∧ ¬ y - nI 1 < x) ∧ ¬ y ≤ 0) : jMet l yX5_place cX5_place 3 (some .int) 5 0 0 E A [.ref mo, .int x, .int y] (mW E x0 x1 x2 x3 x4 x5 mo ou th re ak gv kn ro LL ff) (jR (some (.int x)) (mW E x0 x1 x2 x3 x4 x5 mo ou (nI 0) re ak gv kn ro LL ff)) jNo := by
  refine jMet.intro' [(0, .ref mo), (1, .int x), (2, .int y)] (by decide) (Nat.le_of_ble_eq_true rfl) rfl ?_
  intro p e R s m args below meth c Q C hQ
  refine j_aload_n C dX5_place_0 rfl ?_
  refine j_iload_n C dX5_place_1 rfl ?_
  refine j_iconst (v := (nI 0)) C dX5_place_2 rfl ?_
  refine j_iload_n C dX5_place_3 rfl ?_
  refine j_iconst (v := (nI 1)) C dX5_place_4 rfl ?_
  refine j_isub (z := (y - (nI 1))) C dX5_place_5 rfl ?_
  refine j_callSr C (v := .int (bI (¬ x < (nI 0) ∧ ¬ (y - (nI 1)) < x))) (w := (mW E x0 x1 x2 x3 x4 x5 mo ou th re ak gv kn ro LL ff)) (m_isIn l E A) ok_X5_isIn w_953 (by decide) rfl rfl (Nat.le_of_ble_eq_true rfl) ⟨Nat.le_of_ble_eq_true rfl, Nat.le_of_ble_eq_true rfl⟩ dX5_place_6 ?_
  refine j_ifb_eq_f (tgt := 20) C dX5_place_9 (by decide) hin.1 ?_
  refine j_iload_n C dX5_place_12 rfl ?_
  refine j_if_le_f (tgt := 20) C dX5_place_13 (by decide) hin.2 ?_
  refine j_iconst (v := (nI 1)) C dX5_place_16 rfl ?_
  refine j_goto (tgt := 21) C dX5_place_17 (by decide) ?_
  refine j_iload_n C dX5_place_21 rfl ?_
  refine j_callVr C 6 (v := .int x) (w := (mW E x0 x1 x2 x3 x4 x5 mo ou (nI 0) re ak gv kn ro LL ff)) (m_told_1 l E A) ok_X5_told w_1026 (by decide) rfl rfl (Nat.le_of_ble_eq_true rfl) rfl rfl ⟨Nat.le_of_ble_eq_true rfl, Nat.le_of_ble_eq_true rfl⟩ dX5_place_22 ?_
  exact j_iret C hQ rfl dX5_place_25 ⟨Nat.le_of_ble_eq_true rfl, Nat.le_of_ble_eq_true rfl⟩ ⟨rfl, rfl⟩
set_option maxHeartbeats 4000000 in
set_option maxRecDepth 100000 in
theorem g_place_o (l : Launch) (E : jE) (A : Nat → Prop) {x0 x1 x2 x3 x4 x5 : Nat × va_E} {mo ou : Nat} {th re ak gv kn : Int32} {ro : Nat → Option Nat} {LL : List Nat} {ff : Nat → va_E} {x y : Int32} (hout : ¬ ((¬ x < nI 0 ∧ ¬ y - nI 1 < x) ∧ ¬ y ≤ 0)) : jMet l yX5_place cX5_place 3 (some .int) 5 0 0 E A [.ref mo, .int x, .int y] (mW E x0 x1 x2 x3 x4 x5 mo ou th re ak gv kn ro LL ff) (jR (some (.int (-9))) (mW E x0 x1 x2 x3 x4 x5 mo ou (nI 0) (re + nI 1) ak gv kn ro LL ff)) jNo := by
  refine jMet.intro' [(0, .ref mo), (1, .int x), (2, .int y)] (by decide) (Nat.le_of_ble_eq_true rfl) rfl ?_
  intro p e R s m args below meth c Q C hQ
  refine j_aload_n C dX5_place_0 rfl ?_
  refine j_iload_n C dX5_place_1 rfl ?_
  refine j_iconst (v := (nI 0)) C dX5_place_2 rfl ?_
  refine j_iload_n C dX5_place_3 rfl ?_
  refine j_iconst (v := (nI 1)) C dX5_place_4 rfl ?_
  refine j_isub (z := (y - (nI 1))) C dX5_place_5 rfl ?_
  refine j_callSr C (v := .int (bI (¬ x < (nI 0) ∧ ¬ (y - (nI 1)) < x))) (w := (mW E x0 x1 x2 x3 x4 x5 mo ou th re ak gv kn ro LL ff)) (m_isIn l E A) ok_X5_isIn w_953 (by decide) rfl rfl (Nat.le_of_ble_eq_true rfl) ⟨Nat.le_of_ble_eq_true rfl, Nat.le_of_ble_eq_true rfl⟩ dX5_place_6 ?_
  refine j_ifb_eq (tgt := 20) C dX5_place_9 (by decide) (fun h9 => ?_) (fun h9 => ?_)
  · skip
    refine j_iconst (v := (nI 0)) C dX5_place_20 rfl ?_
    refine j_iload_n C dX5_place_21 rfl ?_
    refine j_callVr C 6 (v := .int (-9)) (w := (mW E x0 x1 x2 x3 x4 x5 mo ou (nI 0) (re + nI 1) ak gv kn ro LL ff)) (m_told_0 l E A) ok_X5_told w_1026 (by decide) rfl rfl (Nat.le_of_ble_eq_true rfl) rfl rfl ⟨Nat.le_of_ble_eq_true rfl, Nat.le_of_ble_eq_true rfl⟩ dX5_place_22 ?_
    exact j_iret C hQ rfl dX5_place_25 ⟨Nat.le_of_ble_eq_true rfl, Nat.le_of_ble_eq_true rfl⟩ ⟨rfl, rfl⟩
  · skip
    refine j_iload_n C dX5_place_12 rfl ?_
    refine j_if_le_t (tgt := 20) C dX5_place_13 (by decide) (Decidable.of_not_not (fun q => hout ⟨h9, q⟩)) ?_
    refine j_iconst (v := (nI 0)) C dX5_place_20 rfl ?_
    refine j_iload_n C dX5_place_21 rfl ?_
    refine j_callVr C 6 (v := .int (-9)) (w := (mW E x0 x1 x2 x3 x4 x5 mo ou (nI 0) (re + nI 1) ak gv kn ro LL ff)) (m_told_0 l E A) ok_X5_told w_1026 (by decide) rfl rfl (Nat.le_of_ble_eq_true rfl) rfl rfl ⟨Nat.le_of_ble_eq_true rfl, Nat.le_of_ble_eq_true rfl⟩ dX5_place_22 ?_
    exact j_iret C hQ rfl dX5_place_25 ⟨Nat.le_of_ble_eq_true rfl, Nat.le_of_ble_eq_true rfl⟩ ⟨rfl, rfl⟩
set_option maxHeartbeats 4000000 in
set_option maxRecDepth 100000 in
theorem g_span_k (l : Launch) (E : jE) (A : Nat → Prop) {x0 x1 x2 x3 x4 x5 : Nat × va_E} {mo ou : Nat} {th re ak gv kn : Int32} {ro : Nat → Option Nat} {LL : List Nat} {ff : Nat → va_E} {x y w : Int32} (hin : ¬ x.toInt64 < 0 ∧ ¬ y.toInt64 < x.toInt64 ∧ ¬ w.toInt64 < y.toInt64) : jMet l yX5_span cX5_span 4 (some .int) 5 0 0 E A [.ref mo, .int x, .int y, .int w] (mW E x0 x1 x2 x3 x4 x5 mo ou th re ak gv kn ro LL ff) (jR (some (.int x)) (mW E x0 x1 x2 x3 x4 x5 mo ou (nI 0) re ak gv kn ro LL ff)) jNo := by
  refine jMet.intro' [(0, .ref mo), (1, .int x), (2, .int y), (3, .int w)] (by decide) (Nat.le_of_ble_eq_true rfl) rfl ?_
  intro p e R s m args below meth c Q C hQ
  refine j_aload_n C dX5_span_0 rfl ?_
  refine j_iload_n C dX5_span_1 rfl ?_
  refine j_i2l (v := x.toInt64) C dX5_span_2 rfl ?_
  refine j_iload_n C dX5_span_3 rfl ?_
  refine j_i2l (v := y.toInt64) C dX5_span_4 rfl ?_
  refine j_iload_n C dX5_span_5 rfl ?_
  refine j_i2l (v := w.toInt64) C dX5_span_6 rfl ?_
  refine j_callSr C (v := .int (bI (¬ x.toInt64 < 0 ∧ ¬ y.toInt64 < x.toInt64 ∧ ¬ w.toInt64 < y.toInt64))) (w := (mW E x0 x1 x2 x3 x4 x5 mo ou th re ak gv kn ro LL ff)) (m_isSpan l E A) ok_X5_isSpan w_989 (by decide) rfl rfl (Nat.le_of_ble_eq_true rfl) ⟨Nat.le_of_ble_eq_true rfl, Nat.le_of_ble_eq_true rfl⟩ dX5_span_7 ?_
  refine j_iload_n C dX5_span_10 rfl ?_
  refine j_callVr C 6 (v := .int x) (w := (mW E x0 x1 x2 x3 x4 x5 mo ou (nI 0) re ak gv kn ro LL ff)) (m_told_b1 l E A (hin)) ok_X5_told w_1026 (by decide) rfl rfl (Nat.le_of_ble_eq_true rfl) rfl rfl ⟨Nat.le_of_ble_eq_true rfl, Nat.le_of_ble_eq_true rfl⟩ dX5_span_11 ?_
  exact j_iret C hQ rfl dX5_span_14 ⟨Nat.le_of_ble_eq_true rfl, Nat.le_of_ble_eq_true rfl⟩ ⟨rfl, rfl⟩
set_option maxHeartbeats 4000000 in
set_option maxRecDepth 100000 in
theorem g_span_o (l : Launch) (E : jE) (A : Nat → Prop) {x0 x1 x2 x3 x4 x5 : Nat × va_E} {mo ou : Nat} {th re ak gv kn : Int32} {ro : Nat → Option Nat} {LL : List Nat} {ff : Nat → va_E} {x y w : Int32} (hout : ¬ (¬ x.toInt64 < 0 ∧ ¬ y.toInt64 < x.toInt64 ∧ ¬ w.toInt64 < y.toInt64)) : jMet l yX5_span cX5_span 4 (some .int) 5 0 0 E A [.ref mo, .int x, .int y, .int w] (mW E x0 x1 x2 x3 x4 x5 mo ou th re ak gv kn ro LL ff) (jR (some (.int (-9))) (mW E x0 x1 x2 x3 x4 x5 mo ou (nI 0) (re + nI 1) ak gv kn ro LL ff)) jNo := by
  refine jMet.intro' [(0, .ref mo), (1, .int x), (2, .int y), (3, .int w)] (by decide) (Nat.le_of_ble_eq_true rfl) rfl ?_
  intro p e R s m args below meth c Q C hQ
  refine j_aload_n C dX5_span_0 rfl ?_
  refine j_iload_n C dX5_span_1 rfl ?_
  refine j_i2l (v := x.toInt64) C dX5_span_2 rfl ?_
  refine j_iload_n C dX5_span_3 rfl ?_
  refine j_i2l (v := y.toInt64) C dX5_span_4 rfl ?_
  refine j_iload_n C dX5_span_5 rfl ?_
  refine j_i2l (v := w.toInt64) C dX5_span_6 rfl ?_
  refine j_callSr C (v := .int (bI (¬ x.toInt64 < 0 ∧ ¬ y.toInt64 < x.toInt64 ∧ ¬ w.toInt64 < y.toInt64))) (w := (mW E x0 x1 x2 x3 x4 x5 mo ou th re ak gv kn ro LL ff)) (m_isSpan l E A) ok_X5_isSpan w_989 (by decide) rfl rfl (Nat.le_of_ble_eq_true rfl) ⟨Nat.le_of_ble_eq_true rfl, Nat.le_of_ble_eq_true rfl⟩ dX5_span_7 ?_
  refine j_iload_n C dX5_span_10 rfl ?_
  refine j_callVr C 6 (v := .int (-9)) (w := (mW E x0 x1 x2 x3 x4 x5 mo ou (nI 0) (re + nI 1) ak gv kn ro LL ff)) (m_told_b0 l E A (hout)) ok_X5_told w_1026 (by decide) rfl rfl (Nat.le_of_ble_eq_true rfl) rfl rfl ⟨Nat.le_of_ble_eq_true rfl, Nat.le_of_ble_eq_true rfl⟩ dX5_span_11 ?_
  exact j_iret C hQ rfl dX5_span_14 ⟨Nat.le_of_ble_eq_true rfl, Nat.le_of_ble_eq_true rfl⟩ ⟨rfl, rfl⟩
set_option maxHeartbeats 4000000 in
set_option maxRecDepth 100000 in
theorem g_isFarSpan_k (l : Launch) (E : jE) (A : Nat → Prop) {x0 x1 x2 x3 x4 x5 : Nat × va_E} {mo ou : Nat} {th re ak gv kn : Int32} {ro : Nat → Option Nat} {LL : List Nat} {ff : Nat → va_E} {x y w : Int32}  : jMet l yX5_isFarSpan cX5_isFarSpan 4 (some .boolean) 5 0 0 E A [.ref mo, .int x, .int y, .int w] (mW E x0 x1 x2 x3 x4 x5 mo ou th re ak gv kn ro LL ff) (jR (some (.int (bI (¬ x.toInt64 < 0 ∧ ¬ y.toInt64 < x.toInt64 ∧ ¬ w.toInt64 < y.toInt64)))) (mW E x0 x1 x2 x3 x4 x5 mo ou (nI 0) re ak gv kn ro LL ff)) jNo := by
  refine jMet.intro' [(0, .ref mo), (1, .int x), (2, .int y), (3, .int w)] (by decide) (Nat.le_of_ble_eq_true rfl) rfl ?_
  intro p e R s m args below meth c Q C hQ
  refine j_aload_n C dX5_isFarSpan_0 rfl ?_
  refine j_iload_n C dX5_isFarSpan_1 rfl ?_
  refine j_i2l (v := x.toInt64) C dX5_isFarSpan_2 rfl ?_
  refine j_iload_n C dX5_isFarSpan_3 rfl ?_
  refine j_i2l (v := y.toInt64) C dX5_isFarSpan_4 rfl ?_
  refine j_iload_n C dX5_isFarSpan_5 rfl ?_
  refine j_i2l (v := w.toInt64) C dX5_isFarSpan_6 rfl ?_
  refine j_callSr C (v := .int (bI (¬ x.toInt64 < 0 ∧ ¬ y.toInt64 < x.toInt64 ∧ ¬ w.toInt64 < y.toInt64))) (w := (mW E x0 x1 x2 x3 x4 x5 mo ou th re ak gv kn ro LL ff)) (m_isSpan l E A) ok_X5_isSpan w_989 (by decide) rfl rfl (Nat.le_of_ble_eq_true rfl) ⟨Nat.le_of_ble_eq_true rfl, Nat.le_of_ble_eq_true rfl⟩ dX5_isFarSpan_7 ?_
  refine j_callVr C 6 (v := .int (bI (¬ x.toInt64 < 0 ∧ ¬ y.toInt64 < x.toInt64 ∧ ¬ w.toInt64 < y.toInt64))) (w := (mW E x0 x1 x2 x3 x4 x5 mo ou (nI 0) re ak gv kn ro LL ff)) (m_is l E A (bI_nar _)) ok_X5_is w_1042 (by decide) rfl rfl (Nat.le_of_ble_eq_true rfl) rfl rfl ⟨Nat.le_of_ble_eq_true rfl, Nat.le_of_ble_eq_true rfl⟩ dX5_isFarSpan_10 ?_
  exact j_zret C hQ rfl (bI_nar _) dX5_isFarSpan_13 ⟨Nat.le_of_ble_eq_true rfl, Nat.le_of_ble_eq_true rfl⟩ ⟨rfl, rfl⟩
set_option maxHeartbeats 4000000 in
set_option maxRecDepth 100000 in
theorem g_stretch_k (l : Launch) (E : jE) (A : Nat → Prop) {x0 x1 x2 x3 x4 x5 : Nat × va_E} {mo ou : Nat} {th re ak gv kn : Int32} {ro : Nat → Option Nat} {LL : List Nat} {ff : Nat → va_E} {x y w : Int32} (hin : ¬ x.toInt64 < 0 ∧ ¬ y.toInt64 < 0 ∧ ¬ w.toInt64 < 0 ∧ ¬ w.toInt64 < x.toInt64 + y.toInt64) : jMet l yX5_stretch cX5_stretch 4 (some .int) 5 0 0 E A [.ref mo, .int x, .int y, .int w] (mW E x0 x1 x2 x3 x4 x5 mo ou th re ak gv kn ro LL ff) (jR (some (.int x)) (mW E x0 x1 x2 x3 x4 x5 mo ou (nI 0) re ak gv kn ro LL ff)) jNo := by
  refine jMet.intro' [(0, .ref mo), (1, .int x), (2, .int y), (3, .int w)] (by decide) (Nat.le_of_ble_eq_true rfl) rfl ?_
  intro p e R s m args below meth c Q C hQ
  refine j_aload_n C dX5_stretch_0 rfl ?_
  refine j_iload_n C dX5_stretch_1 rfl ?_
  refine j_i2l (v := x.toInt64) C dX5_stretch_2 rfl ?_
  refine j_iload_n C dX5_stretch_3 rfl ?_
  refine j_i2l (v := y.toInt64) C dX5_stretch_4 rfl ?_
  refine j_iload_n C dX5_stretch_5 rfl ?_
  refine j_i2l (v := w.toInt64) C dX5_stretch_6 rfl ?_
  refine j_callSr C (v := .int (bI (¬ x.toInt64 < 0 ∧ ¬ y.toInt64 < 0 ∧ ¬ w.toInt64 < 0 ∧ ¬ w.toInt64 < x.toInt64 + y.toInt64))) (w := (mW E x0 x1 x2 x3 x4 x5 mo ou th re ak gv kn ro LL ff)) (m_isStretch l E A) ok_X5_isStretch w_1003 (by decide) rfl rfl (Nat.le_of_ble_eq_true rfl) ⟨Nat.le_of_ble_eq_true rfl, Nat.le_of_ble_eq_true rfl⟩ dX5_stretch_7 ?_
  refine j_iload_n C dX5_stretch_10 rfl ?_
  refine j_callVr C 6 (v := .int x) (w := (mW E x0 x1 x2 x3 x4 x5 mo ou (nI 0) re ak gv kn ro LL ff)) (m_told_b1 l E A (hin)) ok_X5_told w_1026 (by decide) rfl rfl (Nat.le_of_ble_eq_true rfl) rfl rfl ⟨Nat.le_of_ble_eq_true rfl, Nat.le_of_ble_eq_true rfl⟩ dX5_stretch_11 ?_
  exact j_iret C hQ rfl dX5_stretch_14 ⟨Nat.le_of_ble_eq_true rfl, Nat.le_of_ble_eq_true rfl⟩ ⟨rfl, rfl⟩
set_option maxHeartbeats 4000000 in
set_option maxRecDepth 100000 in
theorem g_stretch_o (l : Launch) (E : jE) (A : Nat → Prop) {x0 x1 x2 x3 x4 x5 : Nat × va_E} {mo ou : Nat} {th re ak gv kn : Int32} {ro : Nat → Option Nat} {LL : List Nat} {ff : Nat → va_E} {x y w : Int32} (hout : ¬ (¬ x.toInt64 < 0 ∧ ¬ y.toInt64 < 0 ∧ ¬ w.toInt64 < 0 ∧ ¬ w.toInt64 < x.toInt64 + y.toInt64)) : jMet l yX5_stretch cX5_stretch 4 (some .int) 5 0 0 E A [.ref mo, .int x, .int y, .int w] (mW E x0 x1 x2 x3 x4 x5 mo ou th re ak gv kn ro LL ff) (jR (some (.int (-9))) (mW E x0 x1 x2 x3 x4 x5 mo ou (nI 0) (re + nI 1) ak gv kn ro LL ff)) jNo := by
  refine jMet.intro' [(0, .ref mo), (1, .int x), (2, .int y), (3, .int w)] (by decide) (Nat.le_of_ble_eq_true rfl) rfl ?_
  intro p e R s m args below meth c Q C hQ
  refine j_aload_n C dX5_stretch_0 rfl ?_
  refine j_iload_n C dX5_stretch_1 rfl ?_
  refine j_i2l (v := x.toInt64) C dX5_stretch_2 rfl ?_
  refine j_iload_n C dX5_stretch_3 rfl ?_
  refine j_i2l (v := y.toInt64) C dX5_stretch_4 rfl ?_
  refine j_iload_n C dX5_stretch_5 rfl ?_
  refine j_i2l (v := w.toInt64) C dX5_stretch_6 rfl ?_
  refine j_callSr C (v := .int (bI (¬ x.toInt64 < 0 ∧ ¬ y.toInt64 < 0 ∧ ¬ w.toInt64 < 0 ∧ ¬ w.toInt64 < x.toInt64 + y.toInt64))) (w := (mW E x0 x1 x2 x3 x4 x5 mo ou th re ak gv kn ro LL ff)) (m_isStretch l E A) ok_X5_isStretch w_1003 (by decide) rfl rfl (Nat.le_of_ble_eq_true rfl) ⟨Nat.le_of_ble_eq_true rfl, Nat.le_of_ble_eq_true rfl⟩ dX5_stretch_7 ?_
  refine j_iload_n C dX5_stretch_10 rfl ?_
  refine j_callVr C 6 (v := .int (-9)) (w := (mW E x0 x1 x2 x3 x4 x5 mo ou (nI 0) (re + nI 1) ak gv kn ro LL ff)) (m_told_b0 l E A (hout)) ok_X5_told w_1026 (by decide) rfl rfl (Nat.le_of_ble_eq_true rfl) rfl rfl ⟨Nat.le_of_ble_eq_true rfl, Nat.le_of_ble_eq_true rfl⟩ dX5_stretch_11 ?_
  exact j_iret C hQ rfl dX5_stretch_14 ⟨Nat.le_of_ble_eq_true rfl, Nat.le_of_ble_eq_true rfl⟩ ⟨rfl, rfl⟩
set_option maxHeartbeats 4000000 in
set_option maxRecDepth 100000 in
theorem g_isFarStretch_k (l : Launch) (E : jE) (A : Nat → Prop) {x0 x1 x2 x3 x4 x5 : Nat × va_E} {mo ou : Nat} {th re ak gv kn : Int32} {ro : Nat → Option Nat} {LL : List Nat} {ff : Nat → va_E} {x y w : Int32}  : jMet l yX5_isFarStretch cX5_isFarStretch 4 (some .boolean) 5 0 0 E A [.ref mo, .int x, .int y, .int w] (mW E x0 x1 x2 x3 x4 x5 mo ou th re ak gv kn ro LL ff) (jR (some (.int (bI (¬ x.toInt64 < 0 ∧ ¬ y.toInt64 < 0 ∧ ¬ w.toInt64 < 0 ∧ ¬ w.toInt64 < x.toInt64 + y.toInt64)))) (mW E x0 x1 x2 x3 x4 x5 mo ou (nI 0) re ak gv kn ro LL ff)) jNo := by
  refine jMet.intro' [(0, .ref mo), (1, .int x), (2, .int y), (3, .int w)] (by decide) (Nat.le_of_ble_eq_true rfl) rfl ?_
  intro p e R s m args below meth c Q C hQ
  refine j_aload_n C dX5_isFarStretch_0 rfl ?_
  refine j_iload_n C dX5_isFarStretch_1 rfl ?_
  refine j_i2l (v := x.toInt64) C dX5_isFarStretch_2 rfl ?_
  refine j_iload_n C dX5_isFarStretch_3 rfl ?_
  refine j_i2l (v := y.toInt64) C dX5_isFarStretch_4 rfl ?_
  refine j_iload_n C dX5_isFarStretch_5 rfl ?_
  refine j_i2l (v := w.toInt64) C dX5_isFarStretch_6 rfl ?_
  refine j_callSr C (v := .int (bI (¬ x.toInt64 < 0 ∧ ¬ y.toInt64 < 0 ∧ ¬ w.toInt64 < 0 ∧ ¬ w.toInt64 < x.toInt64 + y.toInt64))) (w := (mW E x0 x1 x2 x3 x4 x5 mo ou th re ak gv kn ro LL ff)) (m_isStretch l E A) ok_X5_isStretch w_1003 (by decide) rfl rfl (Nat.le_of_ble_eq_true rfl) ⟨Nat.le_of_ble_eq_true rfl, Nat.le_of_ble_eq_true rfl⟩ dX5_isFarStretch_7 ?_
  refine j_callVr C 6 (v := .int (bI (¬ x.toInt64 < 0 ∧ ¬ y.toInt64 < 0 ∧ ¬ w.toInt64 < 0 ∧ ¬ w.toInt64 < x.toInt64 + y.toInt64))) (w := (mW E x0 x1 x2 x3 x4 x5 mo ou (nI 0) re ak gv kn ro LL ff)) (m_is l E A (bI_nar _)) ok_X5_is w_1042 (by decide) rfl rfl (Nat.le_of_ble_eq_true rfl) rfl rfl ⟨Nat.le_of_ble_eq_true rfl, Nat.le_of_ble_eq_true rfl⟩ dX5_isFarStretch_10 ?_
  exact j_zret C hQ rfl (bI_nar _) dX5_isFarStretch_13 ⟨Nat.le_of_ble_eq_true rfl, Nat.le_of_ble_eq_true rfl⟩ ⟨rfl, rfl⟩
set_option maxHeartbeats 4000000 in
set_option maxRecDepth 100000 in
theorem g_isFarPlace_k (l : Launch) (E : jE) (A : Nat → Prop) {x0 x1 x2 x3 x4 x5 : Nat × va_E} {mo ou : Nat} {th re ak gv kn : Int32} {ro : Nat → Option Nat} {LL : List Nat} {ff : Nat → va_E} {x y : Int32}  : jMet l yX5_isFarPlace cX5_isFarPlace 3 (some .boolean) 5 0 0 E A [.ref mo, .int x, .int y] (mW E x0 x1 x2 x3 x4 x5 mo ou th re ak gv kn ro LL ff) (jR (some (.int (bI (¬ x < 0 ∧ ¬ y ≤ x)))) (mW E x0 x1 x2 x3 x4 x5 mo ou (nI 0) re ak gv kn ro LL ff)) jNo := by
  refine jMet.intro' [(0, .ref mo), (1, .int x), (2, .int y)] (by decide) (Nat.le_of_ble_eq_true rfl) rfl ?_
  intro p e R s m args below meth c Q C hQ
  refine j_aload_n C dX5_isFarPlace_0 rfl ?_
  refine j_iload_n C dX5_isFarPlace_1 rfl ?_
  refine j_if_lt (tgt := 14) C dX5_isFarPlace_2 (by decide) (fun h2 => ?_) (fun h2 => ?_)
  · skip
    refine j_iconst (v := (nI 0)) C dX5_isFarPlace_14 rfl ?_
    refine j_callVr C 6 (v := .int (nI 0)) (w := (mW E x0 x1 x2 x3 x4 x5 mo ou (nI 0) re ak gv kn ro LL ff)) (m_is l E A rfl) ok_X5_is w_1042 (by decide) rfl rfl (Nat.le_of_ble_eq_true rfl) rfl rfl ⟨Nat.le_of_ble_eq_true rfl, Nat.le_of_ble_eq_true rfl⟩ dX5_isFarPlace_15 ?_
    exact j_zret C hQ rfl rfl dX5_isFarPlace_18 ⟨Nat.le_of_ble_eq_true rfl, Nat.le_of_ble_eq_true rfl⟩ ⟨by rw [bI_f (by simp only [*, not_true_eq_false, not_false_eq_true, false_and, and_false, and_self])]; rfl, rfl⟩
  · skip
    refine j_iload_n C dX5_isFarPlace_5 rfl ?_
    refine j_iload_n C dX5_isFarPlace_6 rfl ?_
    refine j_icmp_ge (tgt := 14) C dX5_isFarPlace_7 (by decide) (fun h7 => ?_) (fun h7 => ?_)
    · skip
      refine j_iconst (v := (nI 0)) C dX5_isFarPlace_14 rfl ?_
      refine j_callVr C 6 (v := .int (nI 0)) (w := (mW E x0 x1 x2 x3 x4 x5 mo ou (nI 0) re ak gv kn ro LL ff)) (m_is l E A rfl) ok_X5_is w_1042 (by decide) rfl rfl (Nat.le_of_ble_eq_true rfl) rfl rfl ⟨Nat.le_of_ble_eq_true rfl, Nat.le_of_ble_eq_true rfl⟩ dX5_isFarPlace_15 ?_
      exact j_zret C hQ rfl rfl dX5_isFarPlace_18 ⟨Nat.le_of_ble_eq_true rfl, Nat.le_of_ble_eq_true rfl⟩ ⟨by rw [bI_f (by simp only [*, not_true_eq_false, not_false_eq_true, false_and, and_false, and_self])]; rfl, rfl⟩
    · skip
      refine j_iconst (v := (nI 1)) C dX5_isFarPlace_10 rfl ?_
      refine j_goto (tgt := 15) C dX5_isFarPlace_11 (by decide) ?_
      refine j_callVr C 6 (v := .int (nI 1)) (w := (mW E x0 x1 x2 x3 x4 x5 mo ou (nI 0) re ak gv kn ro LL ff)) (m_is l E A rfl) ok_X5_is w_1042 (by decide) rfl rfl (Nat.le_of_ble_eq_true rfl) rfl rfl ⟨Nat.le_of_ble_eq_true rfl, Nat.le_of_ble_eq_true rfl⟩ dX5_isFarPlace_15 ?_
      exact j_zret C hQ rfl rfl dX5_isFarPlace_18 ⟨Nat.le_of_ble_eq_true rfl, Nat.le_of_ble_eq_true rfl⟩ ⟨by rw [bI_t (by simp only [*, not_false_eq_true, and_self])]; rfl, rfl⟩
set_option maxHeartbeats 4000000 in
set_option maxRecDepth 100000 in
theorem g_compare_m1 (l : Launch) (E : jE) (A : Nat → Prop) {x0 x1 x2 x3 x4 x5 : Nat × va_E} {mo ou : Nat} {th re ak gv kn : Int32} {ro : Nat → Option Nat} {LL : List Nat} {ff : Nat → va_E} {i : Nat} (hi : i < 9) (hri : ro i = none) {j : Nat} (hj : j < 9)  : jMet l yX5_compare cX5_compare 3 (some .int) 5 0 0 E A [.ref mo, .int (nI i), .int (nI j)] (mW E x0 x1 x2 x3 x4 x5 mo ou th re ak gv kn ro LL ff) (jR (some (.int (-9))) (mW E x0 x1 x2 x3 x4 x5 mo ou (nI 0) (re + nI 1) ak gv kn ro LL ff)) jNo := by
  refine jMet.intro' [(0, .ref mo), (1, .int (nI i)), (2, .int (nI j))] (by decide) (Nat.le_of_ble_eq_true rfl) rfl ?_
  intro p e R s m args below meth c Q C hQ
  refine j_aload_n C dX5_compare_0 rfl ?_
  refine j_iload_n C dX5_compare_1 rfl ?_
  refine j_iload_n C dX5_compare_2 rfl ?_
  refine j_callVr C 6 (v := .int (nI 0)) (w := (mW E x0 x1 x2 x3 x4 x5 mo ou (nI 0) re ak gv kn ro LL ff)) (m_areNo_0 l E A (by omega) (by omega)) ok_X5_areNo w_1014 (by decide) rfl rfl (Nat.le_of_ble_eq_true rfl) rfl rfl ⟨Nat.le_of_ble_eq_true rfl, Nat.le_of_ble_eq_true rfl⟩ dX5_compare_3 ?_
  refine j_ifn_eq_t (tgt := 11) C dX5_compare_6 (by decide) (by omega) (by omega) ?_
  refine j_aload_n C dX5_compare_11 rfl ?_
  refine j_get C 6 rfl inj_X5 rfl 1 (by decide) w_922 rfl dX5_compare_12 ?_
  refine j_iload_n C dX5_compare_15 rfl ?_
  refine j_aaload (v := .null) C 7 i rfl rfl (by omega) (by decide) (by rw [show ro i = none from hri]; rfl) dX5_compare_16 ?_
  refine j_ifnull_t (tgt := 29) C dX5_compare_17 (by decide) ?_
  refine j_aload_n C dX5_compare_29 rfl ?_
  refine j_callVr C 6 (v := .int (-9)) (w := (mW E x0 x1 x2 x3 x4 x5 mo ou (nI 0) (re + nI 1) ak gv kn ro LL ff)) (m_no l E A) ok_X5_no w_992 (by decide) rfl rfl (Nat.le_of_ble_eq_true rfl) rfl rfl ⟨Nat.le_of_ble_eq_true rfl, Nat.le_of_ble_eq_true rfl⟩ dX5_compare_30 ?_
  refine j_goto (tgt := 51) C dX5_compare_33 (by decide) ?_
  exact j_iret C hQ rfl dX5_compare_51 ⟨Nat.le_of_ble_eq_true rfl, Nat.le_of_ble_eq_true rfl⟩ ⟨rfl, rfl⟩
set_option maxHeartbeats 4000000 in
set_option maxRecDepth 100000 in
theorem g_compare_m2 (l : Launch) (E : jE) (A : Nat → Prop) {x0 x1 x2 x3 x4 x5 : Nat × va_E} {mo ou : Nat} {th re ak gv kn : Int32} {ro : Nat → Option Nat} {LL : List Nat} {ff : Nat → va_E} {i : Nat} (hi : i < 9) {ai n : Nat} {h : Nat → Int32} (hrai : ro i = some ai) (hmai : ai ∈ LL) (hfai : ff ai = .inl (E.2.1, n, .inl h)) (hnai : n ≤ 24) {j : Nat} (hj : j < 9) (hrj : ro j = none)  : jMet l yX5_compare cX5_compare 3 (some .int) 5 0 0 E A [.ref mo, .int (nI i), .int (nI j)] (mW E x0 x1 x2 x3 x4 x5 mo ou th re ak gv kn ro LL ff) (jR (some (.int (-9))) (mW E x0 x1 x2 x3 x4 x5 mo ou (nI 0) (re + nI 1) ak gv kn ro LL ff)) jNo := by
  refine jMet.intro' [(0, .ref mo), (1, .int (nI i)), (2, .int (nI j))] (by decide) (Nat.le_of_ble_eq_true rfl) rfl ?_
  intro p e R s m args below meth c Q C hQ
  refine j_aload_n C dX5_compare_0 rfl ?_
  refine j_iload_n C dX5_compare_1 rfl ?_
  refine j_iload_n C dX5_compare_2 rfl ?_
  refine j_callVr C 6 (v := .int (nI 0)) (w := (mW E x0 x1 x2 x3 x4 x5 mo ou (nI 0) re ak gv kn ro LL ff)) (m_areNo_0 l E A (by omega) (by omega)) ok_X5_areNo w_1014 (by decide) rfl rfl (Nat.le_of_ble_eq_true rfl) rfl rfl ⟨Nat.le_of_ble_eq_true rfl, Nat.le_of_ble_eq_true rfl⟩ dX5_compare_3 ?_
  refine j_ifn_eq_t (tgt := 11) C dX5_compare_6 (by decide) (by omega) (by omega) ?_
  refine j_aload_n C dX5_compare_11 rfl ?_
  refine j_get C 6 rfl inj_X5 rfl 1 (by decide) w_922 rfl dX5_compare_12 ?_
  refine j_iload_n C dX5_compare_15 rfl ?_
  refine j_aaload (v := .ref ai) C 7 i rfl rfl (by omega) (by decide) (by rw [show ro i = some ai from hrai]; rfl) dX5_compare_16 ?_
  refine j_ifnull_f C dX5_compare_17 ?_
  refine j_aload_n C dX5_compare_20 rfl ?_
  refine j_get C 6 rfl inj_X5 rfl 1 (by decide) w_922 rfl dX5_compare_21 ?_
  refine j_iload_n C dX5_compare_24 rfl ?_
  refine j_aaload (v := .null) C 7 j rfl rfl (by omega) (by decide) (by rw [show ro j = none from hrj]; rfl) dX5_compare_25 ?_
  refine j_ifnonnull_f C dX5_compare_26 ?_
  refine j_aload_n C dX5_compare_29 rfl ?_
  refine j_callVr C 6 (v := .int (-9)) (w := (mW E x0 x1 x2 x3 x4 x5 mo ou (nI 0) (re + nI 1) ak gv kn ro LL ff)) (m_no l E A) ok_X5_no w_992 (by decide) rfl rfl (Nat.le_of_ble_eq_true rfl) rfl rfl ⟨Nat.le_of_ble_eq_true rfl, Nat.le_of_ble_eq_true rfl⟩ dX5_compare_30 ?_
  refine j_goto (tgt := 51) C dX5_compare_33 (by decide) ?_
  exact j_iret C hQ rfl dX5_compare_51 ⟨Nat.le_of_ble_eq_true rfl, Nat.le_of_ble_eq_true rfl⟩ ⟨rfl, rfl⟩
set_option maxHeartbeats 4000000 in
set_option maxRecDepth 100000 in
theorem g_compare_k (l : Launch) (E : jE) (A : Nat → Prop) {x0 x1 x2 x3 x4 x5 : Nat × va_E} {mo ou : Nat} {th re ak gv kn : Int32} {ro : Nat → Option Nat} {LL : List Nat} {ff : Nat → va_E} {i j : Nat} (hi : i < 9) (hj : j < 9) {ai n : Nat} {h : Nat → Int32} (hrai : ro i = some ai) (hmai : ai ∈ LL) (hfai : ff ai = .inl (E.2.1, n, .inl h)) (hnai : n ≤ 24) {aj o : Nat} {g : Nat → Int32} (hraj : ro j = some aj) (hmaj : aj ∈ LL) (hfaj : ff aj = .inl (E.2.1, o, .inl g)) (hnaj : o ≤ 24)  : jMet l yX5_compare cX5_compare 3 (some .int) 5 0 0 E A [.ref mo, .int (nI i), .int (nI j)] (mW E x0 x1 x2 x3 x4 x5 mo ou th re ak gv kn ro LL ff) (jR (some (.int (cmpF h g (smI (nI n) (nI o)) 0 (min n o - 0)))) (mW E x0 x1 x2 x3 x4 x5 mo ou (nI 0) re ak gv kn ro LL ff)) jNo := by
  refine jMet.intro' [(0, .ref mo), (1, .int (nI i)), (2, .int (nI j))] (by decide) (Nat.le_of_ble_eq_true rfl) rfl ?_
  intro p e R s m args below meth c Q C hQ
  refine j_aload_n C dX5_compare_0 rfl ?_
  refine j_iload_n C dX5_compare_1 rfl ?_
  refine j_iload_n C dX5_compare_2 rfl ?_
  refine j_callVr C 6 (v := .int (nI 0)) (w := (mW E x0 x1 x2 x3 x4 x5 mo ou (nI 0) re ak gv kn ro LL ff)) (m_areNo_0 l E A (by omega) (by omega)) ok_X5_areNo w_1014 (by decide) rfl rfl (Nat.le_of_ble_eq_true rfl) rfl rfl ⟨Nat.le_of_ble_eq_true rfl, Nat.le_of_ble_eq_true rfl⟩ dX5_compare_3 ?_
  refine j_ifn_eq_t (tgt := 11) C dX5_compare_6 (by decide) (by omega) (by omega) ?_
  refine j_aload_n C dX5_compare_11 rfl ?_
  refine j_get C 6 rfl inj_X5 rfl 1 (by decide) w_922 rfl dX5_compare_12 ?_
  refine j_iload_n C dX5_compare_15 rfl ?_
  refine j_aaload (v := .ref ai) C 7 i rfl rfl (by omega) (by decide) (by rw [show ro i = some ai from hrai]; rfl) dX5_compare_16 ?_
  refine j_ifnull_f C dX5_compare_17 ?_
  refine j_aload_n C dX5_compare_20 rfl ?_
  refine j_get C 6 rfl inj_X5 rfl 1 (by decide) w_922 rfl dX5_compare_21 ?_
  refine j_iload_n C dX5_compare_24 rfl ?_
  refine j_aaload (v := .ref aj) C 7 j rfl rfl (by omega) (by decide) (by rw [show ro j = some aj from hraj]; rfl) dX5_compare_25 ?_
  refine j_ifnonnull_t (tgt := 36) C dX5_compare_26 (by decide) ?_
  refine j_aload_n C dX5_compare_36 rfl ?_
  refine j_get C 6 rfl inj_X5 rfl 1 (by decide) w_922 rfl dX5_compare_37 ?_
  refine j_iload_n C dX5_compare_40 rfl ?_
  refine j_aaload (v := .ref ai) C 7 i rfl rfl (by omega) (by decide) (by rw [show ro i = some ai from hrai]; rfl) dX5_compare_41 ?_
  refine j_aload_n C dX5_compare_42 rfl ?_
  refine j_get C 6 rfl inj_X5 rfl 1 (by decide) w_922 rfl dX5_compare_43 ?_
  refine j_iload_n C dX5_compare_46 rfl ?_
  refine j_aaload (v := .ref aj) C 7 j rfl rfl (by omega) (by decide) (by rw [show ro j = some aj from hraj]; rfl) dX5_compare_47 ?_
  refine j_callSr C (v := .int (cmpF h g (smI (nI n) (nI o)) 0 (min n o - 0))) (w := (mW E x0 x1 x2 x3 x4 x5 mo ou (nI 0) re ak gv kn ro LL ff)) (m_compared l E A hmai hfai (by omega) hmaj hfaj (by omega)) ok_X5_compared w_1097 (by decide) rfl rfl (Nat.le_of_ble_eq_true rfl) ⟨Nat.le_of_ble_eq_true rfl, Nat.le_of_ble_eq_true rfl⟩ dX5_compare_48 ?_
  exact j_iret C hQ rfl dX5_compare_51 ⟨Nat.le_of_ble_eq_true rfl, Nat.le_of_ble_eq_true rfl⟩ ⟨rfl, rfl⟩
set_option maxHeartbeats 4000000 in
set_option maxRecDepth 100000 in
theorem g_compareParts_m1 (l : Launch) (E : jE) (A : Nat → Prop) {x0 x1 x2 x3 x4 x5 : Nat × va_E} {mo ou : Nat} {th re ak gv kn : Int32} {ro : Nat → Option Nat} {LL : List Nat} {ff : Nat → va_E} {i : Nat} (hi : i < 9) (hri : ro i = none) {j : Nat} (hj : j < 9) {u w : Int32}  : jMet l yX5_compareParts cX5_compareParts 5 (some .int) 5 0 0 E A [.ref mo, .int (nI i), .int (nI j), .int u, .int w] (mW E x0 x1 x2 x3 x4 x5 mo ou th re ak gv kn ro LL ff) (jR (some (.int (-9))) (mW E x0 x1 x2 x3 x4 x5 mo ou (nI 0) (re + nI 1) ak gv kn ro LL ff)) jNo := by
  refine jMet.intro' [(0, .ref mo), (1, .int (nI i)), (2, .int (nI j)), (3, .int u), (4, .int w)] (by decide) (Nat.le_of_ble_eq_true rfl) rfl ?_
  intro p e R s m args below meth c Q C hQ
  refine j_aload_n C dX5_compareParts_0 rfl ?_
  refine j_iload_n C dX5_compareParts_1 rfl ?_
  refine j_iload_n C dX5_compareParts_2 rfl ?_
  refine j_callVr C 6 (v := .int (nI 0)) (w := (mW E x0 x1 x2 x3 x4 x5 mo ou (nI 0) re ak gv kn ro LL ff)) (m_areNo_0 l E A (by omega) (by omega)) ok_X5_areNo w_1014 (by decide) rfl rfl (Nat.le_of_ble_eq_true rfl) rfl rfl ⟨Nat.le_of_ble_eq_true rfl, Nat.le_of_ble_eq_true rfl⟩ dX5_compareParts_3 ?_
  refine j_ifn_eq_t (tgt := 11) C dX5_compareParts_6 (by decide) (by omega) (by omega) ?_
  refine j_aload_n C dX5_compareParts_11 rfl ?_
  refine j_get C 6 rfl inj_X5 rfl 1 (by decide) w_922 rfl dX5_compareParts_12 ?_
  refine j_iload_n C dX5_compareParts_15 rfl ?_
  refine j_aaload (v := .null) C 7 i rfl rfl (by omega) (by decide) (by rw [show ro i = none from hri]; rfl) dX5_compareParts_16 ?_
  refine j_ifnull_t (tgt := 63) C dX5_compareParts_17 (by decide) ?_
  refine j_aload_n C dX5_compareParts_63 rfl ?_
  refine j_callVr C 6 (v := .int (-9)) (w := (mW E x0 x1 x2 x3 x4 x5 mo ou (nI 0) (re + nI 1) ak gv kn ro LL ff)) (m_no l E A) ok_X5_no w_992 (by decide) rfl rfl (Nat.le_of_ble_eq_true rfl) rfl rfl ⟨Nat.le_of_ble_eq_true rfl, Nat.le_of_ble_eq_true rfl⟩ dX5_compareParts_64 ?_
  exact j_iret C hQ rfl dX5_compareParts_67 ⟨Nat.le_of_ble_eq_true rfl, Nat.le_of_ble_eq_true rfl⟩ ⟨rfl, rfl⟩
set_option maxHeartbeats 4000000 in
set_option maxRecDepth 100000 in
theorem g_compareParts_m2 (l : Launch) (E : jE) (A : Nat → Prop) {x0 x1 x2 x3 x4 x5 : Nat × va_E} {mo ou : Nat} {th re ak gv kn : Int32} {ro : Nat → Option Nat} {LL : List Nat} {ff : Nat → va_E} {i : Nat} (hi : i < 9) {ai n : Nat} {h : Nat → Int32} (hrai : ro i = some ai) (hmai : ai ∈ LL) (hfai : ff ai = .inl (E.2.1, n, .inl h)) (hnai : n ≤ 24) {j : Nat} (hj : j < 9) (hrj : ro j = none) {u w : Int32}  : jMet l yX5_compareParts cX5_compareParts 5 (some .int) 5 0 0 E A [.ref mo, .int (nI i), .int (nI j), .int u, .int w] (mW E x0 x1 x2 x3 x4 x5 mo ou th re ak gv kn ro LL ff) (jR (some (.int (-9))) (mW E x0 x1 x2 x3 x4 x5 mo ou (nI 0) (re + nI 1) ak gv kn ro LL ff)) jNo := by
  refine jMet.intro' [(0, .ref mo), (1, .int (nI i)), (2, .int (nI j)), (3, .int u), (4, .int w)] (by decide) (Nat.le_of_ble_eq_true rfl) rfl ?_
  intro p e R s m args below meth c Q C hQ
  refine j_aload_n C dX5_compareParts_0 rfl ?_
  refine j_iload_n C dX5_compareParts_1 rfl ?_
  refine j_iload_n C dX5_compareParts_2 rfl ?_
  refine j_callVr C 6 (v := .int (nI 0)) (w := (mW E x0 x1 x2 x3 x4 x5 mo ou (nI 0) re ak gv kn ro LL ff)) (m_areNo_0 l E A (by omega) (by omega)) ok_X5_areNo w_1014 (by decide) rfl rfl (Nat.le_of_ble_eq_true rfl) rfl rfl ⟨Nat.le_of_ble_eq_true rfl, Nat.le_of_ble_eq_true rfl⟩ dX5_compareParts_3 ?_
  refine j_ifn_eq_t (tgt := 11) C dX5_compareParts_6 (by decide) (by omega) (by omega) ?_
  refine j_aload_n C dX5_compareParts_11 rfl ?_
  refine j_get C 6 rfl inj_X5 rfl 1 (by decide) w_922 rfl dX5_compareParts_12 ?_
  refine j_iload_n C dX5_compareParts_15 rfl ?_
  refine j_aaload (v := .ref ai) C 7 i rfl rfl (by omega) (by decide) (by rw [show ro i = some ai from hrai]; rfl) dX5_compareParts_16 ?_
  refine j_ifnull_f C dX5_compareParts_17 ?_
  refine j_aload_n C dX5_compareParts_20 rfl ?_
  refine j_get C 6 rfl inj_X5 rfl 1 (by decide) w_922 rfl dX5_compareParts_21 ?_
  refine j_iload_n C dX5_compareParts_24 rfl ?_
  refine j_aaload (v := .null) C 7 j rfl rfl (by omega) (by decide) (by rw [show ro j = none from hrj]; rfl) dX5_compareParts_25 ?_
  refine j_ifnull_t (tgt := 63) C dX5_compareParts_26 (by decide) ?_
  refine j_aload_n C dX5_compareParts_63 rfl ?_
  refine j_callVr C 6 (v := .int (-9)) (w := (mW E x0 x1 x2 x3 x4 x5 mo ou (nI 0) (re + nI 1) ak gv kn ro LL ff)) (m_no l E A) ok_X5_no w_992 (by decide) rfl rfl (Nat.le_of_ble_eq_true rfl) rfl rfl ⟨Nat.le_of_ble_eq_true rfl, Nat.le_of_ble_eq_true rfl⟩ dX5_compareParts_64 ?_
  exact j_iret C hQ rfl dX5_compareParts_67 ⟨Nat.le_of_ble_eq_true rfl, Nat.le_of_ble_eq_true rfl⟩ ⟨rfl, rfl⟩
set_option maxHeartbeats 4000000 in
set_option maxRecDepth 100000 in
theorem g_compareParts_o1 (l : Launch) (E : jE) (A : Nat → Prop) {x0 x1 x2 x3 x4 x5 : Nat × va_E} {mo ou : Nat} {th re ak gv kn : Int32} {ro : Nat → Option Nat} {LL : List Nat} {ff : Nat → va_E} {i j : Nat} (hi : i < 9) (hj : j < 9) {ai n : Nat} {h : Nat → Int32} (hrai : ro i = some ai) (hmai : ai ∈ LL) (hfai : ff ai = .inl (E.2.1, n, .inl h)) (hnai : n ≤ 24) {aj o : Nat} {g : Nat → Int32} (hraj : ro j = some aj) (hmaj : aj ∈ LL) (hfaj : ff aj = .inl (E.2.1, o, .inl g)) (hnaj : o ≤ 24) {u w : Int32} (hout : ¬ (¬ u.toInt64 < 0 ∧ ¬ w.toInt64 < u.toInt64 ∧ ¬ ((nI n).toInt64) < w.toInt64)) : jMet l yX5_compareParts cX5_compareParts 5 (some .int) 5 0 0 E A [.ref mo, .int (nI i), .int (nI j), .int u, .int w] (mW E x0 x1 x2 x3 x4 x5 mo ou th re ak gv kn ro LL ff) (jR (some (.int (-9))) (mW E x0 x1 x2 x3 x4 x5 mo ou (nI 0) (re + nI 1) ak gv kn ro LL ff)) jNo := by
  refine jMet.intro' [(0, .ref mo), (1, .int (nI i)), (2, .int (nI j)), (3, .int u), (4, .int w)] (by decide) (Nat.le_of_ble_eq_true rfl) rfl ?_
  intro p e R s m args below meth c Q C hQ
  refine j_aload_n C dX5_compareParts_0 rfl ?_
  refine j_iload_n C dX5_compareParts_1 rfl ?_
  refine j_iload_n C dX5_compareParts_2 rfl ?_
  refine j_callVr C 6 (v := .int (nI 0)) (w := (mW E x0 x1 x2 x3 x4 x5 mo ou (nI 0) re ak gv kn ro LL ff)) (m_areNo_0 l E A (by omega) (by omega)) ok_X5_areNo w_1014 (by decide) rfl rfl (Nat.le_of_ble_eq_true rfl) rfl rfl ⟨Nat.le_of_ble_eq_true rfl, Nat.le_of_ble_eq_true rfl⟩ dX5_compareParts_3 ?_
  refine j_ifn_eq_t (tgt := 11) C dX5_compareParts_6 (by decide) (by omega) (by omega) ?_
  refine j_aload_n C dX5_compareParts_11 rfl ?_
  refine j_get C 6 rfl inj_X5 rfl 1 (by decide) w_922 rfl dX5_compareParts_12 ?_
  refine j_iload_n C dX5_compareParts_15 rfl ?_
  refine j_aaload (v := .ref ai) C 7 i rfl rfl (by omega) (by decide) (by rw [show ro i = some ai from hrai]; rfl) dX5_compareParts_16 ?_
  refine j_ifnull_f C dX5_compareParts_17 ?_
  refine j_aload_n C dX5_compareParts_20 rfl ?_
  refine j_get C 6 rfl inj_X5 rfl 1 (by decide) w_922 rfl dX5_compareParts_21 ?_
  refine j_iload_n C dX5_compareParts_24 rfl ?_
  refine j_aaload (v := .ref aj) C 7 j rfl rfl (by omega) (by decide) (by rw [show ro j = some aj from hraj]; rfl) dX5_compareParts_25 ?_
  refine j_ifnull_f C dX5_compareParts_26 ?_
  refine j_iload_n C dX5_compareParts_29 rfl ?_
  refine j_i2l (v := u.toInt64) C dX5_compareParts_30 rfl ?_
  refine j_iload C dX5_compareParts_31 rfl ?_
  refine j_i2l (v := w.toInt64) C dX5_compareParts_33 rfl ?_
  refine j_aload_n C dX5_compareParts_34 rfl ?_
  refine j_iload_n C dX5_compareParts_35 rfl ?_
  refine j_callVr C 6 (v := .int (nI n)) (w := (mW E x0 x1 x2 x3 x4 x5 mo ou (nI 0) re ak gv kn ro LL ff)) (m_many_k l E A (by omega) hrai hmai hfai (by omega)) ok_X5_many w_970 (by decide) rfl rfl (Nat.le_of_ble_eq_true rfl) rfl rfl ⟨Nat.le_of_ble_eq_true rfl, Nat.le_of_ble_eq_true rfl⟩ dX5_compareParts_36 ?_
  refine j_i2l (v := (nI n).toInt64) C dX5_compareParts_39 rfl ?_
  refine j_callSr C (v := .int (bI (¬ u.toInt64 < 0 ∧ ¬ w.toInt64 < u.toInt64 ∧ ¬ ((nI n).toInt64) < w.toInt64))) (w := (mW E x0 x1 x2 x3 x4 x5 mo ou (nI 0) re ak gv kn ro LL ff)) (m_isSpan l E A) ok_X5_isSpan w_989 (by decide) rfl rfl (Nat.le_of_ble_eq_true rfl) ⟨Nat.le_of_ble_eq_true rfl, Nat.le_of_ble_eq_true rfl⟩ dX5_compareParts_40 ?_
  refine j_ifb_eq_t (tgt := 63) C dX5_compareParts_43 (by decide) hout ?_
  refine j_aload_n C dX5_compareParts_63 rfl ?_
  refine j_callVr C 6 (v := .int (-9)) (w := (mW E x0 x1 x2 x3 x4 x5 mo ou (nI 0) (re + nI 1) ak gv kn ro LL ff)) (m_no l E A) ok_X5_no w_992 (by decide) rfl rfl (Nat.le_of_ble_eq_true rfl) rfl rfl ⟨Nat.le_of_ble_eq_true rfl, Nat.le_of_ble_eq_true rfl⟩ dX5_compareParts_64 ?_
  exact j_iret C hQ rfl dX5_compareParts_67 ⟨Nat.le_of_ble_eq_true rfl, Nat.le_of_ble_eq_true rfl⟩ ⟨rfl, rfl⟩
set_option maxHeartbeats 4000000 in
set_option maxRecDepth 100000 in
theorem g_compareParts_o2 (l : Launch) (E : jE) (A : Nat → Prop) {x0 x1 x2 x3 x4 x5 : Nat × va_E} {mo ou : Nat} {th re ak gv kn : Int32} {ro : Nat → Option Nat} {LL : List Nat} {ff : Nat → va_E} {i j : Nat} (hi : i < 9) (hj : j < 9) {ai n : Nat} {h : Nat → Int32} (hrai : ro i = some ai) (hmai : ai ∈ LL) (hfai : ff ai = .inl (E.2.1, n, .inl h)) (hnai : n ≤ 24) {aj o : Nat} {g : Nat → Int32} (hraj : ro j = some aj) (hmaj : aj ∈ LL) (hfaj : ff aj = .inl (E.2.1, o, .inl g)) (hnaj : o ≤ 24) {u w : Int32} (hin : ¬ u.toInt64 < 0 ∧ ¬ w.toInt64 < u.toInt64 ∧ ¬ ((nI n).toInt64) < w.toInt64) (hout : ¬ (¬ u.toInt64 < 0 ∧ ¬ w.toInt64 < u.toInt64 ∧ ¬ ((nI o).toInt64) < w.toInt64)) : jMet l yX5_compareParts cX5_compareParts 5 (some .int) 5 0 0 E A [.ref mo, .int (nI i), .int (nI j), .int u, .int w] (mW E x0 x1 x2 x3 x4 x5 mo ou th re ak gv kn ro LL ff) (jR (some (.int (-9))) (mW E x0 x1 x2 x3 x4 x5 mo ou (nI 0) (re + nI 1) ak gv kn ro LL ff)) jNo := by
  refine jMet.intro' [(0, .ref mo), (1, .int (nI i)), (2, .int (nI j)), (3, .int u), (4, .int w)] (by decide) (Nat.le_of_ble_eq_true rfl) rfl ?_
  intro p e R s m args below meth c Q C hQ
  refine j_aload_n C dX5_compareParts_0 rfl ?_
  refine j_iload_n C dX5_compareParts_1 rfl ?_
  refine j_iload_n C dX5_compareParts_2 rfl ?_
  refine j_callVr C 6 (v := .int (nI 0)) (w := (mW E x0 x1 x2 x3 x4 x5 mo ou (nI 0) re ak gv kn ro LL ff)) (m_areNo_0 l E A (by omega) (by omega)) ok_X5_areNo w_1014 (by decide) rfl rfl (Nat.le_of_ble_eq_true rfl) rfl rfl ⟨Nat.le_of_ble_eq_true rfl, Nat.le_of_ble_eq_true rfl⟩ dX5_compareParts_3 ?_
  refine j_ifn_eq_t (tgt := 11) C dX5_compareParts_6 (by decide) (by omega) (by omega) ?_
  refine j_aload_n C dX5_compareParts_11 rfl ?_
  refine j_get C 6 rfl inj_X5 rfl 1 (by decide) w_922 rfl dX5_compareParts_12 ?_
  refine j_iload_n C dX5_compareParts_15 rfl ?_
  refine j_aaload (v := .ref ai) C 7 i rfl rfl (by omega) (by decide) (by rw [show ro i = some ai from hrai]; rfl) dX5_compareParts_16 ?_
  refine j_ifnull_f C dX5_compareParts_17 ?_
  refine j_aload_n C dX5_compareParts_20 rfl ?_
  refine j_get C 6 rfl inj_X5 rfl 1 (by decide) w_922 rfl dX5_compareParts_21 ?_
  refine j_iload_n C dX5_compareParts_24 rfl ?_
  refine j_aaload (v := .ref aj) C 7 j rfl rfl (by omega) (by decide) (by rw [show ro j = some aj from hraj]; rfl) dX5_compareParts_25 ?_
  refine j_ifnull_f C dX5_compareParts_26 ?_
  refine j_iload_n C dX5_compareParts_29 rfl ?_
  refine j_i2l (v := u.toInt64) C dX5_compareParts_30 rfl ?_
  refine j_iload C dX5_compareParts_31 rfl ?_
  refine j_i2l (v := w.toInt64) C dX5_compareParts_33 rfl ?_
  refine j_aload_n C dX5_compareParts_34 rfl ?_
  refine j_iload_n C dX5_compareParts_35 rfl ?_
  refine j_callVr C 6 (v := .int (nI n)) (w := (mW E x0 x1 x2 x3 x4 x5 mo ou (nI 0) re ak gv kn ro LL ff)) (m_many_k l E A (by omega) hrai hmai hfai (by omega)) ok_X5_many w_970 (by decide) rfl rfl (Nat.le_of_ble_eq_true rfl) rfl rfl ⟨Nat.le_of_ble_eq_true rfl, Nat.le_of_ble_eq_true rfl⟩ dX5_compareParts_36 ?_
  refine j_i2l (v := (nI n).toInt64) C dX5_compareParts_39 rfl ?_
  refine j_callSr C (v := .int (bI (¬ u.toInt64 < 0 ∧ ¬ w.toInt64 < u.toInt64 ∧ ¬ ((nI n).toInt64) < w.toInt64))) (w := (mW E x0 x1 x2 x3 x4 x5 mo ou (nI 0) re ak gv kn ro LL ff)) (m_isSpan l E A) ok_X5_isSpan w_989 (by decide) rfl rfl (Nat.le_of_ble_eq_true rfl) ⟨Nat.le_of_ble_eq_true rfl, Nat.le_of_ble_eq_true rfl⟩ dX5_compareParts_40 ?_
  refine j_ifb_eq_f (tgt := 63) C dX5_compareParts_43 (by decide) hin ?_
  refine j_iload_n C dX5_compareParts_46 rfl ?_
  refine j_i2l (v := u.toInt64) C dX5_compareParts_47 rfl ?_
  refine j_iload C dX5_compareParts_48 rfl ?_
  refine j_i2l (v := w.toInt64) C dX5_compareParts_50 rfl ?_
  refine j_aload_n C dX5_compareParts_51 rfl ?_
  refine j_iload_n C dX5_compareParts_52 rfl ?_
  refine j_callVr C 6 (v := .int (nI o)) (w := (mW E x0 x1 x2 x3 x4 x5 mo ou (nI 0) re ak gv kn ro LL ff)) (m_many_k l E A (by omega) hraj hmaj hfaj (by omega)) ok_X5_many w_970 (by decide) rfl rfl (Nat.le_of_ble_eq_true rfl) rfl rfl ⟨Nat.le_of_ble_eq_true rfl, Nat.le_of_ble_eq_true rfl⟩ dX5_compareParts_53 ?_
  refine j_i2l (v := (nI o).toInt64) C dX5_compareParts_56 rfl ?_
  refine j_callSr C (v := .int (bI (¬ u.toInt64 < 0 ∧ ¬ w.toInt64 < u.toInt64 ∧ ¬ ((nI o).toInt64) < w.toInt64))) (w := (mW E x0 x1 x2 x3 x4 x5 mo ou (nI 0) re ak gv kn ro LL ff)) (m_isSpan l E A) ok_X5_isSpan w_989 (by decide) rfl rfl (Nat.le_of_ble_eq_true rfl) ⟨Nat.le_of_ble_eq_true rfl, Nat.le_of_ble_eq_true rfl⟩ dX5_compareParts_57 ?_
  refine j_ifb_ne_f (tgt := 68) C dX5_compareParts_60 (by decide) hout ?_
  refine j_aload_n C dX5_compareParts_63 rfl ?_
  refine j_callVr C 6 (v := .int (-9)) (w := (mW E x0 x1 x2 x3 x4 x5 mo ou (nI 0) (re + nI 1) ak gv kn ro LL ff)) (m_no l E A) ok_X5_no w_992 (by decide) rfl rfl (Nat.le_of_ble_eq_true rfl) rfl rfl ⟨Nat.le_of_ble_eq_true rfl, Nat.le_of_ble_eq_true rfl⟩ dX5_compareParts_64 ?_
  exact j_iret C hQ rfl dX5_compareParts_67 ⟨Nat.le_of_ble_eq_true rfl, Nat.le_of_ble_eq_true rfl⟩ ⟨rfl, rfl⟩
set_option maxHeartbeats 4000000 in
set_option maxRecDepth 100000 in
theorem g_compareParts_k (l : Launch) (E : jE) (A : Nat → Prop) {x0 x1 x2 x3 x4 x5 : Nat × va_E} {mo ou : Nat} {th re ak gv kn : Int32} {ro : Nat → Option Nat} {LL : List Nat} {ff : Nat → va_E} {i j : Nat} (hi : i < 9) (hj : j < 9) {ai n : Nat} {h : Nat → Int32} (hrai : ro i = some ai) (hmai : ai ∈ LL) (hfai : ff ai = .inl (E.2.1, n, .inl h)) (hnai : n ≤ 24) {aj o : Nat} {g : Nat → Int32} (hraj : ro j = some aj) (hmaj : aj ∈ LL) (hfaj : ff aj = .inl (E.2.1, o, .inl g)) (hnaj : o ≤ 24) {u w : Nat} (huw : u ≤ w) (hwn : w ≤ n) (hwo : w ≤ o)  : jMet l yX5_compareParts cX5_compareParts 5 (some .int) 5 2 48 E A [.ref mo, .int (nI i), .int (nI j), .int (nI u), .int (nI w)] (mW E x0 x1 x2 x3 x4 x5 mo ou th re ak gv kn ro LL ff) (fun vv ww => ∃ q q2 : Nat, q ∉ LL ∧ q2 ∉ LL ++ [q] ∧ vv = some (.int (cmpF (pfx (fun q => h (u + q)) (w - u)) (pfx (fun q => g (u + q)) (w - u)) (smI (nI (w - u)) (nI (w - u))) 0 (min (w - u) (w - u) - 0))) ∧ ww = (mW E x0 x1 x2 x3 x4 x5 mo ou (nI 0) re ak gv kn ro (LL ++ [q] ++ [q2]) (va_up (va_up ff q (.inl (E.2.1, w - u, .inl (pfx (fun q => h (u + q)) (w - u))))) q2 (.inl (E.2.1, w - u, .inl (pfx (fun q => g (u + q)) (w - u))))))) jNo := by
  refine jMet.intro' [(0, .ref mo), (1, .int (nI i)), (2, .int (nI j)), (3, .int (nI u)), (4, .int (nI w))] (by decide) (Nat.le_of_ble_eq_true rfl) rfl ?_
  intro p e R s m args below meth c Q C hQ
  refine j_aload_n C dX5_compareParts_0 rfl ?_
  refine j_iload_n C dX5_compareParts_1 rfl ?_
  refine j_iload_n C dX5_compareParts_2 rfl ?_
  refine j_callVr C 6 (v := .int (nI 0)) (w := (mW E x0 x1 x2 x3 x4 x5 mo ou (nI 0) re ak gv kn ro LL ff)) (m_areNo_0 l E A (by omega) (by omega)) ok_X5_areNo w_1014 (by decide) rfl rfl (Nat.le_of_ble_eq_true rfl) rfl rfl ⟨Nat.le_of_ble_eq_true rfl, Nat.le_of_ble_eq_true rfl⟩ dX5_compareParts_3 ?_
  refine j_ifn_eq_t (tgt := 11) C dX5_compareParts_6 (by decide) (by omega) (by omega) ?_
  refine j_aload_n C dX5_compareParts_11 rfl ?_
  refine j_get C 6 rfl inj_X5 rfl 1 (by decide) w_922 rfl dX5_compareParts_12 ?_
  refine j_iload_n C dX5_compareParts_15 rfl ?_
  refine j_aaload (v := .ref ai) C 7 i rfl rfl (by omega) (by decide) (by rw [show ro i = some ai from hrai]; rfl) dX5_compareParts_16 ?_
  refine j_ifnull_f C dX5_compareParts_17 ?_
  refine j_aload_n C dX5_compareParts_20 rfl ?_
  refine j_get C 6 rfl inj_X5 rfl 1 (by decide) w_922 rfl dX5_compareParts_21 ?_
  refine j_iload_n C dX5_compareParts_24 rfl ?_
  refine j_aaload (v := .ref aj) C 7 j rfl rfl (by omega) (by decide) (by rw [show ro j = some aj from hraj]; rfl) dX5_compareParts_25 ?_
  refine j_ifnull_f C dX5_compareParts_26 ?_
  refine j_iload_n C dX5_compareParts_29 rfl ?_
  refine j_i2l (v := (nI u).toInt64) C dX5_compareParts_30 rfl ?_
  refine j_iload C dX5_compareParts_31 rfl ?_
  refine j_i2l (v := (nI w).toInt64) C dX5_compareParts_33 rfl ?_
  refine j_aload_n C dX5_compareParts_34 rfl ?_
  refine j_iload_n C dX5_compareParts_35 rfl ?_
  refine j_callVr C 6 (v := .int (nI n)) (w := (mW E x0 x1 x2 x3 x4 x5 mo ou (nI 0) re ak gv kn ro LL ff)) (m_many_k l E A (by omega) hrai hmai hfai (by omega)) ok_X5_many w_970 (by decide) rfl rfl (Nat.le_of_ble_eq_true rfl) rfl rfl ⟨Nat.le_of_ble_eq_true rfl, Nat.le_of_ble_eq_true rfl⟩ dX5_compareParts_36 ?_
  refine j_i2l (v := (nI n).toInt64) C dX5_compareParts_39 rfl ?_
  refine j_callSr C (v := .int (bI (¬ ((nI u).toInt64) < 0 ∧ ¬ ((nI w).toInt64) < ((nI u).toInt64) ∧ ¬ ((nI n).toInt64) < ((nI w).toInt64)))) (w := (mW E x0 x1 x2 x3 x4 x5 mo ou (nI 0) re ak gv kn ro LL ff)) (m_isSpan l E A) ok_X5_isSpan w_989 (by decide) rfl rfl (Nat.le_of_ble_eq_true rfl) ⟨Nat.le_of_ble_eq_true rfl, Nat.le_of_ble_eq_true rfl⟩ dX5_compareParts_40 ?_
  refine j_ifb_eq_f (tgt := 63) C dX5_compareParts_43 (by decide) (span_of huw hwn hnai) ?_
  refine j_iload_n C dX5_compareParts_46 rfl ?_
  refine j_i2l (v := (nI u).toInt64) C dX5_compareParts_47 rfl ?_
  refine j_iload C dX5_compareParts_48 rfl ?_
  refine j_i2l (v := (nI w).toInt64) C dX5_compareParts_50 rfl ?_
  refine j_aload_n C dX5_compareParts_51 rfl ?_
  refine j_iload_n C dX5_compareParts_52 rfl ?_
  refine j_callVr C 6 (v := .int (nI o)) (w := (mW E x0 x1 x2 x3 x4 x5 mo ou (nI 0) re ak gv kn ro LL ff)) (m_many_k l E A (by omega) hraj hmaj hfaj (by omega)) ok_X5_many w_970 (by decide) rfl rfl (Nat.le_of_ble_eq_true rfl) rfl rfl ⟨Nat.le_of_ble_eq_true rfl, Nat.le_of_ble_eq_true rfl⟩ dX5_compareParts_53 ?_
  refine j_i2l (v := (nI o).toInt64) C dX5_compareParts_56 rfl ?_
  refine j_callSr C (v := .int (bI (¬ ((nI u).toInt64) < 0 ∧ ¬ ((nI w).toInt64) < ((nI u).toInt64) ∧ ¬ ((nI o).toInt64) < ((nI w).toInt64)))) (w := (mW E x0 x1 x2 x3 x4 x5 mo ou (nI 0) re ak gv kn ro LL ff)) (m_isSpan l E A) ok_X5_isSpan w_989 (by decide) rfl rfl (Nat.le_of_ble_eq_true rfl) ⟨Nat.le_of_ble_eq_true rfl, Nat.le_of_ble_eq_true rfl⟩ dX5_compareParts_57 ?_
  refine j_ifb_ne_t (tgt := 68) C dX5_compareParts_60 (by decide) (span_of huw hwo hnaj) ?_
  refine j_aload_n C dX5_compareParts_68 rfl ?_
  refine j_get C 6 rfl inj_X5 rfl 1 (by decide) w_922 rfl dX5_compareParts_69 ?_
  refine j_iload_n C dX5_compareParts_72 rfl ?_
  refine j_aaload (v := .ref ai) C 7 i rfl rfl (by omega) (by decide) (by rw [show ro i = some ai from hrai]; rfl) dX5_compareParts_73 ?_
  refine j_iload_n C dX5_compareParts_74 rfl ?_
  refine j_iload C dX5_compareParts_75 rfl ?_
  refine j_callSf C (n := w - u) (h := pfx (fun q => h (u + q)) (w - u)) (m_part l E A hmai hfai (by omega) (by omega) (by omega)) ok_X5_part w_996 (by decide) rfl rfl (Nat.le_of_ble_eq_true rfl) ⟨Nat.le_of_ble_eq_true rfl, Nat.le_of_ble_eq_true rfl⟩ dX5_compareParts_77 (fun q1 hq1 => ?_)
  refine j_aload_n C dX5_compareParts_80 rfl ?_
  refine j_get C 6 rfl inj_X5 rfl 1 (by decide) w_922 rfl dX5_compareParts_81 ?_
  refine j_iload_n C dX5_compareParts_84 rfl ?_
  refine j_aaload (v := .ref aj) C 7 j rfl rfl (by omega) (by decide) (by rw [show ro j = some aj from hraj]; rfl) dX5_compareParts_85 ?_
  refine j_iload_n C dX5_compareParts_86 rfl ?_
  refine j_iload C dX5_compareParts_87 rfl ?_
  refine j_callSf C (n := w - u) (h := pfx (fun q => g (u + q)) (w - u)) (m_part l E A (pool_old hmaj) (pool_keep hmaj hq1 hfaj) (by omega) (by omega) (by omega)) ok_X5_part w_996 (by decide) rfl rfl (Nat.le_of_ble_eq_true rfl) ⟨Nat.le_of_ble_eq_true rfl, Nat.le_of_ble_eq_true rfl⟩ dX5_compareParts_89 (fun q2 hq2 => ?_)
  refine j_callSr C (v := .int (cmpF (pfx (fun q => h (u + q)) (w - u)) (pfx (fun q => g (u + q)) (w - u)) (smI (nI (w - u)) (nI (w - u))) 0 (min (w - u) (w - u) - 0))) (w := (mW E x0 x1 x2 x3 x4 x5 mo ou (nI 0) re ak gv kn ro (LL ++ [q1] ++ [q2]) (va_up (va_up ff q1 (.inl (E.2.1, w - u, .inl (pfx (fun q => h (u + q)) (w - u))))) q2 (.inl (E.2.1, w - u, .inl (pfx (fun q => g (u + q)) (w - u))))))) (m_compared l E A (pool_old pool_newm) (pool_keep pool_newm hq2 pool_new) (by omega) pool_newm pool_new (by omega)) ok_X5_compared w_1097 (by decide) rfl rfl (Nat.le_of_ble_eq_true rfl) ⟨Nat.le_of_ble_eq_true rfl, Nat.le_of_ble_eq_true rfl⟩ dX5_compareParts_92 ?_
  exact j_iret C hQ rfl dX5_compareParts_95 ⟨Nat.le_of_ble_eq_true rfl, Nat.le_of_ble_eq_true rfl⟩ ⟨q1, q2, hq1, hq2, rfl, rfl⟩
set_option maxHeartbeats 4000000 in
set_option maxRecDepth 100000 in
theorem g_isLike_b1 (l : Launch) (E : jE) (A : Nat → Prop) {x0 x1 x2 x3 x4 x5 : Nat × va_E} {mo ou : Nat} {th re ak gv kn : Int32} {ro : Nat → Option Nat} {LL : List Nat} {ff : Nat → va_E} {x y : Int32} (hbx : x < 0 ∨ nI 3 ≤ x)  : jMet l yX5_isLike cX5_isLike 3 (some .int) 5 0 0 E A [.ref mo, .int x, .int y] (mW E x0 x1 x2 x3 x4 x5 mo ou th re ak gv kn ro LL ff) (jR (some (.int (nI 0))) (mW E x0 x1 x2 x3 x4 x5 mo ou (nI 1) re ak gv kn ro LL ff)) jNo := by
  refine jMet.intro' [(0, .ref mo), (1, .int x), (2, .int y)] (by decide) (Nat.le_of_ble_eq_true rfl) rfl ?_
  intro p e R s m args below meth c Q C hQ
  refine j_aload_n C dX5_isLike_0 rfl ?_
  refine j_iload_n C dX5_isLike_1 rfl ?_
  refine j_iconst (v := (nI 0)) C dX5_isLike_2 rfl ?_
  refine j_iconst (v := (nI 2)) C dX5_isLike_3 rfl ?_
  refine j_callSr C (v := .int (bI (¬ x < (nI 0) ∧ ¬ (nI 2) < x))) (w := (mW E x0 x1 x2 x3 x4 x5 mo ou th re ak gv kn ro LL ff)) (m_isIn l E A) ok_X5_isIn w_953 (by decide) rfl rfl (Nat.le_of_ble_eq_true rfl) ⟨Nat.le_of_ble_eq_true rfl, Nat.le_of_ble_eq_true rfl⟩ dX5_isLike_4 ?_
  refine j_ifb_eq_t (tgt := 17) C dX5_isLike_7 (by decide) (in_f (by decide) hbx) ?_
  refine j_iconst (v := (nI 1)) C dX5_isLike_17 rfl ?_
  refine j_goto (tgt := 22) C dX5_isLike_18 (by decide) ?_
  refine j_iconst (v := (nI 1)) C dX5_isLike_22 rfl ?_
  refine j_callVr C 6 (v := .int (nI 1)) (w := (mW E x0 x1 x2 x3 x4 x5 mo ou (nI 1) re ak gv kn ro LL ff)) (m_start_1 l E A (by decide) (by decide)) ok_X5_start w_962 (by decide) rfl rfl (Nat.le_of_ble_eq_true rfl) rfl rfl ⟨Nat.le_of_ble_eq_true rfl, Nat.le_of_ble_eq_true rfl⟩ dX5_isLike_23 ?_
  refine j_ifn_ne_t (tgt := 51) C dX5_isLike_26 (by decide) (by omega) (by omega) ?_
  refine j_iconst (v := (nI 0)) C dX5_isLike_51 rfl ?_
  exact j_iret C hQ rfl dX5_isLike_52 ⟨Nat.le_of_ble_eq_true rfl, Nat.le_of_ble_eq_true rfl⟩ ⟨rfl, rfl⟩
set_option maxHeartbeats 4000000 in
set_option maxRecDepth 100000 in
theorem g_isLike_b2 (l : Launch) (E : jE) (A : Nat → Prop) {x0 x1 x2 x3 x4 x5 : Nat × va_E} {mo ou : Nat} {th re ak gv kn : Int32} {ro : Nat → Option Nat} {LL : List Nat} {ff : Nat → va_E} {i : Nat} (hi : i < 3) {y : Int32} (hby : y < 0 ∨ nI 9 ≤ y)  : jMet l yX5_isLike cX5_isLike 3 (some .int) 5 0 0 E A [.ref mo, .int (nI i), .int y] (mW E x0 x1 x2 x3 x4 x5 mo ou th re ak gv kn ro LL ff) (jR (some (.int (nI 0))) (mW E x0 x1 x2 x3 x4 x5 mo ou (nI 1) re ak gv kn ro LL ff)) jNo := by
  refine jMet.intro' [(0, .ref mo), (1, .int (nI i)), (2, .int y)] (by decide) (Nat.le_of_ble_eq_true rfl) rfl ?_
  intro p e R s m args below meth c Q C hQ
  refine j_aload_n C dX5_isLike_0 rfl ?_
  refine j_iload_n C dX5_isLike_1 rfl ?_
  refine j_iconst (v := (nI 0)) C dX5_isLike_2 rfl ?_
  refine j_iconst (v := (nI 2)) C dX5_isLike_3 rfl ?_
  refine j_callSr C (v := .int (bI (¬ (nI i) < (nI 0) ∧ ¬ (nI 2) < (nI i)))) (w := (mW E x0 x1 x2 x3 x4 x5 mo ou th re ak gv kn ro LL ff)) (m_isIn l E A) ok_X5_isIn w_953 (by decide) rfl rfl (Nat.le_of_ble_eq_true rfl) ⟨Nat.le_of_ble_eq_true rfl, Nat.le_of_ble_eq_true rfl⟩ dX5_isLike_4 ?_
  refine j_ifb_eq_f (tgt := 17) C dX5_isLike_7 (by decide) (in_t (by omega) (by omega) (by omega)) ?_
  refine j_iload_n C dX5_isLike_10 rfl ?_
  refine j_callSr C (v := .int (nI 1)) (w := (mW E x0 x1 x2 x3 x4 x5 mo ou th re ak gv kn ro LL ff)) (m_isNo_1 l E A hby) ok_X5_isNo w_959 (by decide) rfl rfl (Nat.le_of_ble_eq_true rfl) ⟨Nat.le_of_ble_eq_true rfl, Nat.le_of_ble_eq_true rfl⟩ dX5_isLike_11 ?_
  refine j_ifn_eq_f (tgt := 21) C dX5_isLike_14 (by decide) (by omega) (by omega) ?_
  refine j_iconst (v := (nI 1)) C dX5_isLike_17 rfl ?_
  refine j_goto (tgt := 22) C dX5_isLike_18 (by decide) ?_
  refine j_iconst (v := (nI 1)) C dX5_isLike_22 rfl ?_
  refine j_callVr C 6 (v := .int (nI 1)) (w := (mW E x0 x1 x2 x3 x4 x5 mo ou (nI 1) re ak gv kn ro LL ff)) (m_start_1 l E A (by decide) (by decide)) ok_X5_start w_962 (by decide) rfl rfl (Nat.le_of_ble_eq_true rfl) rfl rfl ⟨Nat.le_of_ble_eq_true rfl, Nat.le_of_ble_eq_true rfl⟩ dX5_isLike_23 ?_
  refine j_ifn_ne_t (tgt := 51) C dX5_isLike_26 (by decide) (by omega) (by omega) ?_
  refine j_iconst (v := (nI 0)) C dX5_isLike_51 rfl ?_
  exact j_iret C hQ rfl dX5_isLike_52 ⟨Nat.le_of_ble_eq_true rfl, Nat.le_of_ble_eq_true rfl⟩ ⟨rfl, rfl⟩
set_option maxHeartbeats 4000000 in
set_option maxRecDepth 100000 in
theorem g_isLike_m1 (l : Launch) (E : jE) (A : Nat → Prop) {x0 x1 x2 x3 x4 x5 : Nat × va_E} {mo ou : Nat} {th re ak gv kn : Int32} {ro : Nat → Option Nat} {LL : List Nat} {ff : Nat → va_E} {i : Nat} (hi : i < 3) (hri : ro i = none) {j : Nat} (hj : j < 9)  : jMet l yX5_isLike cX5_isLike 3 (some .int) 5 0 0 E A [.ref mo, .int (nI i), .int (nI j)] (mW E x0 x1 x2 x3 x4 x5 mo ou th re ak gv kn ro LL ff) (jR (some (.int (nI 0))) (mW E x0 x1 x2 x3 x4 x5 mo ou (nI 2) re ak gv kn ro LL ff)) jNo := by
  refine jMet.intro' [(0, .ref mo), (1, .int (nI i)), (2, .int (nI j))] (by decide) (Nat.le_of_ble_eq_true rfl) rfl ?_
  intro p e R s m args below meth c Q C hQ
  refine j_aload_n C dX5_isLike_0 rfl ?_
  refine j_iload_n C dX5_isLike_1 rfl ?_
  refine j_iconst (v := (nI 0)) C dX5_isLike_2 rfl ?_
  refine j_iconst (v := (nI 2)) C dX5_isLike_3 rfl ?_
  refine j_callSr C (v := .int (bI (¬ (nI i) < (nI 0) ∧ ¬ (nI 2) < (nI i)))) (w := (mW E x0 x1 x2 x3 x4 x5 mo ou th re ak gv kn ro LL ff)) (m_isIn l E A) ok_X5_isIn w_953 (by decide) rfl rfl (Nat.le_of_ble_eq_true rfl) ⟨Nat.le_of_ble_eq_true rfl, Nat.le_of_ble_eq_true rfl⟩ dX5_isLike_4 ?_
  refine j_ifb_eq_f (tgt := 17) C dX5_isLike_7 (by decide) (in_t (by omega) (by omega) (by omega)) ?_
  refine j_iload_n C dX5_isLike_10 rfl ?_
  refine j_callSr C (v := .int (nI 0)) (w := (mW E x0 x1 x2 x3 x4 x5 mo ou th re ak gv kn ro LL ff)) (m_isNo_0 l E A (by omega)) ok_X5_isNo w_959 (by decide) rfl rfl (Nat.le_of_ble_eq_true rfl) ⟨Nat.le_of_ble_eq_true rfl, Nat.le_of_ble_eq_true rfl⟩ dX5_isLike_11 ?_
  refine j_ifn_eq_t (tgt := 21) C dX5_isLike_14 (by decide) (by omega) (by omega) ?_
  refine j_iconst (v := (nI 0)) C dX5_isLike_21 rfl ?_
  refine j_iconst (v := (nI 1)) C dX5_isLike_22 rfl ?_
  refine j_callVr C 6 (v := .int (nI 0)) (w := (mW E x0 x1 x2 x3 x4 x5 mo ou (nI 0) re ak gv kn ro LL ff)) (m_start_0 l E A) ok_X5_start w_962 (by decide) rfl rfl (Nat.le_of_ble_eq_true rfl) rfl rfl ⟨Nat.le_of_ble_eq_true rfl, Nat.le_of_ble_eq_true rfl⟩ dX5_isLike_23 ?_
  refine j_ifn_ne_f (tgt := 51) C dX5_isLike_26 (by decide) (by omega) (by omega) ?_
  refine j_aload_n C dX5_isLike_29 rfl ?_
  refine j_aload_n C dX5_isLike_30 rfl ?_
  refine j_get C 6 rfl inj_X5 rfl 1 (by decide) w_922 rfl dX5_isLike_31 ?_
  refine j_iload_n C dX5_isLike_34 rfl ?_
  refine j_aaload (v := .null) C 7 i rfl rfl (by omega) (by decide) (by rw [show ro i = none from hri]; rfl) dX5_isLike_35 ?_
  refine j_ifnonnull_f C dX5_isLike_36 ?_
  refine j_iconst (v := (nI 1)) C dX5_isLike_39 rfl ?_
  refine j_goto (tgt := 44) C dX5_isLike_40 (by decide) ?_
  refine j_iconst (v := (nI 2)) C dX5_isLike_44 rfl ?_
  refine j_callVr C 6 (v := .int (nI 1)) (w := (mW E x0 x1 x2 x3 x4 x5 mo ou (nI 2) re ak gv kn ro LL ff)) (m_refuse_1 l E A (by decide) (by decide)) ok_X5_refuse w_966 (by decide) rfl rfl (Nat.le_of_ble_eq_true rfl) rfl rfl ⟨Nat.le_of_ble_eq_true rfl, Nat.le_of_ble_eq_true rfl⟩ dX5_isLike_45 ?_
  refine j_ifn_eq_f (tgt := 53) C dX5_isLike_48 (by decide) (by omega) (by omega) ?_
  refine j_iconst (v := (nI 0)) C dX5_isLike_51 rfl ?_
  exact j_iret C hQ rfl dX5_isLike_52 ⟨Nat.le_of_ble_eq_true rfl, Nat.le_of_ble_eq_true rfl⟩ ⟨rfl, rfl⟩
set_option maxHeartbeats 4000000 in
set_option maxRecDepth 100000 in
theorem g_isLike_m2 (l : Launch) (E : jE) (A : Nat → Prop) {x0 x1 x2 x3 x4 x5 : Nat × va_E} {mo ou : Nat} {th re ak gv kn : Int32} {ro : Nat → Option Nat} {LL : List Nat} {ff : Nat → va_E} {i : Nat} (hi : i < 3) {ai n : Nat} {h : Nat → Int32} (hrai : ro i = some ai) (hmai : ai ∈ LL) (hfai : ff ai = .inl (E.2.1, n, .inl h)) (hnai : n ≤ 24) {j : Nat} (hj : j < 9) (hrj : ro j = none)  : jMet l yX5_isLike cX5_isLike 3 (some .int) 5 0 0 E A [.ref mo, .int (nI i), .int (nI j)] (mW E x0 x1 x2 x3 x4 x5 mo ou th re ak gv kn ro LL ff) (jR (some (.int (-9))) (mW E x0 x1 x2 x3 x4 x5 mo ou (nI 0) (re + nI 1) ak gv kn ro LL ff)) jNo := by
  refine jMet.intro' [(0, .ref mo), (1, .int (nI i)), (2, .int (nI j))] (by decide) (Nat.le_of_ble_eq_true rfl) rfl ?_
  intro p e R s m args below meth c Q C hQ
  refine j_aload_n C dX5_isLike_0 rfl ?_
  refine j_iload_n C dX5_isLike_1 rfl ?_
  refine j_iconst (v := (nI 0)) C dX5_isLike_2 rfl ?_
  refine j_iconst (v := (nI 2)) C dX5_isLike_3 rfl ?_
  refine j_callSr C (v := .int (bI (¬ (nI i) < (nI 0) ∧ ¬ (nI 2) < (nI i)))) (w := (mW E x0 x1 x2 x3 x4 x5 mo ou th re ak gv kn ro LL ff)) (m_isIn l E A) ok_X5_isIn w_953 (by decide) rfl rfl (Nat.le_of_ble_eq_true rfl) ⟨Nat.le_of_ble_eq_true rfl, Nat.le_of_ble_eq_true rfl⟩ dX5_isLike_4 ?_
  refine j_ifb_eq_f (tgt := 17) C dX5_isLike_7 (by decide) (in_t (by omega) (by omega) (by omega)) ?_
  refine j_iload_n C dX5_isLike_10 rfl ?_
  refine j_callSr C (v := .int (nI 0)) (w := (mW E x0 x1 x2 x3 x4 x5 mo ou th re ak gv kn ro LL ff)) (m_isNo_0 l E A (by omega)) ok_X5_isNo w_959 (by decide) rfl rfl (Nat.le_of_ble_eq_true rfl) ⟨Nat.le_of_ble_eq_true rfl, Nat.le_of_ble_eq_true rfl⟩ dX5_isLike_11 ?_
  refine j_ifn_eq_t (tgt := 21) C dX5_isLike_14 (by decide) (by omega) (by omega) ?_
  refine j_iconst (v := (nI 0)) C dX5_isLike_21 rfl ?_
  refine j_iconst (v := (nI 1)) C dX5_isLike_22 rfl ?_
  refine j_callVr C 6 (v := .int (nI 0)) (w := (mW E x0 x1 x2 x3 x4 x5 mo ou (nI 0) re ak gv kn ro LL ff)) (m_start_0 l E A) ok_X5_start w_962 (by decide) rfl rfl (Nat.le_of_ble_eq_true rfl) rfl rfl ⟨Nat.le_of_ble_eq_true rfl, Nat.le_of_ble_eq_true rfl⟩ dX5_isLike_23 ?_
  refine j_ifn_ne_f (tgt := 51) C dX5_isLike_26 (by decide) (by omega) (by omega) ?_
  refine j_aload_n C dX5_isLike_29 rfl ?_
  refine j_aload_n C dX5_isLike_30 rfl ?_
  refine j_get C 6 rfl inj_X5 rfl 1 (by decide) w_922 rfl dX5_isLike_31 ?_
  refine j_iload_n C dX5_isLike_34 rfl ?_
  refine j_aaload (v := .ref ai) C 7 i rfl rfl (by omega) (by decide) (by rw [show ro i = some ai from hrai]; rfl) dX5_isLike_35 ?_
  refine j_ifnonnull_t (tgt := 43) C dX5_isLike_36 (by decide) ?_
  refine j_iconst (v := (nI 0)) C dX5_isLike_43 rfl ?_
  refine j_iconst (v := (nI 2)) C dX5_isLike_44 rfl ?_
  refine j_callVr C 6 (v := .int (nI 0)) (w := (mW E x0 x1 x2 x3 x4 x5 mo ou (nI 0) re ak gv kn ro LL ff)) (m_refuse_0 l E A) ok_X5_refuse w_966 (by decide) rfl rfl (Nat.le_of_ble_eq_true rfl) rfl rfl ⟨Nat.le_of_ble_eq_true rfl, Nat.le_of_ble_eq_true rfl⟩ dX5_isLike_45 ?_
  refine j_ifn_eq_t (tgt := 53) C dX5_isLike_48 (by decide) (by omega) (by omega) ?_
  refine j_aload_n C dX5_isLike_53 rfl ?_
  refine j_get C 6 rfl inj_X5 rfl 1 (by decide) w_922 rfl dX5_isLike_54 ?_
  refine j_iload_n C dX5_isLike_57 rfl ?_
  refine j_aaload (v := .null) C 7 j rfl rfl (by omega) (by decide) (by rw [show ro j = none from hrj]; rfl) dX5_isLike_58 ?_
  refine j_ifnonnull_f C dX5_isLike_59 ?_
  refine j_aload_n C dX5_isLike_62 rfl ?_
  refine j_callVr C 6 (v := .int (-9)) (w := (mW E x0 x1 x2 x3 x4 x5 mo ou (nI 0) (re + nI 1) ak gv kn ro LL ff)) (m_no l E A) ok_X5_no w_992 (by decide) rfl rfl (Nat.le_of_ble_eq_true rfl) rfl rfl ⟨Nat.le_of_ble_eq_true rfl, Nat.le_of_ble_eq_true rfl⟩ dX5_isLike_63 ?_
  refine j_goto (tgt := 95) C dX5_isLike_66 (by decide) ?_
  exact j_iret C hQ rfl dX5_isLike_95 ⟨Nat.le_of_ble_eq_true rfl, Nat.le_of_ble_eq_true rfl⟩ ⟨rfl, rfl⟩
set_option maxHeartbeats 4000000 in
set_option maxRecDepth 100000 in
theorem g_isLike_k (l : Launch) (E : jE) (A : Nat → Prop) {x0 x1 x2 x3 x4 x5 : Nat × va_E} {mo ou : Nat} {th re ak gv kn : Int32} {ro : Nat → Option Nat} {LL : List Nat} {ff : Nat → va_E} {i j : Nat} (hi : i < 3) (hj : j < 9) {ai n : Nat} {h : Nat → Int32} (hrai : ro i = some ai) (hmai : ai ∈ LL) (hfai : ff ai = .inl (E.2.1, n, .inl h)) (hnai : n ≤ 24) {aj o : Nat} {g : Nat → Int32} (hraj : ro j = some aj) (hmaj : aj ∈ LL) (hfaj : ff aj = .inl (E.2.1, o, .inl g)) (hnaj : o ≤ 24)  : jMet l yX5_isLike cX5_isLike 3 (some .int) 5 0 0 E A [.ref mo, .int (nI i), .int (nI j)] (mW E x0 x1 x2 x3 x4 x5 mo ou th re ak gv kn ro LL ff) (jR (some (.int (bI (cmpF h g (smI (nI n) (nI o)) 0 (min n o - 0) = 0)))) (mW E x0 x1 x2 x3 x4 x5 mo ou (nI 0) re ak gv kn ro LL ff)) jNo := by
  refine jMet.intro' [(0, .ref mo), (1, .int (nI i)), (2, .int (nI j))] (by decide) (Nat.le_of_ble_eq_true rfl) rfl ?_
  intro p e R s m args below meth c Q C hQ
  refine j_aload_n C dX5_isLike_0 rfl ?_
  refine j_iload_n C dX5_isLike_1 rfl ?_
  refine j_iconst (v := (nI 0)) C dX5_isLike_2 rfl ?_
  refine j_iconst (v := (nI 2)) C dX5_isLike_3 rfl ?_
  refine j_callSr C (v := .int (bI (¬ (nI i) < (nI 0) ∧ ¬ (nI 2) < (nI i)))) (w := (mW E x0 x1 x2 x3 x4 x5 mo ou th re ak gv kn ro LL ff)) (m_isIn l E A) ok_X5_isIn w_953 (by decide) rfl rfl (Nat.le_of_ble_eq_true rfl) ⟨Nat.le_of_ble_eq_true rfl, Nat.le_of_ble_eq_true rfl⟩ dX5_isLike_4 ?_
  refine j_ifb_eq_f (tgt := 17) C dX5_isLike_7 (by decide) (in_t (by omega) (by omega) (by omega)) ?_
  refine j_iload_n C dX5_isLike_10 rfl ?_
  refine j_callSr C (v := .int (nI 0)) (w := (mW E x0 x1 x2 x3 x4 x5 mo ou th re ak gv kn ro LL ff)) (m_isNo_0 l E A (by omega)) ok_X5_isNo w_959 (by decide) rfl rfl (Nat.le_of_ble_eq_true rfl) ⟨Nat.le_of_ble_eq_true rfl, Nat.le_of_ble_eq_true rfl⟩ dX5_isLike_11 ?_
  refine j_ifn_eq_t (tgt := 21) C dX5_isLike_14 (by decide) (by omega) (by omega) ?_
  refine j_iconst (v := (nI 0)) C dX5_isLike_21 rfl ?_
  refine j_iconst (v := (nI 1)) C dX5_isLike_22 rfl ?_
  refine j_callVr C 6 (v := .int (nI 0)) (w := (mW E x0 x1 x2 x3 x4 x5 mo ou (nI 0) re ak gv kn ro LL ff)) (m_start_0 l E A) ok_X5_start w_962 (by decide) rfl rfl (Nat.le_of_ble_eq_true rfl) rfl rfl ⟨Nat.le_of_ble_eq_true rfl, Nat.le_of_ble_eq_true rfl⟩ dX5_isLike_23 ?_
  refine j_ifn_ne_f (tgt := 51) C dX5_isLike_26 (by decide) (by omega) (by omega) ?_
  refine j_aload_n C dX5_isLike_29 rfl ?_
  refine j_aload_n C dX5_isLike_30 rfl ?_
  refine j_get C 6 rfl inj_X5 rfl 1 (by decide) w_922 rfl dX5_isLike_31 ?_
  refine j_iload_n C dX5_isLike_34 rfl ?_
  refine j_aaload (v := .ref ai) C 7 i rfl rfl (by omega) (by decide) (by rw [show ro i = some ai from hrai]; rfl) dX5_isLike_35 ?_
  refine j_ifnonnull_t (tgt := 43) C dX5_isLike_36 (by decide) ?_
  refine j_iconst (v := (nI 0)) C dX5_isLike_43 rfl ?_
  refine j_iconst (v := (nI 2)) C dX5_isLike_44 rfl ?_
  refine j_callVr C 6 (v := .int (nI 0)) (w := (mW E x0 x1 x2 x3 x4 x5 mo ou (nI 0) re ak gv kn ro LL ff)) (m_refuse_0 l E A) ok_X5_refuse w_966 (by decide) rfl rfl (Nat.le_of_ble_eq_true rfl) rfl rfl ⟨Nat.le_of_ble_eq_true rfl, Nat.le_of_ble_eq_true rfl⟩ dX5_isLike_45 ?_
  refine j_ifn_eq_t (tgt := 53) C dX5_isLike_48 (by decide) (by omega) (by omega) ?_
  refine j_aload_n C dX5_isLike_53 rfl ?_
  refine j_get C 6 rfl inj_X5 rfl 1 (by decide) w_922 rfl dX5_isLike_54 ?_
  refine j_iload_n C dX5_isLike_57 rfl ?_
  refine j_aaload (v := .ref aj) C 7 j rfl rfl (by omega) (by decide) (by rw [show ro j = some aj from hraj]; rfl) dX5_isLike_58 ?_
  refine j_ifnonnull_t (tgt := 69) C dX5_isLike_59 (by decide) ?_
  refine j_aload_n C dX5_isLike_69 rfl ?_
  refine j_get C 6 rfl inj_X5 rfl 1 (by decide) w_922 rfl dX5_isLike_70 ?_
  refine j_iload_n C dX5_isLike_73 rfl ?_
  refine j_aaload (v := .ref ai) C 7 i rfl rfl (by omega) (by decide) (by rw [show ro i = some ai from hrai]; rfl) dX5_isLike_74 ?_
  refine j_aload_n C dX5_isLike_75 rfl ?_
  refine j_get C 6 rfl inj_X5 rfl 1 (by decide) w_922 rfl dX5_isLike_76 ?_
  refine j_iload_n C dX5_isLike_79 rfl ?_
  refine j_aaload (v := .ref aj) C 7 j rfl rfl (by omega) (by decide) (by rw [show ro j = some aj from hraj]; rfl) dX5_isLike_80 ?_
  refine j_callSr C (v := .int (cmpF h g (smI (nI n) (nI o)) 0 (min n o - 0))) (w := (mW E x0 x1 x2 x3 x4 x5 mo ou (nI 0) re ak gv kn ro LL ff)) (m_compared l E A hmai hfai (by omega) hmaj hfaj (by omega)) ok_X5_compared w_1097 (by decide) rfl rfl (Nat.le_of_ble_eq_true rfl) ⟨Nat.le_of_ble_eq_true rfl, Nat.le_of_ble_eq_true rfl⟩ dX5_isLike_81 ?_
  refine j_if_ne (tgt := 91) C dX5_isLike_84 (by decide) (fun h84 => ?_) (fun h84 => ?_)
  · skip
    refine j_iconst (v := (nI 0)) C dX5_isLike_91 rfl ?_
    refine j_callSr C (v := .int (nI 0)) (w := (mW E x0 x1 x2 x3 x4 x5 mo ou (nI 0) re ak gv kn ro LL ff)) (m_one_0 l E A) ok_X5_one w_956 (by decide) rfl rfl (Nat.le_of_ble_eq_true rfl) ⟨Nat.le_of_ble_eq_true rfl, Nat.le_of_ble_eq_true rfl⟩ dX5_isLike_92 ?_
    exact j_iret C hQ rfl dX5_isLike_95 ⟨Nat.le_of_ble_eq_true rfl, Nat.le_of_ble_eq_true rfl⟩ ⟨by rw [bI_f (by simp only [*, not_true_eq_false, not_false_eq_true, false_and, and_false, and_self])]; rfl, rfl⟩
  · skip
    refine j_iconst (v := (nI 1)) C dX5_isLike_87 rfl ?_
    refine j_goto (tgt := 92) C dX5_isLike_88 (by decide) ?_
    refine j_callSr C (v := .int (nI 1)) (w := (mW E x0 x1 x2 x3 x4 x5 mo ou (nI 0) re ak gv kn ro LL ff)) (m_one_1 l E A) ok_X5_one w_956 (by decide) rfl rfl (Nat.le_of_ble_eq_true rfl) ⟨Nat.le_of_ble_eq_true rfl, Nat.le_of_ble_eq_true rfl⟩ dX5_isLike_92 ?_
    exact j_iret C hQ rfl dX5_isLike_95 ⟨Nat.le_of_ble_eq_true rfl, Nat.le_of_ble_eq_true rfl⟩ ⟨by rw [bI_t (by simp only [*, not_false_eq_true, and_self])]; rfl, rfl⟩
set_option maxHeartbeats 4000000 in
set_option maxRecDepth 100000 in
theorem m_areLike (l : Launch) (E : jE) (A : Nat → Prop) {x0 x1 x2 x3 x4 x5 : Nat × va_E} {mo ou : Nat} {th re ak gv kn : Int32} {ro : Nat → Option Nat} {LL : List Nat} {ff : Nat → va_E} {i j : Nat} (hi : i < 9) (hj : j < 9) {z g : Nat → Int32} (hR : Rel E z g ro LL ff)  : jMet l yX5_areLike cX5_areLike 5 (some .boolean) 2 0 0 E A [.ref mo, .int (nI i), .int (nI j)] (mW E x0 x1 x2 x3 x4 x5 mo ou th re ak gv kn ro LL ff) (jR (some (.int (samS z g i j))) (mW E x0 x1 x2 x3 x4 x5 mo ou th re ak gv kn ro LL ff)) jNo := by
  refine jMet.intro' [(0, .ref mo), (1, .int (nI i)), (2, .int (nI j))] (by decide) (Nat.le_of_ble_eq_true rfl) rfl ?_
  intro p e R s m args below meth c Q C hQ
  refine j_aload_n C dX5_areLike_0 rfl ?_
  refine j_get C 6 rfl inj_X5 rfl 1 (by decide) w_922 rfl dX5_areLike_1 ?_
  refine j_iload_n C dX5_areLike_4 rfl ?_
  rcases hR.1 i (by omega) with ⟨hz_i, hr_i⟩ | ⟨a_i, n_i, h_i, hn_i, hz_i, hr_i, hm_i, hf_i, hs_i⟩
  · skip
    refine j_aaload (v := .null) C 7 i rfl rfl (by omega) (by decide) (by rw [show ro i = none from hr_i]; rfl) dX5_areLike_5 ?_
    refine j_astore_nN (lv' := [(3, .null), (0, .ref mo), (1, .int (nI i)), (2, .int (nI j))]) C dX5_areLike_6 (by decide) rfl ?_
    refine j_aload_n C dX5_areLike_7 rfl ?_
    refine j_get C 6 rfl inj_X5 rfl 1 (by decide) w_922 rfl dX5_areLike_8 ?_
    refine j_iload_n C dX5_areLike_11 rfl ?_
    rcases hR.1 j (by omega) with ⟨hz_j, hr_j⟩ | ⟨a_j, n_j, h_j, hn_j, hz_j, hr_j, hm_j, hf_j, hs_j⟩
    · skip
      refine j_aaload (v := .null) C 7 j rfl rfl (by omega) (by decide) (by rw [show ro j = none from hr_j]; rfl) dX5_areLike_12 ?_
      refine j_astoreN (lv' := [(4, .null), (3, .null), (0, .ref mo), (1, .int (nI i)), (2, .int (nI j))]) C dX5_areLike_13 (by decide) rfl ?_
      refine j_aload_nN C dX5_areLike_15 rfl ?_
      refine j_ifnull_t (tgt := 24) C dX5_areLike_16 (by decide) ?_
      refine j_aload_nN C dX5_areLike_24 rfl ?_
      refine j_aloadN C dX5_areLike_25 rfl ?_
      refine j_acmp_ne_f (rx := none) (ry := none) (tgt := 34) C dX5_areLike_27 (by decide) (by simp) ?_
      refine j_iconst (v := (nI 1)) C dX5_areLike_30 rfl ?_
      refine j_goto (tgt := 52) C dX5_areLike_31 (by decide) ?_
      exact j_zret C hQ rfl rfl dX5_areLike_52 ⟨Nat.le_of_ble_eq_true rfl, Nat.le_of_ble_eq_true rfl⟩ ⟨by rw [samS, if_neg (by rw [hz_i, hz_j]; exact not_not_intro rfl), if_pos hz_i], rfl⟩
    · skip
      refine j_aaload (v := .ref a_j) C 7 j rfl rfl (by omega) (by decide) (by rw [show ro j = some a_j from hr_j]; rfl) dX5_areLike_12 ?_
      refine j_astore (lv' := [(4, .ref a_j), (3, .null), (0, .ref mo), (1, .int (nI i)), (2, .int (nI j))]) C dX5_areLike_13 (by decide) rfl ?_
      refine j_aload_nN C dX5_areLike_15 rfl ?_
      refine j_ifnull_t (tgt := 24) C dX5_areLike_16 (by decide) ?_
      refine j_aload_nN C dX5_areLike_24 rfl ?_
      refine j_aload C dX5_areLike_25 rfl ?_
      refine j_acmp_ne_t (rx := none) (ry := (some a_j)) (tgt := 34) C dX5_areLike_27 (by decide) (by simp) ?_
      refine j_iconst (v := (nI 0)) C dX5_areLike_34 rfl ?_
      refine j_goto (tgt := 52) C dX5_areLike_35 (by decide) ?_
      exact j_zret C hQ rfl rfl dX5_areLike_52 ⟨Nat.le_of_ble_eq_true rfl, Nat.le_of_ble_eq_true rfl⟩ ⟨by rw [samS, if_pos (by rw [hz_i, hz_j]; first | exact nI_ne_m (by omega) | exact fun q => nI_ne_m (by omega) q.symm)], rfl⟩
  · skip
    refine j_aaload (v := .ref a_i) C 7 i rfl rfl (by omega) (by decide) (by rw [show ro i = some a_i from hr_i]; rfl) dX5_areLike_5 ?_
    refine j_astore_n (lv' := [(3, .ref a_i), (0, .ref mo), (1, .int (nI i)), (2, .int (nI j))]) C dX5_areLike_6 (by decide) rfl ?_
    refine j_aload_n C dX5_areLike_7 rfl ?_
    refine j_get C 6 rfl inj_X5 rfl 1 (by decide) w_922 rfl dX5_areLike_8 ?_
    refine j_iload_n C dX5_areLike_11 rfl ?_
    rcases hR.1 j (by omega) with ⟨hz_j, hr_j⟩ | ⟨a_j, n_j, h_j, hn_j, hz_j, hr_j, hm_j, hf_j, hs_j⟩
    · skip
      refine j_aaload (v := .null) C 7 j rfl rfl (by omega) (by decide) (by rw [show ro j = none from hr_j]; rfl) dX5_areLike_12 ?_
      refine j_astoreN (lv' := [(4, .null), (3, .ref a_i), (0, .ref mo), (1, .int (nI i)), (2, .int (nI j))]) C dX5_areLike_13 (by decide) rfl ?_
      refine j_aload_n C dX5_areLike_15 rfl ?_
      refine j_ifnull_f C dX5_areLike_16 ?_
      refine j_aloadN C dX5_areLike_19 rfl ?_
      refine j_ifnonnull_f C dX5_areLike_21 ?_
      refine j_aload_n C dX5_areLike_24 rfl ?_
      refine j_aloadN C dX5_areLike_25 rfl ?_
      refine j_acmp_ne_t (rx := (some a_i)) (ry := none) (tgt := 34) C dX5_areLike_27 (by decide) (by simp) ?_
      refine j_iconst (v := (nI 0)) C dX5_areLike_34 rfl ?_
      refine j_goto (tgt := 52) C dX5_areLike_35 (by decide) ?_
      exact j_zret C hQ rfl rfl dX5_areLike_52 ⟨Nat.le_of_ble_eq_true rfl, Nat.le_of_ble_eq_true rfl⟩ ⟨by rw [samS, if_pos (by rw [hz_i, hz_j]; first | exact nI_ne_m (by omega) | exact fun q => nI_ne_m (by omega) q.symm)], rfl⟩
    · skip
      refine j_aaload (v := .ref a_j) C 7 j rfl rfl (by omega) (by decide) (by rw [show ro j = some a_j from hr_j]; rfl) dX5_areLike_12 ?_
      refine j_astore (lv' := [(4, .ref a_j), (3, .ref a_i), (0, .ref mo), (1, .int (nI i)), (2, .int (nI j))]) C dX5_areLike_13 (by decide) rfl ?_
      refine j_aload_n C dX5_areLike_15 rfl ?_
      refine j_ifnull_f C dX5_areLike_16 ?_
      refine j_aload C dX5_areLike_19 rfl ?_
      refine j_ifnonnull_t (tgt := 38) C dX5_areLike_21 (by decide) ?_
      refine j_aload_n C dX5_areLike_38 rfl ?_
      refine j_aload C dX5_areLike_39 rfl ?_
      refine j_callSr C (v := .int (cmpF h_i h_j (smI (nI n_i) (nI n_j)) 0 (min n_i n_j - 0))) (w := (mW E x0 x1 x2 x3 x4 x5 mo ou th re ak gv kn ro LL ff)) (m_compared l E A hm_i hf_i (by omega) hm_j hf_j (by omega)) ok_X5_compared w_1097 (by decide) rfl rfl (Nat.le_of_ble_eq_true rfl) ⟨Nat.le_of_ble_eq_true rfl, Nat.le_of_ble_eq_true rfl⟩ dX5_areLike_41 ?_
      refine j_if_ne (tgt := 51) C dX5_areLike_44 (by decide) (fun h44 => ?_) (fun h44 => ?_)
      · skip
        refine j_iconst (v := (nI 0)) C dX5_areLike_51 rfl ?_
        exact j_zret C hQ rfl rfl dX5_areLike_52 ⟨Nat.le_of_ble_eq_true rfl, Nat.le_of_ble_eq_true rfl⟩ ⟨by rw [show samS z g i j = 0 from (samS_b z g i j).resolve_left (fun q => h44 ((cmp_same hn_i hn_j hz_i hz_j (fun k hk => (hs_i k hk).1) (fun k hk => (hs_j k hk).1)).mpr q))]; rfl, rfl⟩
      · skip
        refine j_iconst (v := (nI 1)) C dX5_areLike_47 rfl ?_
        refine j_goto (tgt := 52) C dX5_areLike_48 (by decide) ?_
        exact j_zret C hQ rfl rfl dX5_areLike_52 ⟨Nat.le_of_ble_eq_true rfl, Nat.le_of_ble_eq_true rfl⟩ ⟨by rw [show samS z g i j = 1 from (cmp_same hn_i hn_j hz_i hz_j (fun k hk => (hs_i k hk).1) (fun k hk => (hs_j k hk).1)).mp h44]; rfl, rfl⟩
set_option maxHeartbeats 4000000 in
set_option maxRecDepth 100000 in
theorem g_areSame_k (l : Launch) (E : jE) (A : Nat → Prop) {x0 x1 x2 x3 x4 x5 : Nat × va_E} {mo ou : Nat} {th re ak gv kn : Int32} {ro : Nat → Option Nat} {LL : List Nat} {ff : Nat → va_E} {i j : Nat} (hi : i < 9) (hj : j < 9) {z g : Nat → Int32} (hR : Rel E z g ro LL ff)  : jMet l yX5_areSame cX5_areSame 3 (some .boolean) 5 0 0 E A [.ref mo, .int (nI i), .int (nI j)] (mW E x0 x1 x2 x3 x4 x5 mo ou th re ak gv kn ro LL ff) (jR (some (.int (samS z g i j))) (mW E x0 x1 x2 x3 x4 x5 mo ou (nI 0) re ak gv kn ro LL ff)) jNo := by
  refine jMet.intro' [(0, .ref mo), (1, .int (nI i)), (2, .int (nI j))] (by decide) (Nat.le_of_ble_eq_true rfl) rfl ?_
  intro p e R s m args below meth c Q C hQ
  refine j_aload_n C dX5_areSame_0 rfl ?_
  refine j_iload_n C dX5_areSame_1 rfl ?_
  refine j_iload_n C dX5_areSame_2 rfl ?_
  refine j_callVr C 6 (v := .int (nI 0)) (w := (mW E x0 x1 x2 x3 x4 x5 mo ou (nI 0) re ak gv kn ro LL ff)) (m_areNo_0 l E A (by omega) (by omega)) ok_X5_areNo w_1014 (by decide) rfl rfl (Nat.le_of_ble_eq_true rfl) rfl rfl ⟨Nat.le_of_ble_eq_true rfl, Nat.le_of_ble_eq_true rfl⟩ dX5_areSame_3 ?_
  refine j_ifn_ne_f (tgt := 22) C dX5_areSame_6 (by decide) (by omega) (by omega) ?_
  refine j_aload_n C dX5_areSame_9 rfl ?_
  refine j_iload_n C dX5_areSame_10 rfl ?_
  refine j_iload_n C dX5_areSame_11 rfl ?_
  refine j_callVr C 6 (v := .int (samS z g i j)) (w := (mW E x0 x1 x2 x3 x4 x5 mo ou (nI 0) re ak gv kn ro LL ff)) (m_areLike l E A (by omega) (by omega) hR) ok_X5_areLike w_1162 (by decide) rfl rfl (Nat.le_of_ble_eq_true rfl) rfl rfl ⟨Nat.le_of_ble_eq_true rfl, Nat.le_of_ble_eq_true rfl⟩ dX5_areSame_12 ?_
  refine j_if_eq (tgt := 22) C dX5_areSame_15 (by decide) (fun h15 => ?_) (fun h15 => ?_)
  · skip
    refine j_iconst (v := (nI 0)) C dX5_areSame_22 rfl ?_
    exact j_zret C hQ rfl rfl dX5_areSame_23 ⟨Nat.le_of_ble_eq_true rfl, Nat.le_of_ble_eq_true rfl⟩ ⟨by rw [h15]; rfl, rfl⟩
  · skip
    refine j_iconst (v := (nI 1)) C dX5_areSame_18 rfl ?_
    refine j_goto (tgt := 23) C dX5_areSame_19 (by decide) ?_
    exact j_zret C hQ rfl rfl dX5_areSame_23 ⟨Nat.le_of_ble_eq_true rfl, Nat.le_of_ble_eq_true rfl⟩ ⟨by rw [(samS_b z g i j).resolve_right h15]; rfl, rfl⟩
set_option maxHeartbeats 4000000 in
set_option maxRecDepth 100000 in
theorem g_order_a (l : Launch) (E : jE) (A : Nat → Prop) {x0 x1 x2 x3 x4 x5 : Nat × va_E} {mo ou : Nat} {th re ak gv kn : Int32} {ro : Nat → Option Nat} {LL : List Nat} {ff : Nat → va_E} {i : Nat} (hi : i < 9) {j : Nat} {w : Int32} (hj : j < 9) (hbw : w < 0 ∨ nI 3 < w)  : jMet l yX5_order cX5_order 4 (some .int) 5 0 0 E A [.ref mo, .int (nI i), .int (nI j), .int w] (mW E x0 x1 x2 x3 x4 x5 mo ou th re ak gv kn ro LL ff) (jR (some (.int (nI 0))) (mW E x0 x1 x2 x3 x4 x5 mo ou (nI 2) re ak gv kn ro LL ff)) jNo := by
  refine jMet.intro' [(0, .ref mo), (1, .int (nI i)), (2, .int (nI j)), (3, .int w)] (by decide) (Nat.le_of_ble_eq_true rfl) rfl ?_
  intro p e R s m args below meth c Q C hQ
  refine j_aload_n C dX5_order_0 rfl ?_
  refine j_iload_n C dX5_order_1 rfl ?_
  refine j_iload_n C dX5_order_2 rfl ?_
  refine j_callVr C 6 (v := .int (nI 0)) (w := (mW E x0 x1 x2 x3 x4 x5 mo ou (nI 0) re ak gv kn ro LL ff)) (m_areNo_0 l E A (by omega) (by omega)) ok_X5_areNo w_1014 (by decide) rfl rfl (Nat.le_of_ble_eq_true rfl) rfl rfl ⟨Nat.le_of_ble_eq_true rfl, Nat.le_of_ble_eq_true rfl⟩ dX5_order_3 ?_
  refine j_ifn_ne_f (tgt := 31) C dX5_order_6 (by decide) (by omega) (by omega) ?_
  refine j_aload_n C dX5_order_9 rfl ?_
  refine j_iload_n C dX5_order_10 rfl ?_
  refine j_iconst (v := (nI 0)) C dX5_order_11 rfl ?_
  refine j_iconst (v := (nI 3)) C dX5_order_12 rfl ?_
  refine j_callSr C (v := .int (bI (¬ w < (nI 0) ∧ ¬ (nI 3) < w))) (w := (mW E x0 x1 x2 x3 x4 x5 mo ou (nI 0) re ak gv kn ro LL ff)) (m_isIn l E A) ok_X5_isIn w_953 (by decide) rfl rfl (Nat.le_of_ble_eq_true rfl) ⟨Nat.le_of_ble_eq_true rfl, Nat.le_of_ble_eq_true rfl⟩ dX5_order_13 ?_
  refine j_ifb_ne_f (tgt := 23) C dX5_order_16 (by decide) (in_f' hbw) ?_
  refine j_iconst (v := (nI 1)) C dX5_order_19 rfl ?_
  refine j_goto (tgt := 24) C dX5_order_20 (by decide) ?_
  refine j_iconst (v := (nI 2)) C dX5_order_24 rfl ?_
  refine j_callVr C 6 (v := .int (nI 1)) (w := (mW E x0 x1 x2 x3 x4 x5 mo ou (nI 2) re ak gv kn ro LL ff)) (m_refuse_1 l E A (by decide) (by decide)) ok_X5_refuse w_966 (by decide) rfl rfl (Nat.le_of_ble_eq_true rfl) rfl rfl ⟨Nat.le_of_ble_eq_true rfl, Nat.le_of_ble_eq_true rfl⟩ dX5_order_25 ?_
  refine j_ifn_eq_f (tgt := 33) C dX5_order_28 (by decide) (by omega) (by omega) ?_
  refine j_iconst (v := (nI 0)) C dX5_order_31 rfl ?_
  exact j_iret C hQ rfl dX5_order_32 ⟨Nat.le_of_ble_eq_true rfl, Nat.le_of_ble_eq_true rfl⟩ ⟨rfl, rfl⟩
set_option maxHeartbeats 4000000 in
set_option maxRecDepth 100000 in
theorem g_order_k (l : Launch) (E : jE) (A : Nat → Prop) {x0 x1 x2 x3 x4 x5 : Nat × va_E} {mo ou : Nat} {th re ak gv kn : Int32} {ro : Nat → Option Nat} {LL : List Nat} {ff : Nat → va_E} {i j : Nat} (hi : i < 9) (hj : j < 9) {o : Nat} (ho : o ≤ 3) {z g : Nat → Int32} (hR : Rel E z g ro LL ff)  : jMet l yX5_order cX5_order 4 (some .int) 5 0 0 E A [.ref mo, .int (nI i), .int (nI j), .int (nI o)] (mW E x0 x1 x2 x3 x4 x5 mo ou th re ak gv kn ro LL ff) (jR (some (.int (ordV z g i j o))) (mW E x0 x1 x2 x3 x4 x5 mo ou (nI 0) re (askI z i j ak) gv kn ro LL ff)) jNo := by
  refine jMet.intro' [(0, .ref mo), (1, .int (nI i)), (2, .int (nI j)), (3, .int (nI o))] (by decide) (Nat.le_of_ble_eq_true rfl) rfl ?_
  intro p e R s m args below meth c Q C hQ
  refine j_aload_n C dX5_order_0 rfl ?_
  refine j_iload_n C dX5_order_1 rfl ?_
  refine j_iload_n C dX5_order_2 rfl ?_
  refine j_callVr C 6 (v := .int (nI 0)) (w := (mW E x0 x1 x2 x3 x4 x5 mo ou (nI 0) re ak gv kn ro LL ff)) (m_areNo_0 l E A (by omega) (by omega)) ok_X5_areNo w_1014 (by decide) rfl rfl (Nat.le_of_ble_eq_true rfl) rfl rfl ⟨Nat.le_of_ble_eq_true rfl, Nat.le_of_ble_eq_true rfl⟩ dX5_order_3 ?_
  refine j_ifn_ne_f (tgt := 31) C dX5_order_6 (by decide) (by omega) (by omega) ?_
  refine j_aload_n C dX5_order_9 rfl ?_
  refine j_iload_n C dX5_order_10 rfl ?_
  refine j_iconst (v := (nI 0)) C dX5_order_11 rfl ?_
  refine j_iconst (v := (nI 3)) C dX5_order_12 rfl ?_
  refine j_callSr C (v := .int (bI (¬ (nI o) < (nI 0) ∧ ¬ (nI 3) < (nI o)))) (w := (mW E x0 x1 x2 x3 x4 x5 mo ou (nI 0) re ak gv kn ro LL ff)) (m_isIn l E A) ok_X5_isIn w_953 (by decide) rfl rfl (Nat.le_of_ble_eq_true rfl) ⟨Nat.le_of_ble_eq_true rfl, Nat.le_of_ble_eq_true rfl⟩ dX5_order_13 ?_
  refine j_ifb_ne_t (tgt := 23) C dX5_order_16 (by decide) (in_t (by omega) (by omega) (by omega)) ?_
  refine j_iconst (v := (nI 0)) C dX5_order_23 rfl ?_
  refine j_iconst (v := (nI 2)) C dX5_order_24 rfl ?_
  refine j_callVr C 6 (v := .int (nI 0)) (w := (mW E x0 x1 x2 x3 x4 x5 mo ou (nI 0) re ak gv kn ro LL ff)) (m_refuse_0 l E A) ok_X5_refuse w_966 (by decide) rfl rfl (Nat.le_of_ble_eq_true rfl) rfl rfl ⟨Nat.le_of_ble_eq_true rfl, Nat.le_of_ble_eq_true rfl⟩ dX5_order_25 ?_
  refine j_ifn_eq_t (tgt := 33) C dX5_order_28 (by decide) (by omega) (by omega) ?_
  refine j_aload_n C dX5_order_33 rfl ?_
  refine j_dup C dX5_order_34 rfl ?_
  refine j_get C 6 rfl inj_X5 rfl 3 (by decide) w_924 rfl dX5_order_35 ?_
  refine j_aload_n C dX5_order_38 rfl ?_
  refine j_iload_n C dX5_order_39 rfl ?_
  refine j_iload_n C dX5_order_40 rfl ?_
  refine j_callVr C 6 (v := .int (bI (¬ i = j ∧ ¬ (z i = -1 ∧ z j = -1)))) (w := (mW E x0 x1 x2 x3 x4 x5 mo ou (nI 0) re ak gv kn ro LL ff)) (m_isAsked l E A (by omega) (by omega) hR) ok_X5_isAsked w_1112 (by decide) rfl rfl (Nat.le_of_ble_eq_true rfl) rfl rfl ⟨Nat.le_of_ble_eq_true rfl, Nat.le_of_ble_eq_true rfl⟩ dX5_order_41 ?_
  refine j_callSr C (v := .int (bI (¬ i = j ∧ ¬ (z i = -1 ∧ z j = -1)))) (w := (mW E x0 x1 x2 x3 x4 x5 mo ou (nI 0) re ak gv kn ro LL ff)) (m_one l E A) ok_X5_one w_956 (by decide) rfl rfl (Nat.le_of_ble_eq_true rfl) ⟨Nat.le_of_ble_eq_true rfl, Nat.le_of_ble_eq_true rfl⟩ dX5_order_44 ?_
  refine j_iadd (z := (ak + (bI (¬ i = j ∧ ¬ (z i = -1 ∧ z j = -1))))) C dX5_order_47 rfl ?_
  refine j_eq (st' := [.int (askI z i j ak), .ref mo]) rfl (by rw [ask_b]) rfl ?_
  refine j_put (ws' := (mW E x0 x1 x2 x3 x4 x5 mo ou (nI 0) re (askI z i j ak) gv kn ro LL ff)) C 6 rfl inj_X5 tyX5 tyX5_ok nmX5 rfl 3 (by decide) w_924 rfl (tyX5_ok 3 (by decide)) rfl rfl (Nat.le_of_ble_eq_true rfl) dX5_order_48 rfl ?_
  refine j_aload_n C dX5_order_51 rfl ?_
  refine j_iload_n C dX5_order_52 rfl ?_
  refine j_iload_n C dX5_order_53 rfl ?_
  refine j_iload_n C dX5_order_54 rfl ?_
  refine j_callVr C 6 (v := .int (ordV z g i j o)) (w := (mW E x0 x1 x2 x3 x4 x5 mo ou (nI 0) re (askI z i j ak) gv kn ro LL ff)) (m_ordered l E A (by omega) (by omega) (by omega) hR) ok_X5_ordered w_1116 (by decide) rfl rfl (Nat.le_of_ble_eq_true rfl) rfl rfl ⟨Nat.le_of_ble_eq_true rfl, Nat.le_of_ble_eq_true rfl⟩ dX5_order_55 ?_
  exact j_iret C hQ rfl dX5_order_58 ⟨Nat.le_of_ble_eq_true rfl, Nat.le_of_ble_eq_true rfl⟩ ⟨rfl, rfl⟩
set_option maxHeartbeats 4000000 in
set_option maxRecDepth 100000 in
theorem g_ahead_a (l : Launch) (E : jE) (A : Nat → Prop) {x0 x1 x2 x3 x4 x5 : Nat × va_E} {mo ou : Nat} {th re ak gv kn : Int32} {ro : Nat → Option Nat} {LL : List Nat} {ff : Nat → va_E} {i : Nat} (hi : i < 9) {w : Int32} (hbw : w < 0 ∨ nI 3 < w)  : jMet l yX5_ahead cX5_ahead 5 (some .int) 5 0 0 E A [.ref mo, .int (nI i), .int w] (mW E x0 x1 x2 x3 x4 x5 mo ou th re ak gv kn ro LL ff) (jR (some (.int (nI 0))) (mW E x0 x1 x2 x3 x4 x5 mo ou (nI 2) re ak gv kn ro LL ff)) jNo := by
  refine jMet.intro' [(0, .ref mo), (1, .int (nI i)), (2, .int w)] (by decide) (Nat.le_of_ble_eq_true rfl) rfl ?_
  intro p e R s m args below meth c Q C hQ
  refine j_aload_n C dX5_ahead_0 rfl ?_
  refine j_iload_n C dX5_ahead_1 rfl ?_
  refine j_callSr C (v := .int (nI 0)) (w := (mW E x0 x1 x2 x3 x4 x5 mo ou th re ak gv kn ro LL ff)) (m_isNo_0 l E A (by omega)) ok_X5_isNo w_959 (by decide) rfl rfl (Nat.le_of_ble_eq_true rfl) ⟨Nat.le_of_ble_eq_true rfl, Nat.le_of_ble_eq_true rfl⟩ dX5_ahead_2 ?_
  refine j_iconst (v := (nI 1)) C dX5_ahead_5 rfl ?_
  refine j_callVr C 6 (v := .int (nI 0)) (w := (mW E x0 x1 x2 x3 x4 x5 mo ou (nI 0) re ak gv kn ro LL ff)) (m_start_0 l E A) ok_X5_start w_962 (by decide) rfl rfl (Nat.le_of_ble_eq_true rfl) rfl rfl ⟨Nat.le_of_ble_eq_true rfl, Nat.le_of_ble_eq_true rfl⟩ dX5_ahead_6 ?_
  refine j_ifn_ne_f (tgt := 34) C dX5_ahead_9 (by decide) (by omega) (by omega) ?_
  refine j_aload_n C dX5_ahead_12 rfl ?_
  refine j_iload_n C dX5_ahead_13 rfl ?_
  refine j_iconst (v := (nI 0)) C dX5_ahead_14 rfl ?_
  refine j_iconst (v := (nI 3)) C dX5_ahead_15 rfl ?_
  refine j_callSr C (v := .int (bI (¬ w < (nI 0) ∧ ¬ (nI 3) < w))) (w := (mW E x0 x1 x2 x3 x4 x5 mo ou (nI 0) re ak gv kn ro LL ff)) (m_isIn l E A) ok_X5_isIn w_953 (by decide) rfl rfl (Nat.le_of_ble_eq_true rfl) ⟨Nat.le_of_ble_eq_true rfl, Nat.le_of_ble_eq_true rfl⟩ dX5_ahead_16 ?_
  refine j_ifb_ne_f (tgt := 26) C dX5_ahead_19 (by decide) (in_f' hbw) ?_
  refine j_iconst (v := (nI 1)) C dX5_ahead_22 rfl ?_
  refine j_goto (tgt := 27) C dX5_ahead_23 (by decide) ?_
  refine j_iconst (v := (nI 2)) C dX5_ahead_27 rfl ?_
  refine j_callVr C 6 (v := .int (nI 1)) (w := (mW E x0 x1 x2 x3 x4 x5 mo ou (nI 2) re ak gv kn ro LL ff)) (m_refuse_1 l E A (by decide) (by decide)) ok_X5_refuse w_966 (by decide) rfl rfl (Nat.le_of_ble_eq_true rfl) rfl rfl ⟨Nat.le_of_ble_eq_true rfl, Nat.le_of_ble_eq_true rfl⟩ dX5_ahead_28 ?_
  refine j_ifn_eq_f (tgt := 36) C dX5_ahead_31 (by decide) (by omega) (by omega) ?_
  refine j_iconst (v := (nI 0)) C dX5_ahead_34 rfl ?_
  exact j_iret C hQ rfl dX5_ahead_35 ⟨Nat.le_of_ble_eq_true rfl, Nat.le_of_ble_eq_true rfl⟩ ⟨rfl, rfl⟩
set_option maxHeartbeats 4000000 in
set_option maxRecDepth 100000 in
theorem g_ahead_k (l : Launch) (E : jE) (A : Nat → Prop) {x0 x1 x2 x3 x4 x5 : Nat × va_E} {mo ou : Nat} {th re ak gv kn : Int32} {ro : Nat → Option Nat} {LL : List Nat} {ff : Nat → va_E} {i : Nat} (hi : i < 9) {o : Nat} (ho : o ≤ 3) {z g : Nat → Int32} (hR : Rel E z g ro LL ff)  : jMet l yX5_ahead cX5_ahead 5 (some .int) 5 0 0 E A [.ref mo, .int (nI i), .int (nI o)] (mW E x0 x1 x2 x3 x4 x5 mo ou th re ak gv kn ro LL ff) (jR (some (.int (nI (ahdF z g i o 9)))) (mW E x0 x1 x2 x3 x4 x5 mo ou (nI 0) re (askF z i ak 9) gv kn ro LL ff)) jNo := by
  refine jMet.intro' [(0, .ref mo), (1, .int (nI i)), (2, .int (nI o))] (by decide) (Nat.le_of_ble_eq_true rfl) rfl ?_
  intro p e R s m args below meth c Q C hQ
  refine j_aload_n C dX5_ahead_0 rfl ?_
  refine j_iload_n C dX5_ahead_1 rfl ?_
  refine j_callSr C (v := .int (nI 0)) (w := (mW E x0 x1 x2 x3 x4 x5 mo ou th re ak gv kn ro LL ff)) (m_isNo_0 l E A (by omega)) ok_X5_isNo w_959 (by decide) rfl rfl (Nat.le_of_ble_eq_true rfl) ⟨Nat.le_of_ble_eq_true rfl, Nat.le_of_ble_eq_true rfl⟩ dX5_ahead_2 ?_
  refine j_iconst (v := (nI 1)) C dX5_ahead_5 rfl ?_
  refine j_callVr C 6 (v := .int (nI 0)) (w := (mW E x0 x1 x2 x3 x4 x5 mo ou (nI 0) re ak gv kn ro LL ff)) (m_start_0 l E A) ok_X5_start w_962 (by decide) rfl rfl (Nat.le_of_ble_eq_true rfl) rfl rfl ⟨Nat.le_of_ble_eq_true rfl, Nat.le_of_ble_eq_true rfl⟩ dX5_ahead_6 ?_
  refine j_ifn_ne_f (tgt := 34) C dX5_ahead_9 (by decide) (by omega) (by omega) ?_
  refine j_aload_n C dX5_ahead_12 rfl ?_
  refine j_iload_n C dX5_ahead_13 rfl ?_
  refine j_iconst (v := (nI 0)) C dX5_ahead_14 rfl ?_
  refine j_iconst (v := (nI 3)) C dX5_ahead_15 rfl ?_
  refine j_callSr C (v := .int (bI (¬ (nI o) < (nI 0) ∧ ¬ (nI 3) < (nI o)))) (w := (mW E x0 x1 x2 x3 x4 x5 mo ou (nI 0) re ak gv kn ro LL ff)) (m_isIn l E A) ok_X5_isIn w_953 (by decide) rfl rfl (Nat.le_of_ble_eq_true rfl) ⟨Nat.le_of_ble_eq_true rfl, Nat.le_of_ble_eq_true rfl⟩ dX5_ahead_16 ?_
  refine j_ifb_ne_t (tgt := 26) C dX5_ahead_19 (by decide) (in_t (by omega) (by omega) (by omega)) ?_
  refine j_iconst (v := (nI 0)) C dX5_ahead_26 rfl ?_
  refine j_iconst (v := (nI 2)) C dX5_ahead_27 rfl ?_
  refine j_callVr C 6 (v := .int (nI 0)) (w := (mW E x0 x1 x2 x3 x4 x5 mo ou (nI 0) re ak gv kn ro LL ff)) (m_refuse_0 l E A) ok_X5_refuse w_966 (by decide) rfl rfl (Nat.le_of_ble_eq_true rfl) rfl rfl ⟨Nat.le_of_ble_eq_true rfl, Nat.le_of_ble_eq_true rfl⟩ dX5_ahead_28 ?_
  refine j_ifn_eq_t (tgt := 36) C dX5_ahead_31 (by decide) (by omega) (by omega) ?_
  refine j_iconst (v := (nI 0)) C dX5_ahead_36 rfl ?_
  refine j_istore_n (lv' := [(3, .int (nI 0)), (0, .ref mo), (1, .int (nI i)), (2, .int (nI o))]) C dX5_ahead_37 (by decide) rfl ?_
  refine j_iconst (v := (nI 0)) C dX5_ahead_38 rfl ?_
  refine j_istore (lv' := [(4, .int (nI 0)), (3, .int (nI 0)), (0, .ref mo), (1, .int (nI i)), (2, .int (nI o))]) C dX5_ahead_39 (by decide) rfl ?_
  have L41 : ∀ (r k : Nat), k + r = 9 → jJ p l e R s m args below meth c E A 5 Q 0 0 41 [(4, .int (nI k)), (3, .int (nI (ahdF z g i o k))), (0, .ref mo), (1, .int (nI i)), (2, .int (nI o))] [] (mW E x0 x1 x2 x3 x4 x5 mo ou (nI 0) re (askF z i ak k) gv kn ro LL ff) := by
    intro r
    induction r with
    | zero =>
      intro k  hk41 
      refine j_iload C dX5_ahead_41 rfl ?_
      refine j_bipush (v := (nI 9)) C dX5_ahead_43 rfl ?_
      refine j_icmpn_ge_t (tgt := 95) C dX5_ahead_45 (by decide) (by omega) (by omega) (by omega) ?_
      have ek : 9 = k := by omega
      subst ek
      refine j_iload_n C dX5_ahead_95 rfl ?_
      exact j_iret C hQ rfl dX5_ahead_96 ⟨Nat.le_of_ble_eq_true rfl, Nat.le_of_ble_eq_true rfl⟩ ⟨rfl, rfl⟩
    | succ r ih41 =>
      intro k  hk41 
      refine j_iload C dX5_ahead_41 rfl ?_
      refine j_bipush (v := (nI 9)) C dX5_ahead_43 rfl ?_
      refine j_icmpn_ge_f (tgt := 95) C dX5_ahead_45 (by decide) (by omega) (by omega) (by omega) ?_
      refine j_aload_n C dX5_ahead_48 rfl ?_
      refine j_dup C dX5_ahead_49 rfl ?_
      refine j_get C 6 rfl inj_X5 rfl 3 (by decide) w_924 rfl dX5_ahead_50 ?_
      refine j_aload_n C dX5_ahead_53 rfl ?_
      refine j_iload_n C dX5_ahead_54 rfl ?_
      refine j_iload C dX5_ahead_55 rfl ?_
      refine j_callVr C 6 (v := .int (bI (¬ i = k ∧ ¬ (z i = -1 ∧ z k = -1)))) (w := (mW E x0 x1 x2 x3 x4 x5 mo ou (nI 0) re (askF z i ak k) gv kn ro LL ff)) (m_isAsked l E A (by omega) (by omega) hR) ok_X5_isAsked w_1112 (by decide) rfl rfl (Nat.le_of_ble_eq_true rfl) rfl rfl ⟨Nat.le_of_ble_eq_true rfl, Nat.le_of_ble_eq_true rfl⟩ dX5_ahead_57 ?_
      refine j_callSr C (v := .int (bI (¬ i = k ∧ ¬ (z i = -1 ∧ z k = -1)))) (w := (mW E x0 x1 x2 x3 x4 x5 mo ou (nI 0) re (askF z i ak k) gv kn ro LL ff)) (m_one l E A) ok_X5_one w_956 (by decide) rfl rfl (Nat.le_of_ble_eq_true rfl) ⟨Nat.le_of_ble_eq_true rfl, Nat.le_of_ble_eq_true rfl⟩ dX5_ahead_60 ?_
      refine j_iadd (z := ((askF z i ak k) + (bI (¬ i = k ∧ ¬ (z i = -1 ∧ z k = -1))))) C dX5_ahead_63 rfl ?_
      refine j_eq (st' := [.int (askI z i k (askF z i ak k)), .ref mo]) rfl (by rw [ask_b]) rfl ?_
      refine j_put (ws' := (mW E x0 x1 x2 x3 x4 x5 mo ou (nI 0) re (askI z i k (askF z i ak k)) gv kn ro LL ff)) C 6 rfl inj_X5 tyX5 tyX5_ok nmX5 rfl 3 (by decide) w_924 rfl (tyX5_ok 3 (by decide)) rfl rfl (Nat.le_of_ble_eq_true rfl) dX5_ahead_64 rfl ?_
      refine j_iload_n C dX5_ahead_67 rfl ?_
      refine j_aload_n C dX5_ahead_68 rfl ?_
      refine j_iload C dX5_ahead_69 rfl ?_
      refine j_iload_n C dX5_ahead_71 rfl ?_
      refine j_iload_n C dX5_ahead_72 rfl ?_
      refine j_callVr C 6 (v := .int (ordV z g k i o)) (w := (mW E x0 x1 x2 x3 x4 x5 mo ou (nI 0) re (askI z i k (askF z i ak k)) gv kn ro LL ff)) (m_ordered l E A (by omega) (by omega) (by omega) hR) ok_X5_ordered w_1116 (by decide) rfl rfl (Nat.le_of_ble_eq_true rfl) rfl rfl ⟨Nat.le_of_ble_eq_true rfl, Nat.le_of_ble_eq_true rfl⟩ dX5_ahead_73 ?_
      refine j_if_ge (tgt := 83) C dX5_ahead_76 (by decide) (fun h76 => ?_) (fun h76 => ?_)
      · skip
        refine j_iconst (v := (nI 0)) C dX5_ahead_83 rfl ?_
        refine j_callSr C (v := .int (nI 0)) (w := (mW E x0 x1 x2 x3 x4 x5 mo ou (nI 0) re (askI z i k (askF z i ak k)) gv kn ro LL ff)) (m_one_0 l E A) ok_X5_one w_956 (by decide) rfl rfl (Nat.le_of_ble_eq_true rfl) ⟨Nat.le_of_ble_eq_true rfl, Nat.le_of_ble_eq_true rfl⟩ dX5_ahead_84 ?_
        refine j_iadd (z := (nI (ahdF z g i o k + 0))) C dX5_ahead_87 (nI_add _ _) ?_
        refine j_istore_n (lv' := [(3, .int (nI (ahdF z g i o k + 0))), (4, .int (nI k)), (0, .ref mo), (1, .int (nI i)), (2, .int (nI o))]) C dX5_ahead_88 (by decide) rfl ?_
        refine j_iinc (lv' := [(4, .int (nI (k + 1))), (3, .int (nI (ahdF z g i o k + 0))), (0, .ref mo), (1, .int (nI i)), (2, .int (nI o))]) C dX5_ahead_89 rfl (nI_1 _) (by decide) rfl ?_
        refine j_goto (tgt := 41) C dX5_ahead_92 (by decide) ?_
        refine j_eq (lv' := [(4, .int (nI (k + 1))), (3, .int (nI (ahdF z g i o (k + 1)))), (0, .ref mo), (1, .int (nI i)), (2, .int (nI o))]) (by rw [ahdF_n (Int32.not_lt.mpr h76)]; rfl) rfl rfl ?_
        refine j_eq (ws' := (mW E x0 x1 x2 x3 x4 x5 mo ou (nI 0) re (askF z i ak (k + 1)) gv kn ro LL ff)) rfl rfl (by rw [askF_c]) ?_
        refine j_lv (lv' := [(4, .int (nI (k + 1))), (3, .int (nI (ahdF z g i o (k + 1)))), (0, .ref mo), (1, .int (nI i)), (2, .int (nI o))]) (by simp only [List.mem_cons, List.not_mem_nil, or_false, forall_eq_or_imp, forall_eq, true_or, or_true, and_self, Nat.add_zero]) ?_
        exact ih41 (k + 1) (by omega)
      · skip
        refine j_iconst (v := (nI 1)) C dX5_ahead_79 rfl ?_
        refine j_goto (tgt := 84) C dX5_ahead_80 (by decide) ?_
        refine j_callSr C (v := .int (nI 1)) (w := (mW E x0 x1 x2 x3 x4 x5 mo ou (nI 0) re (askI z i k (askF z i ak k)) gv kn ro LL ff)) (m_one_1 l E A) ok_X5_one w_956 (by decide) rfl rfl (Nat.le_of_ble_eq_true rfl) ⟨Nat.le_of_ble_eq_true rfl, Nat.le_of_ble_eq_true rfl⟩ dX5_ahead_84 ?_
        refine j_iadd (z := (nI (ahdF z g i o k + 1))) C dX5_ahead_87 (nI_add _ _) ?_
        refine j_istore_n (lv' := [(3, .int (nI (ahdF z g i o k + 1))), (4, .int (nI k)), (0, .ref mo), (1, .int (nI i)), (2, .int (nI o))]) C dX5_ahead_88 (by decide) rfl ?_
        refine j_iinc (lv' := [(4, .int (nI (k + 1))), (3, .int (nI (ahdF z g i o k + 1))), (0, .ref mo), (1, .int (nI i)), (2, .int (nI o))]) C dX5_ahead_89 rfl (nI_1 _) (by decide) rfl ?_
        refine j_goto (tgt := 41) C dX5_ahead_92 (by decide) ?_
        refine j_eq (lv' := [(4, .int (nI (k + 1))), (3, .int (nI (ahdF z g i o (k + 1)))), (0, .ref mo), (1, .int (nI i)), (2, .int (nI o))]) (by rw [ahdF_y (Int32.not_le.mp h76)]) rfl rfl ?_
        refine j_eq (ws' := (mW E x0 x1 x2 x3 x4 x5 mo ou (nI 0) re (askF z i ak (k + 1)) gv kn ro LL ff)) rfl rfl (by rw [askF_c]) ?_
        refine j_lv (lv' := [(4, .int (nI (k + 1))), (3, .int (nI (ahdF z g i o (k + 1)))), (0, .ref mo), (1, .int (nI i)), (2, .int (nI o))]) (by simp only [List.mem_cons, List.not_mem_nil, or_false, forall_eq_or_imp, forall_eq, true_or, or_true, and_self, Nat.add_zero]) ?_
        exact ih41 (k + 1) (by omega)
  refine j_eq (lv' := [(4, .int (nI 0)), (3, .int (nI (ahdF z g i o 0))), (0, .ref mo), (1, .int (nI i)), (2, .int (nI o))]) rfl rfl rfl ?_
  refine j_eq (ws' := (mW E x0 x1 x2 x3 x4 x5 mo ou (nI 0) re (askF z i ak 0) gv kn ro LL ff)) rfl rfl rfl ?_
  refine j_lv (lv' := [(4, .int (nI 0)), (3, .int (nI (ahdF z g i o 0))), (0, .ref mo), (1, .int (nI i)), (2, .int (nI o))]) (by simp only [List.mem_cons, List.not_mem_nil, or_false, forall_eq_or_imp, forall_eq, true_or, or_true, and_self, Nat.add_zero]) ?_
  exact L41 9 0 (by omega)
set_option maxHeartbeats 4000000 in
set_option maxRecDepth 100000 in
theorem g_house_b (l : Launch) (E : jE) (A : Nat → Prop) {x0 x1 x2 x3 x4 x5 : Nat × va_E} {mo ou : Nat} {th re ak gv kn : Int32} {ro : Nat → Option Nat} {LL : List Nat} {ff : Nat → va_E} {x : Int32} (hbx : x < 0 ∨ nI 5 < x)  : jMet l yX5_house cX5_house 2 (some .int) 5 0 0 E A [.ref mo, .int x] (mW E x0 x1 x2 x3 x4 x5 mo ou th re ak gv kn ro LL ff) (jR (some (.int (nI 0))) (mW E x0 x1 x2 x3 x4 x5 mo ou (nI 1) re ak gv kn ro LL ff)) jNo := by
  refine jMet.intro' [(0, .ref mo), (1, .int x)] (by decide) (Nat.le_of_ble_eq_true rfl) rfl ?_
  intro p e R s m args below meth c Q C hQ
  refine j_aload_n C dX5_house_0 rfl ?_
  refine j_iload_n C dX5_house_1 rfl ?_
  refine j_iconst (v := (nI 0)) C dX5_house_2 rfl ?_
  refine j_iconst (v := (nI 5)) C dX5_house_3 rfl ?_
  refine j_callSr C (v := .int (bI (¬ x < (nI 0) ∧ ¬ (nI 5) < x))) (w := (mW E x0 x1 x2 x3 x4 x5 mo ou th re ak gv kn ro LL ff)) (m_isIn l E A) ok_X5_isIn w_953 (by decide) rfl rfl (Nat.le_of_ble_eq_true rfl) ⟨Nat.le_of_ble_eq_true rfl, Nat.le_of_ble_eq_true rfl⟩ dX5_house_4 ?_
  refine j_ifb_ne_f (tgt := 14) C dX5_house_7 (by decide) (in_f' hbx) ?_
  refine j_iconst (v := (nI 1)) C dX5_house_10 rfl ?_
  refine j_goto (tgt := 15) C dX5_house_11 (by decide) ?_
  refine j_iconst (v := (nI 1)) C dX5_house_15 rfl ?_
  refine j_callVr C 6 (v := .int (nI 1)) (w := (mW E x0 x1 x2 x3 x4 x5 mo ou (nI 1) re ak gv kn ro LL ff)) (m_start_1 l E A (by decide) (by decide)) ok_X5_start w_962 (by decide) rfl rfl (Nat.le_of_ble_eq_true rfl) rfl rfl ⟨Nat.le_of_ble_eq_true rfl, Nat.le_of_ble_eq_true rfl⟩ dX5_house_16 ?_
  refine j_ifn_eq_f (tgt := 26) C dX5_house_19 (by decide) (by omega) (by omega) ?_
  refine j_iconst (v := (nI 0)) C dX5_house_22 rfl ?_
  refine j_goto (tgt := 31) C dX5_house_23 (by decide) ?_
  exact j_iret C hQ rfl dX5_house_31 ⟨Nat.le_of_ble_eq_true rfl, Nat.le_of_ble_eq_true rfl⟩ ⟨rfl, rfl⟩
set_option maxHeartbeats 4000000 in
set_option maxRecDepth 100000 in
theorem g_house_k (l : Launch) (E : jE) (A : Nat → Prop) {x0 x1 x2 x3 x4 x5 : Nat × va_E} {mo ou : Nat} {th re ak gv kn : Int32} {ro : Nat → Option Nat} {LL : List Nat} {ff : Nat → va_E} {i : Nat} (hi : i ≤ 5) {z g : Nat → Int32} (hR : Rel E z g ro LL ff)  : jMet l yX5_house cX5_house 2 (some .int) 5 1 6 E A [.ref mo, .int (nI i)] (mW E x0 x1 x2 x3 x4 x5 mo ou th re ak gv kn ro LL ff) (fun v w => ∃ (q : Nat) (h : Nat → Int32), q ∉ LL ∧ v = some (.int (telV z re ak gv kn i)) ∧ w = mW E x0 x1 x2 x3 x4 x5 mo ou (nI 0) re ak gv kn ro (LL ++ [q]) (va_up ff q (.inl (E.2.1, 6, .inl h)))) jNo := by
  refine jMet.intro' [(0, .ref mo), (1, .int (nI i))] (by decide) (Nat.le_of_ble_eq_true rfl) rfl ?_
  intro p e R s m args below meth c Q C hQ
  refine j_aload_n C dX5_house_0 rfl ?_
  refine j_iload_n C dX5_house_1 rfl ?_
  refine j_iconst (v := (nI 0)) C dX5_house_2 rfl ?_
  refine j_iconst (v := (nI 5)) C dX5_house_3 rfl ?_
  refine j_callSr C (v := .int (bI (¬ (nI i) < (nI 0) ∧ ¬ (nI 5) < (nI i)))) (w := (mW E x0 x1 x2 x3 x4 x5 mo ou th re ak gv kn ro LL ff)) (m_isIn l E A) ok_X5_isIn w_953 (by decide) rfl rfl (Nat.le_of_ble_eq_true rfl) ⟨Nat.le_of_ble_eq_true rfl, Nat.le_of_ble_eq_true rfl⟩ dX5_house_4 ?_
  refine j_ifb_ne_t (tgt := 14) C dX5_house_7 (by decide) (in_t (by omega) (by omega) (by omega)) ?_
  refine j_iconst (v := (nI 0)) C dX5_house_14 rfl ?_
  refine j_iconst (v := (nI 1)) C dX5_house_15 rfl ?_
  refine j_callVr C 6 (v := .int (nI 0)) (w := (mW E x0 x1 x2 x3 x4 x5 mo ou (nI 0) re ak gv kn ro LL ff)) (m_start_0 l E A) ok_X5_start w_962 (by decide) rfl rfl (Nat.le_of_ble_eq_true rfl) rfl rfl ⟨Nat.le_of_ble_eq_true rfl, Nat.le_of_ble_eq_true rfl⟩ dX5_house_16 ?_
  refine j_ifn_eq_t (tgt := 26) C dX5_house_19 (by decide) (by omega) (by omega) ?_
  refine j_aload_n C dX5_house_26 rfl ?_
  refine j_iload_n C dX5_house_27 rfl ?_
  refine j_callV C (q0 := 6) (m_houseTold l E A (by omega) hR) ok_X5_houseTold w_1189 (by decide) rfl rfl (Nat.le_of_ble_eq_true rfl) rfl rfl ⟨Nat.le_of_ble_eq_true rfl, Nat.le_of_ble_eq_true rfl⟩ dX5_house_28 (fun _ _ h => h.elim) (fun _ _ h => ?_)
  obtain ⟨q1, hhq1, hqq1, rfl, rfl⟩ := h
  exact j_iret C hQ rfl dX5_house_31 ⟨Nat.le_of_ble_eq_true rfl, Nat.le_of_ble_eq_true rfl⟩ ⟨_, _, hqq1, rfl, rfl⟩
