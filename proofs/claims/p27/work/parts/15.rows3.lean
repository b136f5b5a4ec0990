/-! Math.min, Math.max; pure facts of the loops -/
section JR3
variable {p : Program} {l : Launch} {e : Env} {R : Room} {s : State} {m : MethodId} {args : Array Value} {below : List Frame} {meth : Method} {c : Code} {y : MethodName} {cc : ByteArray} {nL : Nat} {ret : Option FieldType} {d mc ms : Nat} {E : jE} {A : Nat → Prop} {Q : State → Prop} {cells slots pc : Nat} {lv : List (Nat × Value)} {rest st : List Value} {ws : va_W}
theorem j_mmin (C : jC p l e R s m args below meth c y cc nL ret d mc ms E A) {i : Nat} {x x2 z : Int32} (h1 : Cond.methodLink y.cls i Lib.Math.min.name ∈ jTg) (h2 : Cond.static Lib.Math.min.name ∈ jTg) (h3 : Cond.initialized "java/lang/Math" ∈ jTg) (h4 : Cond.code Lib.Math.min.name Lib.Math.min.code 2 (some .int) ∈ jTg) (hcat : (rest.map fun v => v.category).sum ≤ 8) (hb : cells ≤ mc ∧ slots ≤ ms) (hd : decode cc pc = .ok (.invokestatic i, 3)) (hz : (if x2 < x then x2 else x) = z)
    (kk : jJ p l e R s m args below meth c E A nL Q cells slots (pc + 3) lv (.int z :: rest) ws) : jJ p l e R s m args below meth c E A nL Q cells slots pc lv (.int x2 :: .int x :: rest) ws := by
  intro _ _ _ hP hD hS hl
  have hR := C.2.2.2.2.2.2.2.2.2.2.1
  have hts := C.2.2.2.2.1
  subst hz
  refine va_mmin C.1 C.2.1 (C.2.2.1.trans hl.1.symm) C.2.2.2.1 (hts _ h1) (hts _ h2) (hts _ h3) (hts _ h4) ?_ ?_ (by rw [hR]; exact hb.1) (by rw [hR]; exact hb.2) hd (kk _ _ _ hP hD hS hl)
  · rw [hR]; show 1 ≤ d + 6; omega
  · rw [hR]; show _ + 13 ≤ 40 * d + 100; omega
theorem j_mmax (C : jC p l e R s m args below meth c y cc nL ret d mc ms E A) {i : Nat} {x x2 z : Int32} (h1 : Cond.methodLink y.cls i Lib.Math.max.name ∈ jTg) (h2 : Cond.static Lib.Math.max.name ∈ jTg) (h3 : Cond.initialized "java/lang/Math" ∈ jTg) (h4 : Cond.code Lib.Math.max.name Lib.Math.max.code 2 (some .int) ∈ jTg) (hcat : (rest.map fun v => v.category).sum ≤ 8) (hb : cells ≤ mc ∧ slots ≤ ms) (hd : decode cc pc = .ok (.invokestatic i, 3)) (hz : (if x < x2 then x2 else x) = z)
    (kk : jJ p l e R s m args below meth c E A nL Q cells slots (pc + 3) lv (.int z :: rest) ws) : jJ p l e R s m args below meth c E A nL Q cells slots pc lv (.int x2 :: .int x :: rest) ws := by
  intro _ _ _ hP hD hS hl
  have hR := C.2.2.2.2.2.2.2.2.2.2.1
  have hts := C.2.2.2.2.1
  subst hz
  refine va_mmax C.1 C.2.1 (C.2.2.1.trans hl.1.symm) C.2.2.2.1 (hts _ h1) (hts _ h2) (hts _ h3) (hts _ h4) ?_ ?_ (by rw [hR]; exact hb.1) (by rw [hR]; exact hb.2) hd (kk _ _ _ hP hD hS hl)
  · rw [hR]; show 1 ≤ d + 6; omega
  · rw [hR]; show _ + 13 ≤ 40 * d + 100; omega
end JR3
theorem nI_min {a b : Nat} (ha : a < 2 ^ 31) (hb : b < 2 ^ 31) : (if nI b < nI a then nI b else nI a) = nI (min a b) := by
  by_cases h : b < a
  · rw [if_pos ((nI_ltI hb ha).mpr h), Nat.min_eq_right (by omega)]
  · rw [if_neg (fun z => h ((nI_ltI hb ha).mp z)), Nat.min_eq_left (by omega)]
theorem smI_0 {x y : Int32} : smI x y = 0 ↔ ¬ x < y ∧ ¬ y < x := by
  unfold smI
  by_cases h1 : x < y
  · rw [if_pos h1]; exact ⟨fun z => absurd z (by decide), fun z => absurd h1 z.1⟩
  · rw [if_neg h1]
    by_cases h2 : y < x
    · rw [if_pos h2]; exact ⟨fun z => absurd z (by decide), fun z => absurd h2 z.2⟩
    · rw [if_neg h2]; exact ⟨fun _ => ⟨h1, h2⟩, fun _ => rfl⟩
theorem cmpF_ne {f h : Nat → Int32} {e : Int32} {k r : Nat} (q : ¬ smI (f k) (h k) = 0) : cmpF f h e k (r + 1) = smI (f k) (h k) := by
  rw [cmpF]
  unfold smI at q ⊢
  by_cases h1 : f k < h k
  · rw [if_pos h1, if_pos h1]
  · rw [if_neg h1] at q ⊢
    rw [if_neg h1]
    by_cases h2 : h k < f k
    · rw [if_pos h2, if_pos h2]
    · rw [if_neg h2] at q
      exact absurd rfl q
theorem cmpF_eq {f h : Nat → Int32} {e : Int32} {k r : Nat} (q : smI (f k) (h k) = 0) : cmpF f h e k (r + 1) = cmpF f h e (k + 1) r := by
  obtain ⟨h1, h2⟩ := smI_0.mp q
  rw [cmpF, if_neg h1, if_neg h2]
theorem jput_s0 (g h : Nat → Int32) (n : Nat) : upd (jput g h 0 n) n (h n) = jput g h 0 (n + 1) := by
  have := jput_s g h 0 n
  rwa [Nat.zero_add] at this
theorem codeF_s (f : Nat → Int32) (n : Nat) : codeF f (n + 1) = codeF f n * 31 + jCod (f n).toNatClampNeg := rfl
theorem cntF_s (f : Nat → Int32) (x : Int32) (n : Nat) : cntF f x (n + 1) = cntF f x n + (if f n = x then 1 else 0) := rfl
theorem cntF_y {f : Nat → Int32} {x : Int32} {n : Nat} (h : f n = x) : cntF f x n + 1 = cntF f x (n + 1) := by rw [cntF_s, if_pos h]
theorem cntF_n {f : Nat → Int32} {x : Int32} {n : Nat} (h : ¬ f n = x) : cntF f x n = cntF f x (n + 1) := by rw [cntF_s, if_neg h]; rfl
theorem cntF_le (f : Nat → Int32) (x : Int32) : ∀ n, cntF f x n ≤ n
  | 0 => Nat.le_refl _
  | n + 1 => by have := cntF_le f x n; rw [cntF_s]; split <;> omega
/-- both rows have the same first n -/
def sameF (f h : Nat → Int32) (n : Nat) : Prop := ∀ k, k < n → f k = h k
def sameV (f h : Nat → Int32) : Nat → Nat → Int32
  | _, 0 => 1
  | k, m + 1 => if f k = h k then sameV f h (k + 1) m else 0
theorem sameV_ne {f h : Nat → Int32} {k r : Nat} (q : ¬ f k = h k) : sameV f h k (r + 1) = nI 0 := by rw [sameV, if_neg q]; rfl
theorem sameV_eq {f h : Nat → Int32} {k r : Nat} (q : f k = h k) : sameV f h k (r + 1) = sameV f h (k + 1) r := by rw [sameV, if_pos q]
theorem sameV_b (f h : Nat → Int32) : ∀ r k, sameV f h k r = 1 ∨ sameV f h k r = 0
  | 0, _ => Or.inl rfl
  | r + 1, k => by
    by_cases q : f k = h k
    · rw [sameV_eq q]; exact sameV_b f h r (k + 1)
    · rw [sameV_ne q]; exact Or.inr rfl
/-- a seat's text: missing, or at most 24 signs -/
def txOk (z g : Nat → Int32) (i : Nat) : Prop := z i = -1 ∨ ∃ n, n ≤ 24 ∧ z i = nI n ∧ ∀ k, k < n → isSg (g (i * 24 + k))
def codS (z g : Nat → Int32) (i : Nat) : Int32 := if z i = -1 then nI 0 else codeF (fun q => g (i * 24 + q)) (z i).toNatClampNeg
theorem nI_ne_m {n : Nat} (h : n < 2 ^ 31) : ¬ nI n = -1 := fun z => by
  have h1 := nI_toInt h
  rw [z] at h1
  have h2 : (-1 : Int32).toInt = -1 := by decide
  omega
theorem codS_m {z g : Nat → Int32} {i : Nat} (h : z i = -1) : codS z g i = nI 0 := if_pos h
theorem codS_n {z g : Nat → Int32} {i n : Nat} (hn : n ≤ 24) (h : z i = nI n) : codS z g i = codeF (fun q => g (i * 24 + q)) n := by
  unfold codS
  rw [h, if_neg (nI_ne_m (by omega)), nI_clamp (by omega)]
def cod3 (a b c : Int32) : Int32 := ((nI 31 + a) * nI 31 + b) * nI 31 + c
def sgnN (z : Nat → Int32) : Nat → Nat
  | 0 => 0
  | n + 1 => sgnN z n + (z n).toNatClampNeg
def awN (z : Nat → Int32) : Nat → Nat
  | 0 => 0
  | n + 1 => awN z n + (if z n = -1 then 1 else 0)
theorem awN_y {z : Nat → Int32} {n : Nat} (h : z n = -1) : awN z n + 1 = awN z (n + 1) := by rw [awN, if_pos h]
theorem awN_n {z : Nat → Int32} {n : Nat} (h : ¬ z n = -1) : awN z n = awN z (n + 1) := by rw [awN, if_neg h]; rfl
theorem txOk_max {z g : Nat → Int32} {i : Nat} (h : txOk z g i) : (if z i < nI 0 then nI 0 else z i) = nI (z i).toNatClampNeg := by
  rcases h with h | ⟨n, hn, h, -⟩
  · rw [h]; decide
  · rw [h, if_neg (nI_nlt (Nat.zero_le n) (by omega)), nI_clamp (by omega)]
