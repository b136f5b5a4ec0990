/-! the law's own splits of a script's numbers -/
theorem l64 (x y : Int32) : x.toInt64 < y.toInt64 ↔ x.toInt < y.toInt := by rw [Int64.lt_iff_toInt_lt, Int32.toInt_toInt64, Int32.toInt_toInt64]
theorem le64 (x y : Int32) : x.toInt64 ≤ y.toInt64 ↔ x.toInt ≤ y.toInt := by rw [Int64.le_iff_toInt_le, Int32.toInt_toInt64, Int32.toInt_toInt64]
theorem z64 (x : Int32) : x.toInt64 < 0 ↔ x.toInt < 0 := by rw [Int64.lt_iff_toInt_lt, Int32.toInt_toInt64]; exact Iff.rfl
theorem bd32 (x : Int32) : -2147483648 ≤ x.toInt ∧ x.toInt < 2147483648 := ⟨Int32.le_toInt x, Int32.toInt_lt x⟩
theorem place_iff (x y : Int32) : (¬ x.toInt64 < 0 ∧ ¬ y.toInt64 ≤ x.toInt64) ↔ ((¬ x < nI 0 ∧ ¬ y - nI 1 < x) ∧ ¬ y ≤ 0) := by
  have e1 : (x < nI 0) ↔ x.toInt < 0 := by rw [Int32.lt_iff_toInt_lt]; exact Iff.rfl
  have e2 : (y ≤ 0) ↔ y.toInt ≤ 0 := by rw [Int32.le_iff_toInt_le]; exact Iff.rfl
  have e3 : (y - nI 1 < x) ↔ (y - nI 1).toInt < x.toInt := Int32.lt_iff_toInt_lt
  rw [z64, le64, e1, e2, e3, Int32.toInt_sub, show (nI 1).toInt = 1 from rfl]
  have b := bd32 x
  have c := bd32 y
  constructor
  · intro h
    have e : (y.toInt - 1).bmod (2 ^ 32) = y.toInt - 1 := Int.bmod_eq_of_le (by omega) (by omega)
    rw [e]; omega
  · intro h
    have e : (y.toInt - 1).bmod (2 ^ 32) = y.toInt - 1 := Int.bmod_eq_of_le (by omega) (by omega)
    rw [e] at h; omega
theorem stretch_iff (x y w : Int32) : (¬ x.toInt64 < 0 ∧ ¬ y.toInt64 < 0 ∧ ¬ w.toInt64 < 0 ∧ ¬ w.toInt64 - y.toInt64 < x.toInt64) ↔ (¬ x.toInt64 < 0 ∧ ¬ y.toInt64 < 0 ∧ ¬ w.toInt64 < 0 ∧ ¬ w.toInt64 < x.toInt64 + y.toInt64) := by
  have b := bd32 x
  have c := bd32 y
  have d := bd32 w
  have e1 : (w.toInt64 - y.toInt64).toInt = w.toInt - y.toInt := by
    rw [Int64.toInt_sub, Int32.toInt_toInt64, Int32.toInt_toInt64]; exact Int.bmod_eq_of_le (by omega) (by omega)
  have e2 : (x.toInt64 + y.toInt64).toInt = x.toInt + y.toInt := by
    rw [Int64.toInt_add, Int32.toInt_toInt64, Int32.toInt_toInt64]; exact Int.bmod_eq_of_le (by omega) (by omega)
  have e3 : (w.toInt64 - y.toInt64 < x.toInt64) ↔ w.toInt - y.toInt < x.toInt := by rw [Int64.lt_iff_toInt_lt, e1, Int32.toInt_toInt64]
  have e4 : (w.toInt64 < x.toInt64 + y.toInt64) ↔ w.toInt < x.toInt + y.toInt := by rw [Int64.lt_iff_toInt_lt, e2, Int32.toInt_toInt64]
  rw [e3, e4]
  constructor <;> intro h <;> exact ⟨h.1, h.2.1, h.2.2.1, by have := h.2.2.2; omega⟩
theorem tonI {n : Nat} (h : n < 2 ^ 31) : (nI n).toInt = n := by
  rw [nI, Int32.toInt_ofNat_of_lt h]
theorem at_cases (y : Int32) {n : Nat} (hn : n ≤ 24) : (∃ k : Nat, k < n ∧ y = nI k) ∨ (¬ (¬ y.toInt64 < 0 ∧ ¬ (nI n).toInt64 ≤ y.toInt64) ∧ ¬ (¬ y < nI 0 ∧ ¬ nI n - nI 1 < y)) := by
  have e1 : (y < nI 0) ↔ y.toInt < 0 := by rw [Int32.lt_iff_toInt_lt]; exact Iff.rfl
  have e3 : (nI n - nI 1 < y) ↔ (nI n - nI 1).toInt < y.toInt := Int32.lt_iff_toInt_lt
  rcases seat_cases y n (by omega) with h | h
  · exact Or.inl h
  · right
    rw [z64, le64, e1, e3, Int32.toInt_sub, show (nI 1).toInt = 1 from rfl, tonI (by omega), show ((n : Int) - 1).bmod (2 ^ 32) = n - 1 from Int.bmod_eq_of_le (by omega) (by omega)]
    rcases h with h | h
    · have := (Int32.lt_iff_toInt_lt.mp h); have e : (0 : Int32).toInt = 0 := rfl
      rw [e] at this
      exact ⟨fun q => q.1 this, fun q => q.1 this⟩
    · have := (Int32.le_iff_toInt_le.mp h)
      rw [tonI (by omega)] at this
      exact ⟨fun q => q.2 this, fun q => q.2 (by omega)⟩
theorem nn32 {y : Int32} (h : ¬ y.toInt < 0) : ∃ a : Nat, y = nI a ∧ (a : Int) = y.toInt ∧ a < 2 ^ 31 := by
  have b := bd32 y
  refine ⟨y.toInt.toNat, ?_, by omega, by omega⟩
  refine Int32.toInt_inj.mp ?_
  rw [tonI (by omega)]; omega
theorem cut_cases (y w : Int32) {n : Nat} (hn : n ≤ 24) : (∃ a v : Nat, a ≤ v ∧ v ≤ n ∧ y = nI a ∧ w = nI v) ∨ ¬ (¬ y.toInt64 < 0 ∧ ¬ w.toInt64 < y.toInt64 ∧ ¬ (nI n).toInt64 < w.toInt64) := by
  by_cases h : (¬ y.toInt64 < 0 ∧ ¬ w.toInt64 < y.toInt64 ∧ ¬ (nI n).toInt64 < w.toInt64)
  · rw [z64, l64, l64, tonI (by omega)] at h
    obtain ⟨a, rfl, e1, h1⟩ := nn32 h.1
    obtain ⟨v, rfl, e2, h2⟩ := nn32 (y := w) (by omega)
    exact Or.inl ⟨a, v, by omega, by omega, rfl, rfl⟩
  · exact Or.inr h
theorem take_cases (y w : Int32) {n : Nat} (hn : n ≤ 24) : (∃ a v : Nat, a + v ≤ n ∧ y = nI a ∧ w = nI v) ∨ (¬ (¬ y.toInt64 < 0 ∧ ¬ w.toInt64 < 0 ∧ ¬ (nI n).toInt64 < 0 ∧ ¬ (nI n).toInt64 - w.toInt64 < y.toInt64) ∧ ¬ (¬ y.toInt64 < 0 ∧ ¬ w.toInt64 < 0 ∧ ¬ (nI n).toInt64 < 0 ∧ ¬ (nI n).toInt64 < y.toInt64 + w.toInt64)) := by
  by_cases h : (¬ y.toInt64 < 0 ∧ ¬ w.toInt64 < 0 ∧ ¬ (nI n).toInt64 < 0 ∧ ¬ (nI n).toInt64 < y.toInt64 + w.toInt64)
  · have b := bd32 y
    have c := bd32 w
    have e2 : (y.toInt64 + w.toInt64).toInt = y.toInt + w.toInt := by
      rw [Int64.toInt_add, Int32.toInt_toInt64, Int32.toInt_toInt64]; exact Int.bmod_eq_of_le (by omega) (by omega)
    have e4 : ((nI n).toInt64 < y.toInt64 + w.toInt64) ↔ (nI n).toInt < y.toInt + w.toInt := by rw [Int64.lt_iff_toInt_lt, e2, Int32.toInt_toInt64]
    rw [e4, z64, z64, tonI (by omega)] at h
    obtain ⟨a, rfl, e1, h1⟩ := nn32 h.1
    obtain ⟨v, rfl, e2, h2⟩ := nn32 h.2.1
    exact Or.inl ⟨a, v, by omega, rfl, rfl⟩
  · exact Or.inr ⟨fun q => h ((stretch_iff y w (nI n)).mp q), h⟩
theorem okS_cases (a : Int32) : okS a ∨ (¬ okS a ∧ ¬ a = -1 ∧ (a < 0 ∨ nI 10 ≤ a)) := by
  by_cases h : okS a
  · exact Or.inl h
  · rcases sn_cases a with q | ⟨i, hi, q⟩ | q
    · exact absurd (Or.inl q) h
    · exact absurd (Or.inr ⟨i, hi, q⟩) h
    · exact Or.inr ⟨h, q⟩
theorem samS_cases (z g : Nat → Int32) (i j : Nat) : samS z g i j = 0 ∨ ¬ samS z g i j = 0 := Classical.em _
theorem nz_i {x : Int32} {n : Nat} (h : x = nI n) (hn : n ≤ 24) : ¬ x = -1 := by
  rw [h]; intro q
  have := congrArg Int32.toInt q
  rw [tonI (by omega)] at this
  have e : (-1 : Int32).toInt = -1 := rfl
  omega
theorem span_in {u w n : Nat} (h1 : u ≤ w) (h2 : w ≤ n) (hn : n ≤ 24) : ¬ (nI u).toInt64 < 0 ∧ ¬ (nI w).toInt64 < (nI u).toInt64 ∧ ¬ (nI n).toInt64 < (nI w).toInt64 := by
  rw [z64, l64, l64, tonI (by omega), tonI (by omega), tonI (by omega)]; omega
theorem span_out {u w n o : Nat} (h1 : ¬ w ≤ o) (ho : o ≤ 24) (h2 : w ≤ n) (hn : n ≤ 24) : ¬ (¬ (nI u).toInt64 < 0 ∧ ¬ (nI w).toInt64 < (nI u).toInt64 ∧ ¬ (nI o).toInt64 < (nI w).toInt64) := by
  rw [l64 (nI o), tonI (by omega), tonI (by omega)]; omega
theorem okS_s {a : Int32} (h : okS a) (e : ¬ a = -1) : isSg a := h.resolve_left e
theorem wth_hs {g h : Nat → Int32} {i n : Nat} {a : Int32} (hs : ∀ k, k < n → h k = g (i * 24 + k) ∧ isSg (h k)) (ha : isSg a) : ∀ k, k < n + 1 → wth h n a k = upd g (i * 24 + n) a (i * 24 + k) ∧ isSg (wth h n a k) := by
  intro k hk
  by_cases e : k = n
  · subst e
    have e1 : wth h k a k = a := by simp [wth, pfx]
    rw [e1, pk_us]; exact ⟨rfl, ha⟩
  · have e1 : wth h n a k = h k := by
      have : k < n := by omega
      simp [wth, pfx, this, hk]
    rw [e1, pk_un (by omega)]; exact hs k (by omega)
theorem Rel.app {E : jE} {z g : Nat → Int32} {ro : Nat → Option Nat} {LL : List Nat} {ff : Nat → va_E} {i n q : Nat} {h : Nat → Int32} {a : Int32} (hi : i < 9) (hR : Rel E z g ro LL ff) (hs : ∀ k, k < n → h k = g (i * 24 + k) ∧ isSg (h k)) (hn : n + 1 ≤ 24) (ha : isSg a) (hq : q ∉ LL) : Rel E (upd z i (nI (n + 1))) (upd g (i * 24 + n) a) (va_up ro i (some q)) (LL ++ [q]) (va_up ff q (.inl (E.2.1, n + 1, .inl (wth h n a)))) :=
  Rel.new hR pk_us upd_ne (fun j k hj hj2 hk => pk_un (by omega)) (if_pos rfl) up_ne (ext_1 hq) pool_newm hq (if_pos rfl) hn (wth_hs hs ha)
