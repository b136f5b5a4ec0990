/-! the desk that class and reference share, kept by each step -/
section RELS
variable {E : jE} {z z' g g' : Nat → Int32} {ro ro' : Nat → Option Nat} {LL L' : List Nat} {ff f' : Nat → va_E}
theorem Rel.ext (hR : Rel E z g ro LL ff) (hL : ∀ a, a ∈ LL → a ∈ L' ∧ f' a = ff a) : Rel E z g ro L' f' := by
  refine ⟨fun i hi => ?_, hR.2⟩
  rcases hR.1 i hi with h | ⟨a, n, h, h1, h2, h3, h4, h5, h6⟩
  · exact Or.inl h
  · exact Or.inr ⟨a, n, h, h1, h2, h3, (hL a h4).1, (hL a h4).2.trans h5, h6⟩
theorem Rel.leave {i : Nat} (hi : i < 9) (hR : Rel E z g ro LL ff) : Rel E (upd z i (-1)) g (va_up ro i none) LL ff := by
  refine ⟨fun j hj => ?_, fun j k a hj hk h1 h2 => ?_⟩
  · by_cases e : j = i
    · exact Or.inl ⟨by rw [e]; exact pk_us, by rw [e]; exact if_pos rfl⟩
    · rcases hR.1 j hj with ⟨h1, h2⟩ | ⟨a, n, h, h1, h2, h3, h4, h5, h6⟩
      · exact Or.inl ⟨(pk_un e).trans h1, (if_neg e).trans h2⟩
      · exact Or.inr ⟨a, n, h, h1, (pk_un e).trans h2, (if_neg e).trans h3, h4, h5, h6⟩
  · by_cases e : j = i
    · rw [e] at h1; rw [show va_up ro i none i = none from if_pos rfl] at h1; cases h1
    · by_cases e2 : k = i
      · rw [e2] at h2; rw [show va_up ro i none i = none from if_pos rfl] at h2; cases h2
      · exact hR.2 j k a hj hk ((if_neg e).symm.trans h1) ((if_neg e2).symm.trans h2)
theorem Rel.new {i n q : Nat} {h : Nat → Int32} (hR : Rel E z g ro LL ff) (hz1 : z' i = nI n) (hz2 : ∀ j, j ≠ i → z' j = z j) (hg : ∀ j k, j ≠ i → j < 9 → k < 24 → g' (j * 24 + k) = g (j * 24 + k)) (hr1 : ro' i = some q) (hr2 : ∀ j, j ≠ i → ro' j = ro j) (hL : ∀ a, a ∈ LL → a ∈ L' ∧ f' a = ff a) (hq : q ∈ L') (hq2 : q ∉ LL) (hf : f' q = .inl (E.2.1, n, .inl h)) (hn : n ≤ 24) (hs : ∀ k, k < n → h k = g' (i * 24 + k) ∧ isSg (h k)) : Rel E z' g' ro' L' f' := by
  have old : ∀ j a, j < 9 → ro j = some a → a ∈ LL := fun j a hj hr => by
    rcases hR.1 j hj with ⟨h1, h2⟩ | ⟨a2, n2, hh, h1, h2, h3, h4, h5, h6⟩
    · rw [h2] at hr; cases hr
    · rw [h3] at hr; cases hr; exact h4
  refine ⟨fun j hj => ?_, fun j k a hj hk h1 h2 => ?_⟩
  · by_cases e : j = i
    · subst e
      exact Or.inr ⟨q, n, h, hn, hz1, hr1, hq, hf, hs⟩
    · rcases hR.1 j hj with ⟨h1, h2⟩ | ⟨a, n2, hh, h1, h2, h3, h4, h5, h6⟩
      · exact Or.inl ⟨(hz2 j e).trans h1, (hr2 j e).trans h2⟩
      · refine Or.inr ⟨a, n2, hh, h1, (hz2 j e).trans h2, (hr2 j e).trans h3, (hL a h4).1, (hL a h4).2.trans h5, fun k hk => ?_⟩
        rw [hg j k e hj (by omega)]
        exact h6 k hk
  · by_cases e : j = i
    · by_cases e2 : k = i
      · rw [e, e2]
      · rw [e, hr1] at h1
        cases h1
        exact absurd (old k q hk ((hr2 k e2).symm.trans h2)) hq2
    · by_cases e2 : k = i
      · rw [e2, hr1] at h2
        cases h2
        exact absurd (old j q hj ((hr2 j e).symm.trans h1)) hq2
      · exact hR.2 j k a hj hk ((hr2 j e).symm.trans h1) ((hr2 k e2).symm.trans h2)
theorem Rel.put {i n y w a : Nat} {h : Nat → Int32} (hi : i < 9) (hR : Rel E z g ro LL ff) (hz : z i = nI n) (hr : ro i = some a) (hf : ff a = .inl (E.2.1, n, .inl h)) (hn : n ≤ 24) (hy : y < n) (hw : w < 10) (hs : ∀ k, k < n → h k = g (i * 24 + k) ∧ isSg (h k)) : Rel E z (upd g (i * 24 + y) (nI w)) ro LL (va_up ff a (.inl (E.2.1, n, .inl (upd h y (nI w))))) := by
  refine ⟨fun j hj => ?_, hR.2⟩
  rcases hR.1 j hj with h1 | ⟨a2, n2, hh, h1, h2, h3, h4, h5, h6⟩
  · exact Or.inl h1
  · by_cases e : j = i
    · subst e
      rw [hr] at h3
      cases h3
      rw [hf] at h5
      have e1 : n = n2 := by cases h5; rfl
      have e2 : h = hh := by cases h5; rfl
      subst e1; subst e2
      refine Or.inr ⟨a, n, _, hn, hz, hr, h4, if_pos rfl, fun k hk => ?_⟩
      by_cases e3 : k = y
      · subst e3
        rw [pk_us, pk_us]
        exact ⟨rfl, w, hw, rfl⟩
      · rw [pk_un e3, pk_un (by omega)]
        exact hs k hk
    · have e4 : a2 ≠ a := fun q => e (hR.2 j i a hj hi (q ▸ h3) hr)
      refine Or.inr ⟨a2, n2, hh, h1, h2, h3, h4, (if_neg e4).trans h5, fun k hk => ?_⟩
      rw [pk_un (by omega)]
      exact h6 k hk
theorem ext_1 {q : Nat} {x : va_E} (hq : q ∉ LL) : ∀ a, a ∈ LL → a ∈ LL ++ [q] ∧ va_up ff q x a = ff a := fun _ ha => ⟨pool_old ha, if_neg (pool_ne ha hq)⟩
theorem ext_2 {q : Nat} {x : va_E} (h : ∀ a, a ∈ LL → a ∈ L' ∧ f' a = ff a) (hq : q ∉ L') : ∀ a, a ∈ LL → a ∈ L' ++ [q] ∧ va_up f' q x a = ff a := fun a ha => ⟨pool_old (h a ha).1, (if_neg (pool_ne (h a ha).1 hq)).trans (h a ha).2⟩
theorem ext_n {q : Nat} (h : ∀ a, a ∈ LL → a ∈ L' ∧ f' a = ff a) (hq : q ∉ L') : q ∉ LL := fun z => hq (h q z).1
theorem upd_ne {f : Nat → Int32} {i : Nat} {x : Int32} : ∀ j, j ≠ i → upd f i x j = f j := fun _ h => pk_un h
theorem up_ne {f : Nat → Option Nat} {i : Nat} {x : Option Nat} : ∀ j, j ≠ i → va_up f i x j = f j := fun _ h => if_neg h
theorem upd_ne2 {f : Nat → Int32} {i : Nat} {x : Int32} {f0 : Nat → Int32} (h : ∀ j, j ≠ i → f j = f0 j) : ∀ j, j ≠ i → upd f i x j = f0 j := fun j q => (pk_un q).trans (h j q)
theorem up_ne2 {f f0 : Nat → Option Nat} {i : Nat} {x : Option Nat} (h : ∀ j, j ≠ i → f j = f0 j) : ∀ j, j ≠ i → va_up f i x j = f0 j := fun j q => (if_neg q).trans (h j q)
/-- cut, take -/
theorem Rel.keep {i n a v q : Nat} {h b : Nat → Int32} (hi : i < 9) (hR : Rel E z g ro LL ff) (hn : n ≤ 24) (hs : ∀ k, k < n → h k = g (i * 24 + k) ∧ isSg (h k)) (hav : a ≤ v) (hvn : v ≤ n) (hq : q ∉ LL) : Rel E (upd z i (nI (v - a))) (jput g (jput b (fun q => g (i * 24 + (a + q))) 0 (v - a)) (i * 24) (v - a)) (va_up ro i (some q)) (LL ++ [q]) (va_up ff q (.inl (E.2.1, v - a, .inl (pfx (fun q => h (a + q)) (v - a))))) := by
  refine Rel.new hR pk_us upd_ne (fun j k hj hj2 hk => jput_out (by omega)) (if_pos rfl) up_ne (ext_1 hq) pool_newm hq (if_pos rfl) (by omega) (fun k hk => ?_)
  rw [jput_in (by omega) (by omega), show i * 24 + k - i * 24 = k by omega, jput_in (by omega) (by omega)]
  show (if k < v - a then h (a + k) else 0) = g (i * 24 + (a + (k - 0))) ∧ isSg (if k < v - a then h (a + k) else 0)
  rw [if_pos hk, Nat.sub_zero]
  exact hs (a + k) (by omega)
theorem Rel.fill {i w y q : Nat} (hi : i < 9) (hR : Rel E z g ro LL ff) (hy : y < 10) (hw : w ≤ 24) (hq : q ∉ LL) : Rel E (upd z i (nI w)) (jput g (fun _ => nI y) (i * 24) w) (va_up ro i (some q)) (LL ++ [q]) (va_up ff q (.inl (E.2.1, w, .inl (pfx (fun _ => nI y) w)))) := by
  refine Rel.new hR pk_us upd_ne (fun j k hj hj2 hk => jput_out (by omega)) (if_pos rfl) up_ne (ext_1 hq) pool_newm hq (if_pos rfl) hw (fun k hk => ?_)
  rw [jput_in (by omega) (by omega)]
  show (if k < w then nI y else 0) = nI y ∧ isSg (if k < w then nI y else 0)
  rw [if_pos hk]
  exact ⟨rfl, y, hy, rfl⟩
theorem Rel.copy {i j n q : Nat} {h : Nat → Int32} (hi : i < 9) (hj : j < 9) (hR : Rel E z g ro LL ff) (hz : z j = nI n) (hn : n ≤ 24) (hs : ∀ k, k < n → h k = g (j * 24 + k) ∧ isSg (h k)) (hq : q ∉ LL) : Rel E (upd z i (z j)) (jput g (fun q => g (j * 24 + q)) (i * 24) n) (va_up ro i (some q)) (LL ++ [q]) (va_up ff q (.inl (E.2.1, n - 0, .inl (pfx (fun q => h (0 + q)) (n - 0))))) := by
  refine Rel.new hR (pk_us.trans hz) upd_ne (fun j k hj hj2 hk => jput_out (by omega)) (if_pos rfl) up_ne (ext_1 hq) pool_newm hq (if_pos rfl) (by omega) (fun k hk => ?_)
  rw [jput_in (by omega) (by omega), show i * 24 + k - i * 24 = k by omega]
  show (if k < n - 0 then h (0 + k) else 0) = g (j * 24 + k) ∧ isSg (if k < n - 0 then h (0 + k) else 0)
  rw [if_pos (show k < n - 0 from hk), Nat.zero_add]
  exact hs k (by omega)
end RELS
