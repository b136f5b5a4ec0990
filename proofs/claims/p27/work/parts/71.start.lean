/-! what holds at the start -/
theorem arrOfT_at {s : State} {c : ClassId} {k : Class} {comp : ClassId} {ty : FieldType} (h1 : s.vm.classes[c]? = some k) (h2 : k.kind = .array comp ty) : ArrOfT s c ty := by
  intro n z
  exact ⟨(fun _ h => by cases h), k, h1, comp, h2⟩
theorem K_arr {args : Array Value} {s : State} {ty : FieldType} (hp : ∀ C, ty ≠ .object C) (h : (Cond.arrayClass ty).before args s = true) : ∃ c : ClassId, (ArrOfT s c ty ∧ va_RA s c ty) ∧ ∃ k, s.vm.classes[c]? = some k := by
  obtain ⟨c, k, comp, h1, h2, h3⟩ := Cond.arrayClass_spec h
  refine ⟨c, ⟨arrOfT_at h2 h3, ?_⟩, k, h2⟩
  cases ty with
  | object C => exact absurd rfl (hp C)
  | _ => exact h1
theorem K_start {args : Array Value} {s : State} (hts : ∀ w ∈ lw_tbl, w.before args s = true) : ∃ (D : va_G) (cI cB cA : ClassId), va_K D vwCl [(cI, .int), (cB, .byte), (cA, .array .int)] s ∧ (∃ (kA kI : Class), s.vm.classes[cA]? = some kA ∧ kA.kind = .array cI (.array .int) ∧ s.vm.classes[cI]? = some kI) := by
  obtain ⟨c0, i0, h0⟩ := u_known (C := RJ0) (T := TJ0) (N := 4) (n := 4) hts (by decide +kernel) (hts _ (List.mem_of_getElem? (i := 626) (by decide +kernel)))
  obtain ⟨c1, i1, h1⟩ := u_known (C := RJ4) (T := TJ4) (N := 4) (n := 4) hts (by decide +kernel) (hts _ (List.mem_of_getElem? (i := 500) (by decide +kernel)))
  obtain ⟨c2, i2, h2⟩ := u_known (C := RX2) (T := TX2) (N := 3) (n := 3) hts (by decide +kernel) (hts _ (List.mem_of_getElem? (i := 57) (by decide +kernel)))
  obtain ⟨c3, i3, h3⟩ := u_known (C := RX3) (T := TX3) (N := 5) (n := 5) hts (by decide +kernel) (hts _ (List.mem_of_getElem? (i := 49) (by decide +kernel)))
  obtain ⟨c4, i4, h4⟩ := u_known (C := RX4) (T := TX4) (N := 2) (n := 2) hts (by decide +kernel) (hts _ (List.mem_of_getElem? (i := 250) (by decide +kernel)))
  obtain ⟨c5, i5, h5⟩ := u_known (C := RX5) (T := TX5) (N := 6) (n := 6) hts (by decide +kernel) (hts _ (List.mem_of_getElem? (i := 914) (by decide +kernel)))
  obtain ⟨cI, hI, kI, hkI⟩ := K_arr (ty := .int) (fun _ h => by cases h) (hts _ (List.mem_of_getElem? (i := 72) (by decide +kernel)))
  obtain ⟨cB, hB, -⟩ := K_arr (ty := .byte) (fun _ h => by cases h) (hts _ (List.mem_of_getElem? (i := 342) (by decide +kernel)))
  obtain ⟨comp, cA, kA, g1, g2, g3, g4, g5⟩ := arrayOverA_spec (t := .int) (hts _ (List.mem_of_getElem? (i := 920) (by decide +kernel)))
  have ec : comp = cI := Option.some.inj (g1.symm.trans hI.2)
  subst ec
  refine ⟨(fun c => [c0, c1, c2, c3, c4, c5].getD c c0, fun c => [i0, i1, i2, i3, i4, i5].getD c i0), comp, cB, cA, ⟨fun c q hq => ?_, fun k q hk => ?_⟩, kA, kI, g3, g4, hkI⟩
  · match c, hq with
    | 0, hq => cases hq; exact h0
    | 1, hq => cases hq; exact h1
    | 2, hq => cases hq; exact h2
    | 3, hq => cases hq; exact h3
    | 4, hq => cases hq; exact h4
    | 5, hq => cases hq; exact h5
    | (c + 6), hq => cases hq
  · match k, hk with
    | 0, hk => cases hk; exact hI
    | 1, hk => cases hk; exact hB
    | 2, hk => cases hk; exact ⟨arrOfT_at g3 g4, g5⟩
    | (k + 3), hk => cases hk
