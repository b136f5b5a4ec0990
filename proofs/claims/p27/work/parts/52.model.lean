/-! the reference, made -/
abbrev f0E (E : jE) : Nat → va_E := fun _ => .inl (E.2.1, 0, .inl (fun _ => 0))
abbrev ro0 (r : Nat → Nat) : Nat → Option Nat := fun i => if i < 9 then some (r i) else none
abbrev L0 (r : Nat → Nat) : List Nat := [] ++ (List.range 9).map r
abbrev ff0 (E : jE) (r : Nat → Nat) : Nat → va_E := vr_up (f0E E) ((List.range 9).map r) (.inl (E.2.1, 0, .inl (fun _ => 0)))
theorem ff0_at (E : jE) (r : Nat → Nat) (a : Nat) : ff0 E r a = .inl (E.2.1, 0, .inl (fun _ => 0)) := by
  unfold ff0 vr_up
  split <;> rfl
theorem rel_start (E : jE) {r : Nat → Nat} (h : ∀ i j : Nat, i < 9 → j < 9 → r i = r j → i = j) : Rel E (fun _ => 0) (fun _ => 0) (ro0 r) (L0 r) (ff0 E r) := by
  refine ⟨fun i hi => Or.inr ⟨r i, 0, fun _ => 0, by omega, rfl, if_pos hi, ?_, ff0_at E r _, fun k hk => absurd hk (by omega)⟩, fun i j a hi hj h1 h2 => ?_⟩
  · exact List.mem_append_right _ (List.mem_map.mpr ⟨i, List.mem_range.mpr hi, rfl⟩)
  · rw [show ro0 r i = some (r i) from if_pos hi] at h1
    rw [show ro0 r j = some (r j) from if_pos hj] at h2
    exact h i j hi hj (Option.some.inj (h1.trans h2.symm))
