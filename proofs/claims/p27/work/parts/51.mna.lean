/-! the reference's rows, made -/
section JMN
variable {p : Program} {l : Launch} {e : Env} {R : Room} {s : State} {m : MethodId} {args : Array Value} {below : List Frame} {meth : Method} {c : Code} {y : MethodName} {cc : ByteArray} {nL : Nat} {ret : Option FieldType} {d mc ms : Nat} {E : jE} {A : Nat → Prop} {Q : State → Prop} {cells slots pc : Nat} {lv : List (Nat × Value)} {rest st : List Value} {ws : va_W}
theorem j_mna (C : jC p l e R s m args below meth c y cc nL ret d mc ms E A) {X : va_W} {L : List Nat} {f : Nat → va_E} {i : Nat} (hclink : Cond.classLink y.cls i "[[I" ∈ jTg) (hcells : cells + 10 ≤ mc) (hslots : slots + 9 ≤ ms) (hd : decode cc pc = .ok (.multianewarray i 2, 4))
    (kk : ∀ (q : Nat) (r : Nat → Nat), (∀ i j : Nat, i < 9 → j < 9 → r i = r j → i = j) → (∀ i : Nat, i < 9 → r i ∉ L) → jJ p l e R s m args below meth c E A nL Q (cells + 1 + 9) (slots + 9 + 9 * 0) (pc + 4) lv (.ref q :: rest) ((X ++ [(q, .inl (E.2.2.2.1, 9, .inr (.inr (.inr (.inr (fun i => if i < 9 then some (r i) else none))))))]) ++ va_pl (L ++ (List.range 9).map r) (vr_up f ((List.range 9).map r) (.inl (E.2.1, 0, .inl (fun _ => 0)))))) : jJ p l e R s m args below meth c E A nL Q cells slots pc lv (.int (nI 0) :: .int (nI 9) :: rest) (X ++ va_pl L f) := by
  intro _ _ _ hP hD hS hl
  have hR := C.2.2.2.2.2.2.2.2.2.2.1
  have hts := C.2.2.2.2.1
  have hK := C.2.2.2.2.2.2.2.2.1.1.1
  refine va_mna (ty := .int) (cy := E.2.1) (z := (0, .inl (fun _ => 0))) C.1 C.2.1 C.2.2.2.1 (hts _ hclink) C.2.2.2.2.2.2.2.2.1.1.2.2 (hts _ w_72) (hK.2 0 (E.2.1, .int) rfl).2 hK hP hD hS C.2.2.2.2.2.2.2.2.2.1 (N' := 9) (K' := 0) (nI_pos (by omega)) (nI_pos (by omega)) (nI_clamp (by omega)) (nI_clamp (by omega)) (by decide) (by decide) (by decide) rfl rfl (by rw [hR]; exact hcells) (by rw [hR]; exact hslots) (fun _ => rfl) hd (fun q r cA H1 h1 h2 hK' hP hD hS => ?_)
  have e1 := (hK'.2 3 (cA, .array .int) rfl).2
  have e0 := (hK.2 2 (E.2.2.2.1, .array .int) rfl).2
  have e : cA = E.2.2.2.1 := Option.some.inj (e1.symm.trans e0)
  subst e
  exact kk q r h1 h2 _ _ _ hP hD hS hl
end JMN
