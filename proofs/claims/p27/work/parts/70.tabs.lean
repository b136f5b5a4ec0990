/-! the tables at the start -/
theorem selP_at {args : Array Value} {s : State} {y' : MethodName} {Cn : String} {N : Nat} {x0 y0 : MethodName} (hts : ∀ w ∈ lw_tbl, w.before args s = true) (hy : y'.cls ≠ "java/lang/invoke/MethodHandle" ∧ y'.cls ≠ "java/lang/invoke/VarHandle") (hins : Cond.instantiable Cn N ∈ lw_tbl) (hpriv : Cond.privateMethod y' ∈ lw_tbl) (hinst : Cond.instanceMethod y' ∈ lw_tbl) (hs0 : Cond.selects Cn x0 y0 ∈ lw_tbl) (hc0 : y0.cls = y'.cls) : (Cond.selects Cn y' y').before args s = true := by
  obtain ⟨c0, k, hc, hk, -, hniab, -, -⟩ := Cond.instantiable_spec (hts _ hins)
  have hni : k.isInterface = false := (Bool.or_eq_false_iff.mp hniab).1
  obtain ⟨mk, methM, hnamed, hmethM, -, -⟩ := Cond.instanceMethod_spec (hts _ hinst)
  have hfound : s.methodFound? y'.cls y'.name y'.desc = some mk := State.methodFound?_of_named hnamed hy
  have hsel : selectMethod {} s.vm c0 mk = .method mk := selectMethod_private hmethM (Cond.privateMethod_at (hts _ hpriv) mk methM hnamed hmethM)
  simp only [Cond.before, Cond.holds, Cond.value, hc, hfound, hnamed, hsel, hk]
  obtain ⟨c2, r2, m2, q1, q2, q3, q4, kP, hkP, hkPi⟩ := Cond.selects_spec (hts _ hs0)
  have e1 : m2.cls = mk.cls := Option.some.inj ((findClass_of_methodNamed q3).symm.trans (by rw [hc0]; exact findClass_of_methodNamed hnamed))
  simp; rw [← e1, hkP]; simp [hkPi]
theorem jTg_at {args : Array Value} {s : State} (hts : ∀ w ∈ lw_tbl, w.before args s = true) : ∀ w ∈ jTg, w.before args s = true := by
  intro w hw
  rcases List.mem_append.mp hw with hw | hw
  · exact hts _ (List.mem_filter.mp hw).1
  · obtain ⟨q, hq, rfl⟩ := List.mem_map.mp hw
    rcases List.mem_cons.mp hq with rfl | hq
    · exact selP_at (N := 4) (x0 := ⟨"java/lang/AbstractStringBuilder", "isLatin1", "()Z"⟩) (y0 := ⟨"java/lang/AbstractStringBuilder", "isLatin1", "()Z"⟩) hts ⟨by decide, by decide⟩ (List.mem_of_getElem? (i := 500) (by decide +kernel)) (List.mem_of_getElem? (i := 538) (by decide +kernel)) (List.mem_of_getElem? (i := 539) (by decide +kernel)) (List.mem_of_getElem? (i := 571) (by decide +kernel)) rfl
    rcases List.mem_cons.mp hq with rfl | hq
    · exact selP_at (N := 4) (x0 := ⟨"java/lang/AbstractStringBuilder", "isLatin1", "()Z"⟩) (y0 := ⟨"java/lang/AbstractStringBuilder", "isLatin1", "()Z"⟩) hts ⟨by decide, by decide⟩ (List.mem_of_getElem? (i := 500) (by decide +kernel)) (List.mem_of_getElem? (i := 542) (by decide +kernel)) (List.mem_of_getElem? (i := 543) (by decide +kernel)) (List.mem_of_getElem? (i := 571) (by decide +kernel)) rfl
    rcases List.mem_cons.mp hq with rfl | hq
    · exact selP_at (N := 4) (x0 := ⟨"java/lang/AbstractStringBuilder", "isLatin1", "()Z"⟩) (y0 := ⟨"java/lang/AbstractStringBuilder", "isLatin1", "()Z"⟩) hts ⟨by decide, by decide⟩ (List.mem_of_getElem? (i := 500) (by decide +kernel)) (List.mem_of_getElem? (i := 723) (by decide +kernel)) (List.mem_of_getElem? (i := 724) (by decide +kernel)) (List.mem_of_getElem? (i := 571) (by decide +kernel)) rfl
    rcases List.mem_cons.mp hq with rfl | hq
    · exact selP_at (N := 4) (x0 := ⟨"java/lang/AbstractStringBuilder", "isLatin1", "()Z"⟩) (y0 := ⟨"java/lang/AbstractStringBuilder", "isLatin1", "()Z"⟩) hts ⟨by decide, by decide⟩ (List.mem_of_getElem? (i := 500) (by decide +kernel)) (List.mem_of_getElem? (i := 719) (by decide +kernel)) (List.mem_of_getElem? (i := 720) (by decide +kernel)) (List.mem_of_getElem? (i := 571) (by decide +kernel)) rfl
    exact absurd hq List.not_mem_nil
