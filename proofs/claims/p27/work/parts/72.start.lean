/-! jG at the start; the walk from the entry -/
theorem codS_start {A : Nat → Prop} {args : Array Value} {s : State} (hts : ∀ w ∈ lw_tbl, w.before args s = true) (hs : ∀ c ∈ flatC (Jvm.Cond.and given_1 narrow_1), c.before args s = true) (hA : ∀ a : Nat, a < s.heap.size → ¬ A a) : ∃ t : Nat, va_Z "Checkdesk" "SIGN_CODES" "[I" (.ref t) A s s.heap ∧ va_T .int t 10 (fun j => .int (jCod j)) A s s.heap := by
  have hel : ∀ j : Nat, j < 10 → (Term.elem (.static "Checkdesk" "SIGN_CODES" "[I") (.int (Int32.ofNat j))).eval args s none [] s = some (.int (jCod j)) := by
    intro j hj
    match j, hj with
    | 0, _ => exact va_eqt (hs (Cond.eq (.elem (.static "Checkdesk" "SIGN_CODES" "[I") (.int 0)) (.int 32)) (List.mem_of_getElem? (i := 7) (by decide +kernel)))
    | 1, _ => exact va_eqt (hs (Cond.eq (.elem (.static "Checkdesk" "SIGN_CODES" "[I") (.int 1)) (.int 45)) (List.mem_of_getElem? (i := 8) (by decide +kernel)))
    | 2, _ => exact va_eqt (hs (Cond.eq (.elem (.static "Checkdesk" "SIGN_CODES" "[I") (.int 2)) (.int 48)) (List.mem_of_getElem? (i := 9) (by decide +kernel)))
    | 3, _ => exact va_eqt (hs (Cond.eq (.elem (.static "Checkdesk" "SIGN_CODES" "[I") (.int 3)) (.int 49)) (List.mem_of_getElem? (i := 10) (by decide +kernel)))
    | 4, _ => exact va_eqt (hs (Cond.eq (.elem (.static "Checkdesk" "SIGN_CODES" "[I") (.int 4)) (.int 65)) (List.mem_of_getElem? (i := 11) (by decide +kernel)))
    | 5, _ => exact va_eqt (hs (Cond.eq (.elem (.static "Checkdesk" "SIGN_CODES" "[I") (.int 5)) (.int 66)) (List.mem_of_getElem? (i := 12) (by decide +kernel)))
    | 6, _ => exact va_eqt (hs (Cond.eq (.elem (.static "Checkdesk" "SIGN_CODES" "[I") (.int 6)) (.int 97)) (List.mem_of_getElem? (i := 13) (by decide +kernel)))
    | 7, _ => exact va_eqt (hs (Cond.eq (.elem (.static "Checkdesk" "SIGN_CODES" "[I") (.int 7)) (.int 98)) (List.mem_of_getElem? (i := 14) (by decide +kernel)))
    | 8, _ => exact va_eqt (hs (Cond.eq (.elem (.static "Checkdesk" "SIGN_CODES" "[I") (.int 8)) (.int 122)) (List.mem_of_getElem? (i := 15) (by decide +kernel)))
    | 9, _ => exact va_eqt (hs (Cond.eq (.elem (.static "Checkdesk" "SIGN_CODES" "[I") (.int 9)) (.int 255)) (List.mem_of_getElem? (i := 16) (by decide +kernel)))
    | (j + 10), hj => exact absurd hj (by omega)
  obtain ⟨t, e, T⟩ := va_Tof (tm := .static "Checkdesk" "SIGN_CODES" "[I") (ty := .int) (N := 10) (f := fun j => .int (jCod j)) (A := A) (by decide) (hs (Cond.arrayOf (.static "Checkdesk" "SIGN_CODES" "[I") .int) (List.mem_of_getElem? (i := 5) (by decide +kernel))) (va_eqt (hs (Cond.eq (.length (.static "Checkdesk" "SIGN_CODES" "[I")) (.int 10)) (List.mem_of_getElem? (i := 6) (by decide +kernel)))) hel hA
  exact ⟨t, va_Zof (hts _ (List.mem_of_getElem? (i := 213) (by decide +kernel))) (hts _ (List.mem_of_getElem? (i := 25) (by decide +kernel))) e hA, T⟩
theorem codM_start {A : Nat → Prop} {args : Array Value} {s : State} (hts : ∀ w ∈ lw_tbl, w.before args s = true) (hs : ∀ c ∈ flatC (Jvm.Cond.and given_1 narrow_1), c.before args s = true) (hA : ∀ a : Nat, a < s.heap.size → ¬ A a) : ∃ t : Nat, va_Z "CheckdeskModel" "CODES" "[I" (.ref t) A s s.heap ∧ va_T .int t 10 (fun j => .int (jCod j)) A s s.heap := by
  have hel : ∀ j : Nat, j < 10 → (Term.elem (.static "CheckdeskModel" "CODES" "[I") (.int (Int32.ofNat j))).eval args s none [] s = some (.int (jCod j)) := by
    intro j hj
    match j, hj with
    | 0, _ => exact va_eqt (hs (Cond.eq (.elem (.static "CheckdeskModel" "CODES" "[I") (.int 0)) (.int 32)) (List.mem_of_getElem? (i := 233) (by decide +kernel)))
    | 1, _ => exact va_eqt (hs (Cond.eq (.elem (.static "CheckdeskModel" "CODES" "[I") (.int 1)) (.int 45)) (List.mem_of_getElem? (i := 234) (by decide +kernel)))
    | 2, _ => exact va_eqt (hs (Cond.eq (.elem (.static "CheckdeskModel" "CODES" "[I") (.int 2)) (.int 48)) (List.mem_of_getElem? (i := 235) (by decide +kernel)))
    | 3, _ => exact va_eqt (hs (Cond.eq (.elem (.static "CheckdeskModel" "CODES" "[I") (.int 3)) (.int 49)) (List.mem_of_getElem? (i := 236) (by decide +kernel)))
    | 4, _ => exact va_eqt (hs (Cond.eq (.elem (.static "CheckdeskModel" "CODES" "[I") (.int 4)) (.int 65)) (List.mem_of_getElem? (i := 237) (by decide +kernel)))
    | 5, _ => exact va_eqt (hs (Cond.eq (.elem (.static "CheckdeskModel" "CODES" "[I") (.int 5)) (.int 66)) (List.mem_of_getElem? (i := 238) (by decide +kernel)))
    | 6, _ => exact va_eqt (hs (Cond.eq (.elem (.static "CheckdeskModel" "CODES" "[I") (.int 6)) (.int 97)) (List.mem_of_getElem? (i := 239) (by decide +kernel)))
    | 7, _ => exact va_eqt (hs (Cond.eq (.elem (.static "CheckdeskModel" "CODES" "[I") (.int 7)) (.int 98)) (List.mem_of_getElem? (i := 240) (by decide +kernel)))
    | 8, _ => exact va_eqt (hs (Cond.eq (.elem (.static "CheckdeskModel" "CODES" "[I") (.int 8)) (.int 122)) (List.mem_of_getElem? (i := 241) (by decide +kernel)))
    | 9, _ => exact va_eqt (hs (Cond.eq (.elem (.static "CheckdeskModel" "CODES" "[I") (.int 9)) (.int 255)) (List.mem_of_getElem? (i := 242) (by decide +kernel)))
    | (j + 10), hj => exact absurd hj (by omega)
  obtain ⟨t, e, T⟩ := va_Tof (tm := .static "CheckdeskModel" "CODES" "[I") (ty := .int) (N := 10) (f := fun j => .int (jCod j)) (A := A) (by decide) (hs (Cond.arrayOf (.static "CheckdeskModel" "CODES" "[I") .int) (List.mem_of_getElem? (i := 231) (by decide +kernel))) (va_eqt (hs (Cond.eq (.length (.static "CheckdeskModel" "CODES" "[I")) (.int 10)) (List.mem_of_getElem? (i := 232) (by decide +kernel)))) hel hA
  exact ⟨t, va_Zof (hts _ (List.mem_of_getElem? (i := 952) (by decide +kernel))) (hts _ (List.mem_of_getElem? (i := 27) (by decide +kernel))) e hA, T⟩
theorem R_start {args : Array Value} {s : State} {own tx : String} {k : Nat} (hr : (Cond.stringRef own k tx).before args s = true) (hex : (Cond.exactly (.string own k) "java/lang/String").before args s = true) : ∃ a : Nat, vk_R own k tx a s := by
  obtain ⟨a, c, cA, kA, q1, -⟩ := Cond.exactly_spec (args := args) (first := s) (o := none) (s := s) (idx := []) (t := .string own k) (cls := "java/lang/String") hex
  exact ⟨a, vk_R.of hr q1⟩
theorem str_start {args : Array Value} {s : State} (hts : ∀ w ∈ lw_tbl, w.before args s = true) (hs : ∀ c ∈ flatC (Jvm.Cond.and given_1 narrow_1), c.before args s = true) : ∀ q ∈ jStr, ∃ a : Nat, vk_R q.1 q.2.1 q.2.2 a s := by
  intro q hq
  simp only [jStr, List.mem_cons, List.not_mem_nil, or_false] at hq
  rcases hq with rfl | rfl | rfl | rfl | rfl | rfl | rfl | rfl | rfl | rfl
  · exact R_start (hts _ (List.mem_of_getElem? (i := 784) (by decide +kernel))) (hs (Cond.exactly (.string "Checkdesk" 165) "java/lang/String") (List.mem_of_getElem? (i := 455) (by decide +kernel)))
  · exact R_start (hts _ (List.mem_of_getElem? (i := 316) (by decide +kernel))) (hs (Cond.exactly (.string "Checkdesk" 178) "java/lang/String") (List.mem_of_getElem? (i := 267) (by decide +kernel)))
  · exact R_start (hts _ (List.mem_of_getElem? (i := 819) (by decide +kernel))) (hs (Cond.exactly (.string "Checkdesk" 183) "java/lang/String") (List.mem_of_getElem? (i := 467) (by decide +kernel)))
  · exact R_start (hts _ (List.mem_of_getElem? (i := 358) (by decide +kernel))) (hs (Cond.exactly (.string "Checkdesk" 187) "java/lang/String") (List.mem_of_getElem? (i := 283) (by decide +kernel)))
  · exact R_start (hts _ (List.mem_of_getElem? (i := 409) (by decide +kernel))) (hs (Cond.exactly (.string "Checkdesk" 190) "java/lang/String") (List.mem_of_getElem? (i := 377) (by decide +kernel)))
  · exact R_start (hts _ (List.mem_of_getElem? (i := 379) (by decide +kernel))) (hs (Cond.exactly (.string "Checkdesk" 194) "java/lang/String") (List.mem_of_getElem? (i := 300) (by decide +kernel)))
  · exact R_start (hts _ (List.mem_of_getElem? (i := 390) (by decide +kernel))) (hs (Cond.exactly (.string "Checkdesk" 197) "java/lang/String") (List.mem_of_getElem? (i := 336) (by decide +kernel)))
  · exact R_start (hts _ (List.mem_of_getElem? (i := 490) (by decide +kernel))) (hs (Cond.exactly (.string "Checkdesk" 98) "java/lang/String") (List.mem_of_getElem? (i := 429) (by decide +kernel)))
  · exact R_start (hts _ (List.mem_of_getElem? (i := 1063) (by decide +kernel))) (hs (Cond.exactly (.string "CheckdeskModel" 113) "java/lang/String") (List.mem_of_getElem? (i := 517) (by decide +kernel)))
  · exact R_start (hts _ (List.mem_of_getElem? (i := 1088) (by decide +kernel))) (hs (Cond.exactly (.string "CheckdeskModel" 119) "java/lang/String") (List.mem_of_getElem? (i := 535) (by decide +kernel)))
theorem cast_start {args : Array Value} {s : State} (hts : ∀ w ∈ lw_tbl, w.before args s = true) : ∀ q ∈ jCast, va_Nw (.castable q.1 q.2) s := by
  intro q hq
  simp only [jCast, List.mem_cons, List.not_mem_nil, or_false] at hq
  rcases hq with rfl | rfl | rfl | rfl
  · exact va_Nw.of rfl (hts _ (List.mem_of_getElem? (i := 277) (by decide +kernel)))
  · exact va_Nw.of rfl (hts _ (List.mem_of_getElem? (i := 351) (by decide +kernel)))
  · exact va_Nw.of rfl (hts _ (List.mem_of_getElem? (i := 372) (by decide +kernel)))
  · exact va_Nw.of rfl (hts _ (List.mem_of_getElem? (i := 562) (by decide +kernel)))
theorem ncast_start {args : Array Value} {s : State} (hs : ∀ c ∈ flatC (Jvm.Cond.and given_1 narrow_1), c.before args s = true) : ∀ q ∈ jNcast, va_Nc q.1 q.2 s := by
  intro q hq
  simp only [jNcast, List.mem_cons, List.not_mem_nil, or_false] at hq
  rcases hq with rfl | rfl | rfl | rfl | rfl | rfl
  · exact va_Nc.of (hs (Cond.not (.castable "java/lang/IndexOutOfBoundsException" "java/lang/IllegalArgumentException")) (List.mem_of_getElem? (i := 255) (by decide +kernel)))
  · exact va_Nc.of (hs (Cond.not (.castable "java/lang/IndexOutOfBoundsException" "java/lang/IllegalStateException")) (List.mem_of_getElem? (i := 263) (by decide +kernel)))
  · exact va_Nc.of (hs (Cond.not (.castable "java/lang/IllegalArgumentException" "java/lang/IndexOutOfBoundsException")) (List.mem_of_getElem? (i := 247) (by decide +kernel)))
  · exact va_Nc.of (hs (Cond.not (.castable "java/lang/IllegalArgumentException" "java/lang/IllegalStateException")) (List.mem_of_getElem? (i := 264) (by decide +kernel)))
  · exact va_Nc.of (hs (Cond.not (.castable "java/lang/IllegalStateException" "java/lang/IndexOutOfBoundsException")) (List.mem_of_getElem? (i := 248) (by decide +kernel)))
  · exact va_Nc.of (hs (Cond.not (.castable "java/lang/IllegalStateException" "java/lang/IllegalArgumentException")) (List.mem_of_getElem? (i := 256) (by decide +kernel)))
theorem nf_start {args : Array Value} {s : State} (hts : ∀ w ∈ lw_tbl, w.before args s = true) : ∀ q ∈ jNestF, va_Nw (.fieldLinkNest q.1 q.2.1 q.2.2.1 q.2.2.2.1 q.2.2.2.2.1 q.2.2.2.2.2) s := by
  intro q hq
  simp only [jNestF, List.mem_cons, List.not_mem_nil, or_false] at hq
  rcases hq with rfl | rfl | rfl
  · exact va_Nw.of rfl (hts _ (List.mem_of_getElem? (i := 212) (by decide +kernel)))
  · exact va_Nw.of rfl (hts _ (List.mem_of_getElem? (i := 255) (by decide +kernel)))
  · exact va_Nw.of rfl (hts _ (List.mem_of_getElem? (i := 256) (by decide +kernel)))
theorem nm_start {args : Array Value} {s : State} (hts : ∀ w ∈ lw_tbl, w.before args s = true) : ∀ q ∈ jNestM, va_Nw (.methodLinkNest q.1 q.2.1 q.2.2.1 q.2.2.2) s := by
  intro q hq
  simp only [jNestM, List.mem_cons, List.not_mem_nil, or_false] at hq
  rcases hq with rfl | rfl
  · exact va_Nw.of rfl (hts _ (List.mem_of_getElem? (i := 58) (by decide +kernel)))
  · exact va_Nw.of rfl (hts _ (List.mem_of_getElem? (i := 251) (by decide +kernel)))
theorem decl_start {args : Array Value} {s : State} (hts : ∀ w ∈ lw_tbl, w.before args s = true) : ∀ q ∈ jDecl, va_Nw (.declares q) s := by
  intro q hq
  simp only [jDecl, List.mem_cons, List.not_mem_nil, or_false] at hq
  rcases hq with rfl | rfl | rfl
  · exact va_Nw.of rfl (hts _ (List.mem_of_getElem? (i := 279) (by decide +kernel)))
  · exact va_Nw.of rfl (hts _ (List.mem_of_getElem? (i := 281) (by decide +kernel)))
  · exact va_Nw.of rfl (hts _ (List.mem_of_getElem? (i := 283) (by decide +kernel)))
theorem mt_start {A : Nat → Prop} {args : Array Value} {s : State} (hts : ∀ w ∈ lw_tbl, w.before args s = true) (hs : ∀ c ∈ flatC (Jvm.Cond.and given_1 narrow_1), c.before args s = true) (hA : ∀ a : Nat, a < s.heap.size → ¬ A a) : ∃ a v : Nat, vk_R "CheckdeskModel" 33 "" a s ∧ va_O "java/lang/String" a A s s.heap ∧ va_OF "java/lang/String" "coder" "B" (.int 0) a A s s.heap ∧ va_OF "java/lang/String" "value" "[B" (.ref v) a A s s.heap ∧ va_T .byte v 0 (fun _ => .int 0) A s s.heap := by
  obtain ⟨a, ha⟩ := R_start (tx := "") (hts _ (List.mem_of_getElem? (i := 1062) (by decide +kernel))) (hs (Cond.exactly (.string "CheckdeskModel" 33) "java/lang/String") (List.mem_of_getElem? (i := 504) (by decide +kernel)))
  obtain ⟨v, ev, T⟩ := va_Tof (tm := .field (.string "CheckdeskModel" 33) "java/lang/String" "value" "[B") (ty := .byte) (N := 0) (f := fun _ => .int 0) (A := A) (by decide) (hs (Cond.arrayOf (.field (.string "CheckdeskModel" 33) "java/lang/String" "value" "[B") .byte) (List.mem_of_getElem? (i := 506) (by decide +kernel))) (va_eqt (hs (Cond.eq (.length (.field (.string "CheckdeskModel" 33) "java/lang/String" "value" "[B")) (.int 0)) (List.mem_of_getElem? (i := 507) (by decide +kernel)))) (fun j hj => absurd hj (by omega)) hA
  have ea : (Term.string "CheckdeskModel" 33).eval args s none [] s = some (.ref a) := ha.2
  exact ⟨a, v, ha, va_Oof (hs (Cond.exactly (.string "CheckdeskModel" 33) "java/lang/String") (List.mem_of_getElem? (i := 504) (by decide +kernel))) ea hA, vk_OFof ea (va_eqt (hs (Cond.eq (.field (.string "CheckdeskModel" 33) "java/lang/String" "coder" "B") (.int 0)) (List.mem_of_getElem? (i := 505) (by decide +kernel)))) hA, vk_OFof ea ev hA, T⟩
theorem G_start {args : Array Value} {s : State} (hts : ∀ w ∈ lw_tbl, w.before args s = true) (hs : ∀ c ∈ flatC (Jvm.Cond.and given_1 narrow_1), c.before args s = true) : ∃ E : jE, jG E (fun q => s.heap.size ≤ q) s := by
  have hA : ∀ a : Nat, a < s.heap.size → ¬ (fun q => s.heap.size ≤ q) a := fun a h q => absurd (show s.heap.size ≤ a from q) (by omega)
  obtain ⟨D, cI, cB, cA, hK, hAr⟩ := K_start hts
  obtain ⟨a, v, m1, m2, m3, m4, m5⟩ := mt_start (A := fun q => s.heap.size ≤ q) hts hs hA
  refine ⟨(D, cI, cB, cA, a, v), ⟨hK, hAr, (show (Cond.arrayOver (.array .int)).before args s = true from (hts _ (List.mem_of_getElem? (i := 920) (by decide +kernel))))⟩, vx_Zqof (hts _ (List.mem_of_getElem? (i := 302) (by decide +kernel))) (hts _ (List.mem_of_getElem? (i := 29) (by decide +kernel))) (hs (Cond.isRef (.static "java/lang/Throwable" "UNASSIGNED_STACK" "[Ljava/lang/StackTraceElement;")) (List.mem_of_getElem? (i := 17) (by decide +kernel))) hA, vx_Zqof (hts _ (List.mem_of_getElem? (i := 304) (by decide +kernel))) (hts _ (List.mem_of_getElem? (i := 29) (by decide +kernel))) (hs (Cond.isRef (.static "java/lang/Throwable" "SUPPRESSED_SENTINEL" "Ljava/util/List;")) (List.mem_of_getElem? (i := 18) (by decide +kernel))) hA, codS_start hts hs hA, codM_start hts hs hA, str_start hts hs, cast_start hts, ncast_start hs, nf_start hts, nm_start hts, va_Zof (hts _ (List.mem_of_getElem? (i := 509) (by decide +kernel))) (hts _ (List.mem_of_getElem? (i := 38) (by decide +kernel))) (va_eqi (hs (Cond.eq (.static "java/lang/String" "COMPACT_STRINGS" "Z") (.int 1)) (List.mem_of_getElem? (i := 19) (by decide +kernel)))) hA, ⟨m1, m2, m3, m4, m5⟩, decl_start hts⟩
