/-! calls, returns, throws over jJ -/
theorem jMet.met {l : Launch} {y : MethodName} {b : ByteArray} {nL : Nat} {ret : Option FieldType} {d mc ms : Nat} {E : jE} {A : Nat → Prop} {av : List Value} {ws : va_W} {post : Option Value → va_W → Prop} (h : jMet l y b nL ret d mc ms E A av ws post jNo) : Met l y (.code y b nL ret :: jTg) (jRm d mc ms) (jPre E A av ws) (jQ E A post) mc ms A := by
  intro p e h1 h2 h3 s m args below h4 h5 h6 h7
  obtain ⟨n, o, a1, a2, a3, a4⟩ := h p e h1 h2 h3 s m args below h4 h5 h6 h7
  refine ⟨n, o, a1, a2, a3, ?_⟩
  rcases a4 with a4 | ⟨q, -, En, ce, L, hx, -⟩
  · exact a4
  · exact absurd hx.1.choose_spec.1 id
/-- what the tables say of a method that is called -/
def jVok (y : MethodName) (b : ByteArray) (nL : Nat) (ret : Option FieldType) (n : Nat) : Prop :=
  Cond.code y b nL ret ∈ jTg ∧ Cond.initialized y.cls ∈ jTg ∧ (y.cls ≠ "java/lang/invoke/MethodHandle" ∧ y.cls ≠ "java/lang/invoke/VarHandle") ∧ (parseMethodDescriptor y.desc).map (fun d => d.parameters.length) = some n ∧ nL ≤ 20
def jVokV (y : MethodName) (b : ByteArray) (nL : Nat) (ret : Option FieldType) (n : Nat) : Prop := jVok y b nL ret n ∧ Cond.instanceMethod y ∈ jTg ∧ Cond.selects y.cls y y ∈ jTg
def jVokS (y : MethodName) (b : ByteArray) (nL : Nat) (ret : Option FieldType) (n : Nat) : Prop := jVok y b nL ret n ∧ Cond.static y ∈ jTg
def jVokI (y : MethodName) (b : ByteArray) (nL : Nat) (n : Nat) : Prop := jVok y b nL none n ∧ y.name = "<init>" ∧ Cond.instanceMethod y ∈ jTg
section JCL
variable {p : Program} {l : Launch} {e : Env} {R : Room} {s : State} {m : MethodId} {args : Array Value} {below : List Frame} {meth : Method} {c : Code} {y : MethodName} {cc : ByteArray} {nL : Nat} {ret : Option FieldType} {d mc ms : Nat} {E : jE} {A : Nat → Prop} {Q : State → Prop} {cells slots pc : Nat} {lv : List (Nat × Value)} {rest st : List Value} {ws : va_W}
variable {y' : MethodName} {b' : ByteArray} {nL' : Nat} {ret' : Option FieldType} {d' mc' ms' n i : Nat} {post : Option Value → va_W → Prop} {px : String → va_W → Prop} {As : List Value}
theorem j_pay (hts : ∀ w ∈ jTg, w.before args s = true) (hc : Cond.code y' b' nL' ret' ∈ jTg) : ∀ w ∈ (Cond.code y' b' nL' ret' :: jTg), ∀ (a' : Array Value) (U : State), s.WarmedH U.vm → w.before a' U = true := fun w hw => (List.mem_cons.mp hw).elim (fun e => by rw [e]; exact jTg_pay hts _ hc) (fun h => jTg_pay hts _ h)
theorem j_CB (C : jC p l e R s m args below meth c y cc nL ret d mc ms E A) (ok : jVok y' b' nL' ret' n) (hl : Cond.methodLink y.cls i y' ∈ jTg) (hd : d' < d) : CallB R s args y.cls i y' b' nL' ret' (Cond.code y' b' nL' ret' :: jTg) (jRm d' mc' ms') mc' ms' n := by
  obtain ⟨h1, h2, h3, h4, h5⟩ := ok
  have hts := C.2.2.2.2.1
  have hR := C.2.2.2.2.2.2.2.2.2.2.1
  subst hR
  refine ⟨rfl, rfl, ?_, ?_, j_pay hts h1, List.mem_cons_self, hts _ h1, hts _ h2, h3, fun sig h => ?_, hts _ hl⟩
  · show d' + 6 + 1 ≤ d + 6
    omega
  · show 8 + (nL' + 11) + (40 * d' + 100) ≤ 40 * d + 100
    omega
  · rw [h] at h4
    exact (Option.some.inj h4).symm
theorem j_pre (C : jC p l e R s m args below meth c y cc nL ret d mc ms E A) {H : Heap} {locs : List Loc} (hP : va_P E.1 vwCl ws H) (hD : va_D A ws) (hS : va_S A s.heap H locs) : ∀ U : State, U.heap = H → s.WarmedH U.vm → jPre E A As ws As.toArray U :=
  fun U hU hW => ⟨rfl, by rw [hU]; exact hP, hD, jG.go hW (fun a h1 h2 => by rw [hU]; exact hS.2.1 a h1 h2) C.2.2.2.2.2.2.2.2.1, fun q h => C.2.2.2.2.2.2.2.2.2.1 q (Nat.le_trans hS.1 (by rw [hU] at h; exact h))⟩
theorem j_run {H : Heap} {locs : List Loc} {ls : Array Slot} {st0 : List Value} {av : Array Value} (hr : vx_Run p l e R s m args below meth c H locs cells slots mc' ms' (F0 m pc ls st0) rest (jQ E A post av) (jX E A px) A) (hS : va_S A s.heap H locs) (hl : lv_has ls nL lv)
    (kx : ∀ En w, px En w → jXJ p l e R s m args below meth c E A nL Q (cells + mc') (slots + ms') pc lv rest En w) (kk : ∀ v w, post v w → jJ p l e R s m args below meth c E A nL Q (cells + mc') (slots + ms') (pc + 3) lv (v.toList ++ rest) w) : W p l e R s m args below meth c H locs cells slots Q (F0 m pc ls st0) := by
  intro T hT X
  rcases hr T hT X with ⟨v, st₀, t, T', L, h0, X', hL, e1, e2, ⟨⟨v', w, hv, hp, hP, hD⟩, hF⟩, st⟩ | ⟨q, st₀, t, T', L, En, ce, h0, X', hL, e1, e2, ⟨⟨w, hp, hP, hD⟩, hF⟩, hce, hcv, hcl, st⟩
  · cases hv
    obtain ⟨k1, k2, k3⟩ := vx_keep h0 e1 hS (fun _ _ h => h) (fun _ h => h) hL hF
    obtain ⟨t2, a1, b1⟩ := kk v w hp T'.heap (locs ++ L) ls (by rw [e1]; exact hP) hD k3 hl T' rfl X'
    exact ⟨t2, st t2 a1, b1⟩
  · obtain ⟨k1, k2, k3⟩ := vx_keep h0 e1 hS (fun _ _ h => h) (fun _ h => h) hL hF
    obtain ⟨t2, a1, b1⟩ := kx En w hp T'.heap (locs ++ L) ls ce q (by rw [e1]; exact hP) hD k3 hl (by rw [e1]; exact hce) hcv hcl T' rfl X'
    exact ⟨t2, st.trans a1, b1⟩
theorem j_runR {H : Heap} {locs : List Loc} {ls : Array Slot} {st0 : List Value} {av : Array Value} (hr : va_Run p l e R s m args below meth c H locs cells slots mc' ms' (F0 m pc ls st0) rest (jQ E A post av) A) (hS : va_S A s.heap H locs) (hl : lv_has ls nL lv)
    (kk : ∀ v w, post v w → jJ p l e R s m args below meth c E A nL Q (cells + mc') (slots + ms') (pc + 3) lv (v.toList ++ rest) w) : W p l e R s m args below meth c H locs cells slots Q (F0 m pc ls st0) := by
  intro T hT X
  obtain ⟨v, st₀, t, T', L, h0, X', hL, e1, e2, ⟨⟨v', w, hv, hp, hP, hD⟩, hF⟩, st⟩ := hr T hT X
  cases hv
  obtain ⟨k1, k2, k3⟩ := vx_keep h0 e1 hS (fun _ _ h => h) (fun _ h => h) hL hF
  obtain ⟨t2, a1, b1⟩ := kk v w hp T'.heap (locs ++ L) ls (by rw [e1]; exact hP) hD k3 hl T' rfl X'
  exact ⟨t2, st t2 a1, b1⟩
/-- invokevirtual -/
theorem j_callV (C : jC p l e R s m args below meth c y cc nL ret d mc ms E A) {a q0 ci : Nat} {fs : List Value} {T : u_T} {N : Nat} (hM : jMet l y' b' nL' ret' d' mc' ms' E A (.ref a :: As) ws post px) (ok : jVokV y' b' nL' ret' n) (hl : Cond.methodLink y.cls i y' ∈ jTg) (hd : d' < d) (hn : As.length = n) (hst : st = As.reverse ++ .ref a :: rest) (hcat : (rest.map fun v => v.category).sum ≤ 8) (he : ws[q0]? = some (a, .inr (ci, fs))) (hc : vwCl[ci]? = some (y'.cls, T, N)) (hb : cells + mc' ≤ mc ∧ slots + ms' ≤ ms) (hdec : decode cc pc = .ok (.invokevirtual i, 3))
    (kx : ∀ En w, px En w → jXJ p l e R s m args below meth c E A nL Q (cells + mc') (slots + ms') pc lv rest En w) (kk : ∀ v w, post v w → jJ p l e R s m args below meth c E A nL Q (cells + mc') (slots + ms') (pc + 3) lv (v.toList ++ rest) w) : jJ p l e R s m args below meth c E A nL Q cells slots pc lv st ws := by
  intro H locs ls hP hD hS hlv
  have hR := C.2.2.2.2.2.2.2.2.2.2.1
  have hts := C.2.2.2.2.1
  refine j_run (vx_runV (As := As) (rest := rest) (C := y'.cls) (b := a) ⟨C.1, C.2.1, C.2.2.1, C.2.2.2.1, hts⟩ hM ⟨j_CB C ok.1 hl hd, hts _ ok.2.1, hts _ ok.2.2⟩ ⟨jPre.blind, va_recv C.2.2.2.2.2.2.2.2.1.1.1 hP hc he, j_pre C hP hD hS⟩ rfl hn hlv.1 hst (lv_room hcat) hdec (by rw [hR]; exact hb)) hS hlv kx kk
/-- invokestatic -/
theorem j_callS (C : jC p l e R s m args below meth c y cc nL ret d mc ms E A) (hM : jMet l y' b' nL' ret' d' mc' ms' E A As ws post px) (ok : jVokS y' b' nL' ret' n) (hl : Cond.methodLink y.cls i y' ∈ jTg) (hd : d' < d) (hn : As.length = n) (hst : st = As.reverse ++ rest) (hcat : (rest.map fun v => v.category).sum ≤ 8) (hb : cells + mc' ≤ mc ∧ slots + ms' ≤ ms) (hdec : decode cc pc = .ok (.invokestatic i, 3))
    (kx : ∀ En w, px En w → jXJ p l e R s m args below meth c E A nL Q (cells + mc') (slots + ms') pc lv rest En w) (kk : ∀ v w, post v w → jJ p l e R s m args below meth c E A nL Q (cells + mc') (slots + ms') (pc + 3) lv (v.toList ++ rest) w) : jJ p l e R s m args below meth c E A nL Q cells slots pc lv st ws := by
  intro H locs ls hP hD hS hlv
  have hR := C.2.2.2.2.2.2.2.2.2.2.1
  have hts := C.2.2.2.2.1
  refine j_run (vx_runS (As := As) (rest := rest) ⟨C.1, C.2.1, C.2.2.1, C.2.2.2.1, hts⟩ hM ⟨j_CB C ok.1 hl hd, hts _ ok.2⟩ ⟨jPre.blind, j_pre C hP hD hS⟩ rfl hn hlv.1 hst (lv_room hcat) hdec (by rw [hR]; exact hb)) hS hlv kx kk
/-- invokespecial of a constructor, by an ordinary link -/
theorem j_callI (C : jC p l e R s m args below meth c y cc nL ret d mc ms E A) {a : Nat} (hM : jMet l y' b' nL' none d' mc' ms' E A (.ref a :: As) ws post jNo) (ok : jVokI y' b' nL' n) (hl : Cond.methodLink y.cls i y' ∈ jTg) (hd : d' < d) (hn : As.length = n) (hst : st = As.reverse ++ .ref a :: rest) (hcat : (rest.map fun v => v.category).sum ≤ 8) (hb : cells + mc' ≤ mc ∧ slots + ms' ≤ ms) (hdec : decode cc pc = .ok (.invokespecial i, 3))
    (kk : ∀ v w, post v w → jJ p l e R s m args below meth c E A nL Q (cells + mc') (slots + ms') (pc + 3) lv (v.toList ++ rest) w) : jJ p l e R s m args below meth c E A nL Q cells slots pc lv st ws := by
  intro H locs ls hP hD hS hlv
  have hR := C.2.2.2.2.2.2.2.2.2.2.1
  have hts := C.2.2.2.2.1
  refine j_runR (va_runI (As := As) (rest := rest) (b := a) ⟨C.1, C.2.1, C.2.2.1, C.2.2.2.1, hts⟩ hM.met ⟨j_CB C ok.1 hl hd, ok.2.1, hts _ ok.2.2⟩ ⟨jPre.blind, j_pre C hP hD hS⟩ rfl hn hlv.1 hst (lv_room hcat) hdec (by rw [hR]; exact hb)) hS hlv kk
/-- .. by the link of nest mates -/
theorem j_callIN (C : jC p l e R s m args below meth c y cc nL ret d mc ms E A) {a : Nat} {host : String} (hM : jMet l y' b' nL' none d' mc' ms' E A (.ref a :: As) ws post jNo) (ok : jVokI y' b' nL' n) (hl : (y.cls, i, y', host) ∈ jNestM) (hd : d' < d) (hn : As.length = n) (hst : st = As.reverse ++ .ref a :: rest) (hcat : (rest.map fun v => v.category).sum ≤ 8) (hb : cells + mc' ≤ mc ∧ slots + ms' ≤ ms) (hdec : decode cc pc = .ok (.invokespecial i, 3))
    (kk : ∀ v w, post v w → jJ p l e R s m args below meth c E A nL Q (cells + mc') (slots + ms') (pc + 3) lv (v.toList ++ rest) w) : jJ p l e R s m args below meth c E A nL Q cells slots pc lv st ws := by
  intro H locs ls hP hD hS hlv
  have hR := C.2.2.2.2.2.2.2.2.2.2.1
  have hts := C.2.2.2.2.1
  obtain ⟨h1, h2, h3, h4, h5⟩ := ok.1
  have hnw := C.2.2.2.2.2.2.2.2.1.2.2.2.2.2.2.2.2.2.1 _ hl
  refine j_runR (va_runIN (As := As) (rest := rest) (b := a) (host := host) (own := y.cls) (n := n) ⟨C.1, C.2.1, C.2.2.1, C.2.2.2.1, hts⟩ hM.met ⟨⟨⟨rfl, rfl, ?_, ?_, j_pay hts h1, List.mem_cons_self⟩, hts _ h1, hts _ h2, h3, fun sig h => ?_, va_Nw.use rfl hnw⟩, ok.2.1, hts _ ok.2.2⟩ ⟨jPre.blind, j_pre C hP hD hS⟩ rfl hn hlv.1 hst (lv_room hcat) hdec (by rw [hR]; exact hb)) hS hlv kk
  · rw [hR]
    show d' + 6 + 1 ≤ d + 6
    omega
  · rw [hR]
    show 8 + (nL' + 11) + (40 * d' + 100) ≤ 40 * d + 100
    omega
  · rw [h] at h4
    exact (Option.some.inj h4).symm
/-- exact answers -/
theorem j_callVr (C : jC p l e R s m args below meth c y cc nL ret d mc ms E A) {a ci : Nat} {fs : List Value} {T : u_T} {N : Nat} {v : Value} {w : va_W} (q0 : Nat) (hM : jMet l y' b' nL' ret' d' mc' ms' E A (.ref a :: As) ws (jR (some v) w) jNo) (ok : jVokV y' b' nL' ret' n) (hl : Cond.methodLink y.cls i y' ∈ jTg) (hd : d' < d) (hn : As.length = n) (hst : st = As.reverse ++ .ref a :: rest) (hcat : (rest.map fun v => v.category).sum ≤ 8) (he : ws[q0]? = some (a, .inr (ci, fs))) (hc : vwCl[ci]? = some (y'.cls, T, N)) (hb : cells + mc' ≤ mc ∧ slots + ms' ≤ ms) (hdec : decode cc pc = .ok (.invokevirtual i, 3))
    (kk : jJ p l e R s m args below meth c E A nL Q (cells + mc') (slots + ms') (pc + 3) lv (v :: rest) w) : jJ p l e R s m args below meth c E A nL Q cells slots pc lv st ws :=
  j_callV C hM ok hl hd hn hst hcat he hc hb hdec (fun _ _ h => h.elim) (fun _ _ h => by obtain ⟨h1, h2⟩ := h; subst h1; subst h2; exact kk)
theorem j_callVv (C : jC p l e R s m args below meth c y cc nL ret d mc ms E A) {a ci : Nat} {fs : List Value} {T : u_T} {N : Nat} {w : va_W} (q0 : Nat) (hM : jMet l y' b' nL' ret' d' mc' ms' E A (.ref a :: As) ws (jR none w) jNo) (ok : jVokV y' b' nL' ret' n) (hl : Cond.methodLink y.cls i y' ∈ jTg) (hd : d' < d) (hn : As.length = n) (hst : st = As.reverse ++ .ref a :: rest) (hcat : (rest.map fun v => v.category).sum ≤ 8) (he : ws[q0]? = some (a, .inr (ci, fs))) (hc : vwCl[ci]? = some (y'.cls, T, N)) (hb : cells + mc' ≤ mc ∧ slots + ms' ≤ ms) (hdec : decode cc pc = .ok (.invokevirtual i, 3))
    (kk : jJ p l e R s m args below meth c E A nL Q (cells + mc') (slots + ms') (pc + 3) lv rest w) : jJ p l e R s m args below meth c E A nL Q cells slots pc lv st ws :=
  j_callV C hM ok hl hd hn hst hcat he hc hb hdec (fun _ _ h => h.elim) (fun _ _ h => by obtain ⟨h1, h2⟩ := h; subst h1; subst h2; exact kk)
theorem j_callVx (C : jC p l e R s m args below meth c y cc nL ret d mc ms E A) {a ci : Nat} {fs : List Value} {T : u_T} {N : Nat} {En : String} {w : va_W} (q0 : Nat) (hM : jMet l y' b' nL' ret' d' mc' ms' E A (.ref a :: As) ws jNv (jT En w)) (ok : jVokV y' b' nL' ret' n) (hl : Cond.methodLink y.cls i y' ∈ jTg) (hd : d' < d) (hn : As.length = n) (hst : st = As.reverse ++ .ref a :: rest) (hcat : (rest.map fun v => v.category).sum ≤ 8) (he : ws[q0]? = some (a, .inr (ci, fs))) (hc : vwCl[ci]? = some (y'.cls, T, N)) (hb : cells + mc' ≤ mc ∧ slots + ms' ≤ ms) (hdec : decode cc pc = .ok (.invokevirtual i, 3))
    (kx : jXJ p l e R s m args below meth c E A nL Q (cells + mc') (slots + ms') pc lv rest En w) : jJ p l e R s m args below meth c E A nL Q cells slots pc lv st ws :=
  j_callV C hM ok hl hd hn hst hcat he hc hb hdec (fun _ _ h => by obtain ⟨h1, h2⟩ := h; subst h1; subst h2; exact kx) (fun _ _ h => h.elim)
theorem j_callSr (C : jC p l e R s m args below meth c y cc nL ret d mc ms E A) {v : Value} {w : va_W} (hM : jMet l y' b' nL' ret' d' mc' ms' E A As ws (jR (some v) w) jNo) (ok : jVokS y' b' nL' ret' n) (hl : Cond.methodLink y.cls i y' ∈ jTg) (hd : d' < d) (hn : As.length = n) (hst : st = As.reverse ++ rest) (hcat : (rest.map fun v => v.category).sum ≤ 8) (hb : cells + mc' ≤ mc ∧ slots + ms' ≤ ms) (hdec : decode cc pc = .ok (.invokestatic i, 3))
    (kk : jJ p l e R s m args below meth c E A nL Q (cells + mc') (slots + ms') (pc + 3) lv (v :: rest) w) : jJ p l e R s m args below meth c E A nL Q cells slots pc lv st ws :=
  j_callS C hM ok hl hd hn hst hcat hb hdec (fun _ _ h => h.elim) (fun _ _ h => by obtain ⟨h1, h2⟩ := h; subst h1; subst h2; exact kk)
theorem j_callSv (C : jC p l e R s m args below meth c y cc nL ret d mc ms E A) {w : va_W} (hM : jMet l y' b' nL' ret' d' mc' ms' E A As ws (jR none w) jNo) (ok : jVokS y' b' nL' ret' n) (hl : Cond.methodLink y.cls i y' ∈ jTg) (hd : d' < d) (hn : As.length = n) (hst : st = As.reverse ++ rest) (hcat : (rest.map fun v => v.category).sum ≤ 8) (hb : cells + mc' ≤ mc ∧ slots + ms' ≤ ms) (hdec : decode cc pc = .ok (.invokestatic i, 3))
    (kk : jJ p l e R s m args below meth c E A nL Q (cells + mc') (slots + ms') (pc + 3) lv rest w) : jJ p l e R s m args below meth c E A nL Q cells slots pc lv st ws :=
  j_callS C hM ok hl hd hn hst hcat hb hdec (fun _ _ h => h.elim) (fun _ _ h => by obtain ⟨h1, h2⟩ := h; subst h1; subst h2; exact kk)
theorem j_callSx (C : jC p l e R s m args below meth c y cc nL ret d mc ms E A) {En : String} {w : va_W} (hM : jMet l y' b' nL' ret' d' mc' ms' E A As ws jNv (jT En w)) (ok : jVokS y' b' nL' ret' n) (hl : Cond.methodLink y.cls i y' ∈ jTg) (hd : d' < d) (hn : As.length = n) (hst : st = As.reverse ++ rest) (hcat : (rest.map fun v => v.category).sum ≤ 8) (hb : cells + mc' ≤ mc ∧ slots + ms' ≤ ms) (hdec : decode cc pc = .ok (.invokestatic i, 3))
    (kx : jXJ p l e R s m args below meth c E A nL Q (cells + mc') (slots + ms') pc lv rest En w) : jJ p l e R s m args below meth c E A nL Q cells slots pc lv st ws :=
  j_callS C hM ok hl hd hn hst hcat hb hdec (fun _ _ h => by obtain ⟨h1, h2⟩ := h; subst h1; subst h2; exact kx) (fun _ _ h => h.elim)
/-- ends -/
theorem j_iret (C : jC p l e R s m args below meth c y cc nL ret d mc ms E A) (hQ : Q = vx_MQ below (jQ E A post) (jX E A px) args s mc ms A) {v : Int32} (hr : ret = some .int) (hd : decode cc pc = .ok (.ireturn, 1)) (hb : cells ≤ mc ∧ slots ≤ ms) (hp : post (some (.int v)) ws) : jJ p l e R s m args below meth c E A nL Q cells slots pc lv [.int v] ws := by
  subst hQ
  exact fun _ _ _ hP hD hS _ => vx_ret (W.widen hb.1 hb.2 (W.iret (hlocks := C.2.2.2.2.2.2.1) C.1 C.2.1 (C.2.2.2.2.2.1.trans hr) (fun t ht _ => ⟨⟨_, ws, rfl, hp, by rw [ht]; exact hP, hD⟩, hS.F ht⟩) hS.2.2 hd))
theorem j_zret (C : jC p l e R s m args below meth c y cc nL ret d mc ms E A) (hQ : Q = vx_MQ below (jQ E A post) (jX E A px) args s mc ms A) {v : Int32} (hr : ret = some .boolean) (hn : narrow .boolean (.int v) = .int v) (hd : decode cc pc = .ok (.ireturn, 1)) (hb : cells ≤ mc ∧ slots ≤ ms) (hp : post (some (.int v)) ws) : jJ p l e R s m args below meth c E A nL Q cells slots pc lv [.int v] ws := by
  subst hQ
  exact fun _ _ _ hP hD hS _ => vx_ret (W.widen hb.1 hb.2 (W.zret (hlocks := C.2.2.2.2.2.2.1) C.1 C.2.1 (C.2.2.2.2.2.1.trans hr) hn (fun t ht _ => ⟨⟨_, ws, rfl, hp, by rw [ht]; exact hP, hD⟩, hS.F ht⟩) hS.2.2 hd))
theorem j_lret (C : jC p l e R s m args below meth c y cc nL ret d mc ms E A) (hQ : Q = vx_MQ below (jQ E A post) (jX E A px) args s mc ms A) {v : Int64} (hr : ret = some .long) (hd : decode cc pc = .ok (.lreturn, 1)) (hb : cells ≤ mc ∧ slots ≤ ms) (hp : post (some (.long v)) ws) : jJ p l e R s m args below meth c E A nL Q cells slots pc lv [.long v] ws := by
  subst hQ
  exact fun _ _ _ hP hD hS _ => vx_ret (W.widen hb.1 hb.2 (W.lret (hlocks := C.2.2.2.2.2.2.1) C.1 C.2.1 (C.2.2.2.2.2.1.trans hr) (fun t ht _ => ⟨⟨_, ws, rfl, hp, by rw [ht]; exact hP, hD⟩, hS.F ht⟩) hS.2.2 hd))
theorem j_vret (C : jC p l e R s m args below meth c y cc nL ret d mc ms E A) (hQ : Q = vx_MQ below (jQ E A post) (jX E A px) args s mc ms A) (hr : ret = none) (hd : decode cc pc = .ok (.return_, 1)) (hb : cells ≤ mc ∧ slots ≤ ms) (hp : post none ws) : jJ p l e R s m args below meth c E A nL Q cells slots pc lv [] ws := by
  subst hQ
  exact fun _ _ _ hP hD hS _ => vx_ret (W.widen hb.1 hb.2 (W.vret (hlocks := C.2.2.2.2.2.2.1) C.1 C.2.1 (C.2.2.2.2.2.1.trans hr) (fun t ht _ => ⟨⟨_, ws, rfl, hp, by rw [ht]; exact hP, hD⟩, hS.F ht⟩) hS.2.2 hd))
theorem j_aret (C : jC p l e R s m args below meth c y cc nL ret d mc ms E A) (hQ : Q = vx_MQ below (jQ E A post) (jX E A px) args s mc ms A) {a : Nat} {rt : FieldType} (hr : ret = some rt) (hrt : (∃ n, rt = .object n) ∨ ∃ t, rt = .array t) (hd : decode cc pc = .ok (.areturn, 1)) (hb : cells ≤ mc ∧ slots ≤ ms) (hp : post (some (.ref a)) ws) : jJ p l e R s m args below meth c E A nL Q cells slots pc lv [.ref a] ws := by
  subst hQ
  exact fun _ _ _ hP hD hS _ => vx_ret (W.widen hb.1 hb.2 (W.aret (hlocks := C.2.2.2.2.2.2.1) C.1 C.2.1 (C.2.2.2.2.2.1.trans hr) hrt (Or.inr ⟨a, rfl⟩) (fun t ht _ => ⟨⟨_, ws, rfl, hp, by rw [ht]; exact hP, hD⟩, hS.F ht⟩) hS.2.2 hd))
/-- an exception goes on to the caller -/
theorem j_xout (C : jC p l e R s m args below meth c y cc nL ret d mc ms E A) (hQ : Q = vx_MQ below (jQ E A post) (jX E A px) args s mc ms A) {En : String} (hb : cells ≤ mc ∧ slots ≤ ms) (hp : px En ws) (hy : y.cls ≠ "CheckdeskLaw" := by decide) : jXJ p l e R s m args below meth c E A nL Q cells slots pc lv rest En ws := by
  subst hQ
  exact fun _ _ _ _ _ hP hD hS _ hce hcv hcl => vx_out (fun x hx => absurd (C.2.2.2.2.2.2.2.1 x hx) hy) C.2.2.2.2.2.2.1 hce hcv hcl (fun t ht _ => ⟨⟨ws, hp, by rw [ht]; exact hP, hD⟩, hS.F ht⟩) hS.2.2 hb.1 hb.2
/-- throw new En("text") -/
theorem j_throwS (hl : l.stackTraces = false) (C : jC p l e R s m args below meth c y cc nL ret d mc ms E A) (hQ : Q = vx_MQ below (jQ E A post) (jX E A px) args s mc ms A) {En text : String} {ik is ic : Nat} (hin : ∀ w ∈ (vx_atS y.cls ic En ["java/lang/RuntimeException", "java/lang/Exception"]).filter goodWord, w ∈ jTg) (hbad : ∀ w ∈ (vx_atS y.cls ic En ["java/lang/RuntimeException", "java/lang/Exception"]).filter (fun w => !goodWord w), w ∈ Cond.castable En En :: jDecl.map Cond.declares) (hcast : (En, En) ∈ jCast) (hfit : Bundle.fit En = true)
    (hgood : ∀ w ∈ Cond.classLink y.cls ik En :: Cond.initialized En :: vx_atS y.cls ic En ["java/lang/RuntimeException", "java/lang/Exception"], vx_ot w = true)
    (hk : Cond.classLink y.cls ik En ∈ jTg) (hini : Cond.initialized En ∈ jTg) (hstr : (y.cls, is, text) ∈ jStr)
    (d0 : decode cc pc = .ok (.new ik, 3)) (d3 : decode cc (pc + 3) = .ok (.dup, 1)) (d4 : decode cc (pc + 4) = .ok (.ldc is, 2)) (d6 : decode cc (pc + 6) = .ok (.invokespecial ic, 3)) (d9 : decode cc (pc + 9) = .ok (.athrow, 1)) (hcat : (rest.map fun v => v.category).sum ≤ 8) (hb : cells + 1 ≤ mc ∧ slots + 6 ≤ ms) (hp : px En ws) (hy : y.cls ≠ "CheckdeskLaw" := by decide) :
    jJ p l e R s m args below meth c E A nL Q cells slots pc lv rest ws := by
  subst hQ
  intro H locs ls hP hD hS hlv
  obtain ⟨hx, hbb, hml, hown, hts, -, hlocks, htab, hG, hA, hR, -⟩ := C
  obtain ⟨-, hU, hN, -, -, hst, hca, -, -, -, -, -, hdc⟩ := hG
  obtain ⟨sa, hsa⟩ := hst _ hstr
  refine vx_throwS hx hbb hl hown hfit (by decide) (hts _ hk) (hts _ hini) hsa (vx_hat (fun w hw => hts _ (hin w hw)) hbad (fun w hw => ?_)) hgood hU hN hS (hlv.1.trans hml.symm) d0 d3 d4 d6 d9 (fun x hx => absurd (htab x hx) hy) ?_ ?_ ?_ ?_ hlocks (fun t _ h1 h2 => ⟨⟨ws, hp, fun k q hq => (hP k q hq).kept (h2 q.1 (hP k q hq).lt), hD⟩, Nat.le_trans hS.1 h1, fun q h3 h4 => by rw [h2 q (Nat.lt_of_lt_of_le h3 hS.1)]; exact hS.2.1 q h3 h4⟩) hS.2.2 hb.1 hb.2
  · rcases List.mem_cons.mp hw with rfl | hw
    · exact va_Nw.use rfl (hca _ hcast)
    · obtain ⟨q, hq, rfl⟩ := List.mem_map.mp hw
      exact va_Nw.use rfl (hdc q hq)
  · rw [hR]
    show 2 + 3 < d + 6
    omega
  · rw [hR]
    show _ + (13 * (2 + 1) + 43) ≤ 40 * d + 100
    omega
  · rw [hR]; exact hb.1
  · rw [hR]; exact hb.2
end JCL
