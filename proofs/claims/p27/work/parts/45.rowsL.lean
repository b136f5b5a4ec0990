/-! methods with handlers; nest mates' fields; the law's script -/
def jMetH (l : Launch) (y : MethodName) (b : ByteArray) (nL : Nat) (ret : Option FieldType) (hh : List (Nat × Nat × Nat × Nat)) (d mc ms : Nat) (E : jE) (A : Nat → Prop) (av : List Value) (ws : va_W) (post : Option Value → va_W → Prop) : Prop :=
  vx_Met l y (.codeWith y b nL ret hh :: jTg) (jRm d mc ms) (jPre E A av ws) (jQ E A post) (jX E A jNo) mc ms A
theorem jMetH.intro {l : Launch} {y : MethodName} {b : ByteArray} {nL : Nat} {ret : Option FieldType} {hh : List (Nat × Nat × Nat × Nat)} {d mc ms : Nat} {E : jE} {A : Nat → Prop} {av : List Value} {ws : va_W} {post : Option Value → va_W → Prop} (lv : List (Nat × Value)) (hy : plainName y.cls = true) (hyc : y.cls = "CheckdeskLaw") (hn : (lg_sl av).length ≤ nL) (hlv : lv_args 0 av = lv)
    (body : ∀ p e R s m args below meth c Q, jC p l e R s m args below meth c y b nL ret d mc ms E A → c.exceptionTable.toList = tableOf hh → Q = vx_MQ below (jQ E A post) (jX E A jNo) args s mc ms A → jJ p l e R s m args below meth c E A nL Q 0 0 0 lv [] ws) : jMetH l y b nL ret hh d mc ms E A av ws post := by
  refine vx_ofWH (cc := b) (maxL := nL) (ret := ret) (hh := hh) hy rfl ?_
  intro p e s m args below meth c s₁ B hml hv
  obtain ⟨rfl, hP, hD, hG, hA⟩ := hv
  have hts := atoms_spec (ws := .codeWith y b nL ret hh :: jTg) B.pre
  have htab := vx_table (x := y) B (hts _ List.mem_cons_self)
  have C : jC p l e (jRm d mc ms) s m av.toArray below meth c y b nL ret d mc ms E A := ⟨B.exec, B.bytes, hml, findClass_of_methodNamed B.named, fun w hw => hts w (List.mem_cons_of_mem _ hw), B.returns, B.notSynchronized, fun _ _ => hyc, hG, hA, rfl, (name_of_methodNamed B.named B.method).1⟩
  rw [lg_entry_eq]
  subst hlv
  exact body p e _ s m _ below meth c _ C htab rfl s.heap [] _ hP hD va_S.rf (lv_entry av hn)
def jVokH (y : MethodName) (b : ByteArray) (nL : Nat) (ret : Option FieldType) (hh : List (Nat × Nat × Nat × Nat)) (n : Nat) : Prop :=
  Cond.codeWith y b nL ret hh ∈ jTg ∧ Cond.initialized y.cls ∈ jTg ∧ (y.cls ≠ "java/lang/invoke/MethodHandle" ∧ y.cls ≠ "java/lang/invoke/VarHandle") ∧ (parseMethodDescriptor y.desc).map (fun d => d.parameters.length) = some n ∧ nL ≤ 20 ∧ Cond.static y ∈ jTg
section JLW
variable {p : Program} {l : Launch} {e : Env} {R : Room} {s : State} {m : MethodId} {args : Array Value} {below : List Frame} {meth : Method} {c : Code} {y : MethodName} {cc : ByteArray} {nL : Nat} {ret : Option FieldType} {d mc ms : Nat} {E : jE} {A : Nat → Prop} {Q : State → Prop} {cells slots pc : Nat} {lv : List (Nat × Value)} {rest st : List Value} {ws : va_W}
variable {y' : MethodName} {b' : ByteArray} {nL' : Nat} {ret' : Option FieldType} {hh : List (Nat × Nat × Nat × Nat)} {d' mc' ms' n i : Nat} {As : List Value} {post : Option Value → va_W → Prop}
theorem j_callSH (C : jC p l e R s m args below meth c y cc nL ret d mc ms E A) (hM : jMetH l y' b' nL' ret' hh d' mc' ms' E A As ws post) (ok : jVokH y' b' nL' ret' hh n) (hl : Cond.methodLink y.cls i y' ∈ jTg) (hd : d' < d) (hn : As.length = n) (hst : st = As.reverse ++ rest) (hcat : (rest.map fun v => v.category).sum ≤ 8) (hb : cells + mc' ≤ mc ∧ slots + ms' ≤ ms) (hdec : decode cc pc = .ok (.invokestatic i, 3))
    (kk : ∀ v w, post v w → jJ p l e R s m args below meth c E A nL Q (cells + mc') (slots + ms') (pc + 3) lv (v.toList ++ rest) w) : jJ p l e R s m args below meth c E A nL Q cells slots pc lv st ws := by
  intro H locs ls hP hD hS hlv
  have hR := C.2.2.2.2.2.2.2.2.2.2.1
  have hts := C.2.2.2.2.1
  obtain ⟨h1, h2, h3, h4, h5, h6⟩ := ok
  refine j_run (vx_runSX (As := As) (rest := rest) (hh := hh) (own := y.cls) (n := n) ⟨C.1, C.2.1, C.2.2.1, C.2.2.2.1, hts⟩ hM ⟨⟨rfl, rfl, ?_, ?_, fun w hw => (List.mem_cons.mp hw).elim (fun e => by rw [e]; exact jTg_pay hts _ h1) (fun h => jTg_pay hts _ h), List.mem_cons_self⟩, hts _ h1, hts _ h2, h3, fun sig h => ?_, hts _ hl, hts _ h6⟩ ⟨jPre.blind, j_pre C hP hD hS⟩ rfl hn hlv.1 hst (lv_room hcat) hdec (by rw [hR]; exact hb)) hS hlv (fun _ _ h => h.elim) kk
  · rw [hR]
    show d' + 6 + 1 ≤ d + 6
    omega
  · rw [hR]
    show 8 + (nL' + 11) + (40 * d' + 100) ≤ 40 * d + 100
    omega
  · rw [h] at h4
    exact (Option.some.inj h4).symm
/-- a handler takes it -/
theorem j_catch (C : jC p l e R s m args below meth c y cc nL ret d mc ms E A) {En : String} {tgt : Nat} (htab : c.exceptionTable.toList = tableOf hh) (pre : List ExceptionTableEntry) (z : ExceptionTableEntry) (suf : List ExceptionTableEntry) (hsplit : tableOf hh = pre ++ z :: suf)
    (hpass : ∀ q ∈ pre, q.catchType ≠ 0 ∧ ∃ nm : String, Cond.classLink y.cls q.catchType nm ∈ jTg ∧ (En, nm) ∈ jNcast) (hx : covers z pc = true) (h0 : z.catchType ≠ 0) (hlink : Cond.classLink y.cls z.catchType En ∈ jTg) (hcast : (En, En) ∈ jCast) (ht : z.handlerPc = tgt)
    (kk : ∀ q : Nat, jJ p l e R s m args below meth c E A nL Q cells slots tgt lv [.ref q] ws) : jXJ p l e R s m args below meth c E A nL Q cells slots pc lv rest En ws := by
  subst ht
  intro H locs ls ce q hP hD hS hl hce hcv hcl
  have hG := C.2.2.2.2.2.2.2.2.1
  have hts := C.2.2.2.2.1
  exact vx_catch C.2.2.2.1 pre z suf (htab.trans hsplit) (fun w hw => by
    obtain ⟨h1, nm, h2, h3⟩ := hpass w hw
    exact Or.inr ⟨h1, nm, hts _ h2, hG.2.2.2.2.2.2.2.1 _ h3⟩) hx h0 (hts _ hlink) (va_Nw.use rfl (hG.2.2.2.2.2.2.1 _ hcast)) hce hcv hcl (kk q _ _ _ hP hD hS hl)
theorem j_putN (C : jC p l e R s m args below meth c y cc nL ret d mc ms E A) {a : Nat} {T : u_T} {N ci i : Nat} {Cn host : String} {ws' : va_W} (q0 : Nat) {fs : List Value} (he : ws[q0]? = some (a, .inr (ci, fs))) (hin : ∀ w ∈ u_ws Cn T N, w ∈ jTg) (ty0 : Nat → FieldType) (hty : ∀ k, k < N → parseFieldDescriptor (T k).2.2.1 = some (ty0 k)) (hnm : ∀ a, a < N → ∀ b, b < N → a ≠ b → (T a).2.1 ≠ (T b).2.1) (hc : vwCl[ci]? = some (Cn, T, N)) (k : Nat) (hk : k < N) (hlink : (y.cls, i, (T k).1, (T k).2.1, (T k).2.2.1, host) ∈ jNestF) (hfin : (T k).2.2.2 = false) {ty : FieldType} {v : Value} (hde : parseFieldDescriptor (T k).2.2.1 = some ty) (hn : narrow ty v = v) (hfit : fits ty v = true) (hlen : k < fs.length) (hd : decode cc pc = .ok (.putfield i, 3)) (hws : ws.set q0 (a, .inr (ci, fs.set k v)) = ws') (kk : jJ p l e R s m args below meth c E A nL Q cells slots (pc + 3) lv (rest) ws') : jJ p l e R s m args below meth c E A nL Q cells slots pc lv (v :: .ref a :: rest) ws :=
  fun _ _ _ hP hD hS hl => va_putN C.1 C.2.1 C.2.2.2.2.1 hin ty0 hty hnm C.2.2.2.1 C.2.2.2.2.2.2.2.2.1.1.1 hP hD hS q0 he hc k hk (va_Nw.use rfl (C.2.2.2.2.2.2.2.2.1.2.2.2.2.2.2.2.2.1 _ hlink)) (fun _ h => h) hfin hde hn hfit hlen hd (fun _ _ hP hD hS => by rw [hws] at hP hD; exact kk _ _ _ hP hD hS hl)
/-- the script -/
theorem j_sld (C : jC p l e R s m args below meth c y cc nL ret d mc ms E A) {b L : Nat} {xs : Nat → Int32} {i z : Int32} (hX : va_X b L xs s s.heap) (hbl : b < s.heap.size) (hbA : ¬ A b) (k : Nat) (hi : i = nI k) (hk : k < L) (hL : L < 2 ^ 31) (hz : xs k = z) (hd : decode cc pc = .ok (.iaload, 1)) (kk : jJ p l e R s m args below meth c E A nL Q cells slots (pc + 1) lv (.int z :: rest) ws) : jJ p l e R s m args below meth c E A nL Q cells slots pc lv (.int i :: .ref b :: rest) ws := by
  subst hi
  intro _ _ _ hP hD hS hl
  refine va_sld C.1 C.2.1 hX hbl hbA hS (vp_in_nI hk hL) hd ?_
  rw [nI_clamp (by omega), hz]
  exact kk _ _ _ hP hD hS hl
theorem j_slen (C : jC p l e R s m args below meth c y cc nL ret d mc ms E A) {b L : Nat} {xs : Nat → Int32} (hX : va_X b L xs s s.heap) (hbl : b < s.heap.size) (hbA : ¬ A b) (hd : decode cc pc = .ok (.arraylength, 1)) (kk : jJ p l e R s m args below meth c E A nL Q cells slots (pc + 1) lv (.int (nI L) :: rest) ws) : jJ p l e R s m args below meth c E A nL Q cells slots pc lv (.ref b :: rest) ws :=
  fun _ _ _ hP hD hS hl => va_slen C.1 C.2.1 hX hbl hbA hS hd (kk _ _ _ hP hD hS hl)
theorem j_widen {k n : Nat} (h1 : cells ≤ k) (h2 : slots ≤ n) (kk : jJ p l e R s m args below meth c E A nL Q k n pc lv st ws) : jJ p l e R s m args below meth c E A nL Q cells slots pc lv st ws :=
  fun _ _ _ hP hD hS hl => W.widen h1 h2 (kk _ _ _ hP hD hS hl)
end JLW
/-- a smaller room -/
theorem jStandR {p : Program} {l : Launch} {e : Env} {R R' : Room} {s : State} {m : MethodId} {args : Array Value} {below : List Frame} {meth : Method} {c : Code} {T : State} {locs : List Loc} {cells slots : Nat} (hf : R'.frames ≤ R.frames) (hl : R'.locals ≤ R.locals) (hc : R'.cells ≤ R.cells) (hs : R'.slots ≤ R.slots) (X : Stand p l e R s m args below meth c T locs cells slots) : Stand p l e R' s m args below meth c T locs cells slots := by
  refine { X with room := ?_ }
  have h := X.room
  simp only [State.hasRoom, Bool.and_eq_true, decide_eq_true_eq] at h ⊢
  obtain ⟨⟨⟨⟨h1, h2, h3, h4, h5, h6⟩, h7⟩, h8⟩, h9⟩ := h
  refine ⟨⟨⟨⟨by omega, by omega, by omega, by omega, by omega, h6⟩, by omega⟩, by omega⟩, h9⟩
theorem jWR {p : Program} {l : Launch} {e : Env} {R R' : Room} {s : State} {m : MethodId} {args : Array Value} {below : List Frame} {meth : Method} {c : Code} {H : Heap} {locs : List Loc} {cells slots : Nat} {Q : State → Prop} {g : JFrame} (hf : R'.frames ≤ R.frames) (hl : R'.locals ≤ R.locals) (hc : R'.cells ≤ R.cells) (hs : R'.slots ≤ R.slots) (h : W p l e R' s m args below meth c H locs cells slots Q g) : W p l e R s m args below meth c H locs cells slots Q g :=
  fun T hT X => h T hT (jStandR hf hl hc hs X)
