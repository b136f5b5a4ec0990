/-! rows of the JDK's StringBuilder -/
theorem w_558 : Cond.sameMethod "[B" "java/lang/Object" "clone" "()Ljava/lang/Object;" ∈ jTg := jTg_mem 558 (by decide +kernel) rfl
theorem w_559 : Cond.native ⟨"java/lang/Object", "clone", "()Ljava/lang/Object;"⟩ ∈ jTg := jTg_mem 559 (by decide +kernel) rfl
theorem w_567 : Cond.native arraycopyName ∈ jTg := jTg_mem 567 (by decide +kernel) rfl
section JST
variable {y' : MethodName} {b' : ByteArray} {nL' : Nat} {ret' : Option FieldType} {d' mc' ms' n i : Nat} {As : List Value}
variable {p : Program} {l : Launch} {e : Env} {R : Room} {s : State} {m : MethodId} {args : Array Value} {below : List Frame} {meth : Method} {c : Code} {y : MethodName} {cc : ByteArray} {nL : Nat} {ret : Option FieldType} {d mc ms : Nat} {E : jE} {A : Nat → Prop} {Q : State → Prop} {cells slots pc : Nat} {lv : List (Nat × Value)} {rest st : List Value} {ws : va_W} {post : Option Value → va_W → Prop} {px : String → va_W → Prop}
theorem j_ishr (C : jC p l e R s m args below meth c y cc nL ret d mc ms E A) {x z : Int32} (hd : decode cc pc = .ok (.ishr, 1)) (hz : x = z) (kk : jJ p l e R s m args below meth c E A nL Q cells slots (pc + 1) lv (.int z :: rest) ws) : jJ p l e R s m args below meth c E A nL Q cells slots pc lv (.int (nI 0) :: .int x :: rest) ws := fun _ _ _ hP hD hS hl => lv_ishr C.1 C.2.1 hd (by rw [show x >>> (nI 0 &&& 31) = x from sb_shr0 x, hz]; exact kk _ _ _ hP hD hS hl)
theorem j_ishl (C : jC p l e R s m args below meth c y cc nL ret d mc ms E A) {x z : Int32} (hd : decode cc pc = .ok (.ishl, 1)) (hz : x = z) (kk : jJ p l e R s m args below meth c E A nL Q cells slots (pc + 1) lv (.int z :: rest) ws) : jJ p l e R s m args below meth c E A nL Q cells slots pc lv (.int (nI 0) :: .int x :: rest) ws := fun _ _ _ hP hD hS hl => lv_ishl C.1 C.2.1 hd (by rw [show x <<< (nI 0 &&& 31) = x from sb_shl0 x, hz]; exact kk _ _ _ hP hD hS hl)
theorem j_i2b (C : jC p l e R s m args below meth c y cc nL ret d mc ms E A) {x v : Int32} (hd : decode cc pc = .ok (.i2b, 1)) (hv : x.toInt8.toInt32 = v) (kk : jJ p l e R s m args below meth c E A nL Q cells slots (pc + 1) lv (.int v :: rest) ws) : jJ p l e R s m args below meth c E A nL Q cells slots pc lv (.int x :: rest) ws := fun _ _ _ hP hD hS hl => lv_i2b C.1 C.2.1 hd hv (kk _ _ _ hP hD hS hl)
theorem j_dup_x1 (C : jC p l e R s m args below meth c y cc nL ret d mc ms E A) {va vb : Value} (hd : decode cc pc = .ok (.dup_x1, 1)) (h1 : va.category = 1) (h2 : vb.category = 1) (kk : jJ p l e R s m args below meth c E A nL Q cells slots (pc + 1) lv (va :: vb :: va :: rest) ws) : jJ p l e R s m args below meth c E A nL Q cells slots pc lv (va :: vb :: rest) ws := fun _ _ _ hP hD hS hl => lv_dup_x1 C.1 C.2.1 hd h1 h2 (kk _ _ _ hP hD hS hl)
theorem j_bastore (C : jC p l e R s m args below meth c y cc nL ret d mc ms E A) {a n : Nat} {f f' : Nat → Int32} {i x : Int32} {ws' : va_W} (q0 : Nat) (k : Nat) (he : ws[q0]? = some (a, .inl (E.2.2.1, n, .inl f))) (hi : i = nI k) (hk : k < n) (hn : n < 2 ^ 31) (hd : decode cc pc = .ok (.bastore, 1)) (hf : upd f k (vp_nar .byte x) = f') (hws : ws.set q0 (a, .inl (E.2.2.1, n, .inl f')) = ws') (kk : jJ p l e R s m args below meth c E A nL Q cells slots (pc + 1) lv (rest) ws') : jJ p l e R s m args below meth c E A nL Q cells slots pc lv (.int x :: .int i :: .ref a :: rest) ws := by
  subst hi; subst hf
  intro _ _ _ hP hD hS hl
  refine va_bast C.1 C.2.1 C.2.2.2.2.2.2.2.2.1.1.1 hP hD hS q0 1 he rfl (vp_in_nI hk hn) hd (fun _ _ hP hD hS => ?_)
  rw [nI_clamp (by omega), hws] at hP hD
  exact kk _ _ _ hP hD hS hl
/-- the world in another order, or less of it -/
theorem j_perm {pre pre' tl : va_W} (is : List Nat) (h : is.map (fun i => pre[i]?) = pre'.map some) (hn : is.Nodup) (kk : jJ p l e R s m args below meth c E A nL Q cells slots pc lv st (pre' ++ tl)) : jJ p l e R s m args below meth c E A nL Q cells slots pc lv st (pre ++ tl) := by
  have hlen : is.length = pre'.length := by have := congrArg List.length h; simpa using this
  have key : ∀ (k : Nat) (q : Nat × va_E), (pre' ++ tl)[k]? = some q → ∃ k2, (pre ++ tl)[k2]? = some q ∧ ((k < pre'.length ∧ is[k]? = some k2 ∧ k2 < pre.length) ∨ (pre'.length ≤ k ∧ k2 = k - pre'.length + pre.length)) := by
    intro k q hq
    by_cases hk : k < pre'.length
    · rw [List.getElem?_append_left hk] at hq
      have h1 : (is.map (fun i => pre[i]?))[k]? = some (some q) := by rw [h, List.getElem?_map, hq]; rfl
      rw [List.getElem?_map] at h1
      obtain ⟨i, hi, hi2⟩ := Option.map_eq_some_iff.mp h1
      have hi3 : i < pre.length := (List.getElem?_eq_some_iff.mp hi2).1
      exact ⟨i, by rw [List.getElem?_append_left hi3]; exact hi2, Or.inl ⟨hk, hi, hi3⟩⟩
    · rw [List.getElem?_append_right (by omega)] at hq
      exact ⟨k - pre'.length + pre.length, by rw [List.getElem?_append_right (by omega), Nat.add_sub_cancel]; exact hq, Or.inr ⟨by omega, rfl⟩⟩
  intro _ _ _ hP hD hS hl
  refine kk _ _ _ (fun k q hq => ?_) ⟨fun i j x z hi hj hxz => ?_, fun k q hq => ?_⟩ hS hl
  · obtain ⟨k2, h2, -⟩ := key k q hq
    exact hP k2 q h2
  · obtain ⟨i2, h2, a2⟩ := key i x hi
    obtain ⟨j2, h3, a3⟩ := key j z hj
    have e := hD.1 i2 j2 x z h2 h3 hxz
    subst e
    rcases a2 with ⟨b1, b2, b3⟩ | ⟨b1, b2⟩ <;> rcases a3 with ⟨c1, c2, c3⟩ | ⟨c1, c2⟩
    · exact (List.getElem?_inj (by rw [hlen]; exact b1) hn).mp (b2.trans c2.symm)
    · omega
    · omega
    · omega
  · obtain ⟨k2, h2, -⟩ := key k q hq
    exact hD.2 k2 q h2
theorem j_front {x : Nat × va_E} (kk : jJ p l e R s m args below meth c E A nL Q cells slots pc lv st (x :: ws)) : jJ p l e R s m args below meth c E A nL Q cells slots pc lv st (ws ++ [x]) := by
  intro _ _ _ hP hD hS hl
  have key : ∀ (k : Nat) (q : Nat × va_E), (x :: ws)[k]? = some q → ∃ k2, (ws ++ [x])[k2]? = some q ∧ ((k = 0 ∧ k2 = ws.length) ∨ (k = k2 + 1 ∧ k2 < ws.length)) := by
    intro k q hq
    cases k with
    | zero => exact ⟨ws.length, by rw [List.getElem?_append_right (Nat.le_refl _), Nat.sub_self]; exact hq, Or.inl ⟨rfl, rfl⟩⟩
    | succ k =>
      have hk : k < ws.length := (List.getElem?_eq_some_iff.mp (show ws[k]? = some q from hq)).1
      exact ⟨k, by rw [List.getElem?_append_left hk]; exact hq, Or.inr ⟨rfl, hk⟩⟩
  refine kk _ _ _ (fun k q hq => ?_) ⟨fun i j x z hi hj hxz => ?_, fun k q hq => ?_⟩ hS hl
  · obtain ⟨k2, h2, -⟩ := key k q hq
    exact hP k2 q h2
  · obtain ⟨i2, h2, a2⟩ := key i x hi
    obtain ⟨j2, h3, a3⟩ := key j z hj
    have e := hD.1 i2 j2 x z h2 h3 hxz
    subst e
    rcases a2 with ⟨b1, b2⟩ | ⟨b1, b2⟩ <;> rcases a3 with ⟨c1, c2⟩ | ⟨c1, c2⟩ <;> omega
  · obtain ⟨k2, h2, -⟩ := key k q hq
    exact hD.2 k2 q h2
/-- System.arraycopy between rows of bytes of the world -/
theorem j_copyB (C : jC p l e R s m args below meth c y cc nL ret d mc ms E A) {i a0 a n0 n1 : Nat} {f g : Nat → Int32} {ws' : va_W} (q0 q1 sp dp n : Nat) (hlink : Cond.methodLink y.cls i arraycopyName ∈ jTg) (ha0 : ws[q0]? = some (a0, .inl (E.2.2.1, n0, .inl f))) (ha1 : ws[q1]? = some (a, .inl (E.2.2.1, n1, .inl g))) (h4 : sp + n ≤ n0) (h5 : dp + n ≤ n1) (hn0 : n0 < 2 ^ 31) (hn1 : n1 < 2 ^ 31) (hfit : sb_Fit f) (hcat : (rest.map fun v => v.category).sum ≤ 8) (hd : decode cc pc = .ok (.invokestatic i, 3)) (hws : ws.set q1 (a, .inl (E.2.2.1, n1, .inl (va_cpy f g sp dp n))) = ws')
    (kk : jJ p l e R s m args below meth c E A nL Q cells slots (pc + 3) lv rest ws') : jJ p l e R s m args below meth c E A nL Q cells slots pc lv (.int (nI n) :: .int (nI dp) :: .ref a :: .int (nI sp) :: .ref a0 :: rest) ws := by
  intro _ _ _ hP hD hS hl
  have hR := C.2.2.2.2.2.2.2.2.2.2.1
  have hts := C.2.2.2.2.1
  have e1 : (nI sp).toNatClampNeg = sp := nI_clamp (by omega)
  have e2 : (nI dp).toNatClampNeg = dp := nI_clamp (by omega)
  have e3 : (nI n).toNatClampNeg = n := nI_clamp (by omega)
  refine va_copyi (ty := .byte) C.1 C.2.1 (C.2.2.1.trans hl.1.symm) C.2.2.2.1 (hts _ hlink) (hts _ w_567) (hts _ w_566) (hts _ w_43) C.2.2.2.2.2.2.2.2.1.1.1 hP hD hS q0 q1 1 1 ha0 ha1 rfl rfl rfl (nI_pos (by omega)) (nI_pos (by omega)) (nI_pos (by omega)) (by rw [e1, e3]; exact h4) (by rw [e2, e3]; exact h5) (fun j _ => hfit _) ?_ ?_ hd (fun H1 locs1 hP hD hS => ?_)
  · rw [hR]; show 1 ≤ d + 6; omega
  · rw [hR]; show _ + (_ + 11) ≤ 40 * d + 100
    have : nativeFrameWords "java/lang/System" "arraycopy" 5 + 11 ≤ 90 := by decide
    omega
  · rw [e1, e2, e3, hws] at hP hD
    exact kk _ _ _ hP hD hS hl
/-- .. from a row of bytes outside the world -/
theorem j_copyT (C : jC p l e R s m args below meth c y cc nL ret d mc ms E A) {i a0 a n0 n1 : Nat} {f g : Nat → Int32} {ws' : va_W} (q1 sp dp n : Nat) (hlink : Cond.methodLink y.cls i arraycopyName ∈ jTg) (hT : va_T .byte a0 n0 (fun j => .int (f j)) A s s.heap) (ha1 : ws[q1]? = some (a, .inl (E.2.2.1, n1, .inl g))) (h4 : sp + n ≤ n0) (h5 : dp + n ≤ n1) (hn0 : n0 < 2 ^ 31) (hn1 : n1 < 2 ^ 31) (hfit : sb_Fit f) (hcat : (rest.map fun v => v.category).sum ≤ 8) (hd : decode cc pc = .ok (.invokestatic i, 3)) (hws : ws.set q1 (a, .inl (E.2.2.1, n1, .inl (va_cpy f g sp dp n))) = ws')
    (kk : jJ p l e R s m args below meth c E A nL Q cells slots (pc + 3) lv rest ws') : jJ p l e R s m args below meth c E A nL Q cells slots pc lv (.int (nI n) :: .int (nI dp) :: .ref a :: .int (nI sp) :: .ref a0 :: rest) ws := by
  intro _ _ _ hP hD hS hl
  have hR := C.2.2.2.2.2.2.2.2.2.2.1
  have hts := C.2.2.2.2.1
  have e1 : (nI sp).toNatClampNeg = sp := nI_clamp (by omega)
  have e2 : (nI dp).toNatClampNeg = dp := nI_clamp (by omega)
  have e3 : (nI n).toNatClampNeg = n := nI_clamp (by omega)
  refine vk_copyt C.1 C.2.1 (C.2.2.1.trans hl.1.symm) C.2.2.2.1 (hts _ hlink) (hts _ w_567) (hts _ w_566) (hts _ w_43) C.2.2.2.2.2.2.2.2.1.1.1 hP hD hS hT q1 1 ha1 rfl (nI_pos (by omega)) (nI_pos (by omega)) (nI_pos (by omega)) (by rw [e1, e3]; exact h4) (by rw [e2, e3]; exact h5) (fun j _ => hfit _) ?_ ?_ hd (fun H1 locs1 hP hD hS => ?_)
  · rw [hR]; show 1 ≤ d + 6; omega
  · rw [hR]; show _ + (_ + 11) ≤ 40 * d + 100
    have : nativeFrameWords "java/lang/System" "arraycopy" 5 + 11 ≤ 90 := by decide
    omega
  · rw [e1, e2, e3, hws] at hP hD
    exact kk _ _ _ hP hD hS hl
/-- getstatic COMPACT_STRINGS -/
theorem j_compact (C : jC p l e R s m args below meth c y cc nL ret d mc ms E A) {i : Nat} (hlink : Cond.fieldLink y.cls i "java/lang/String" "COMPACT_STRINGS" "Z" ∈ jTg) (hd : decode cc pc = .ok (.getstatic i, 3)) (kk : jJ p l e R s m args below meth c E A nL Q cells slots (pc + 3) lv (.int (nI 1) :: rest) ws) : jJ p l e R s m args below meth c E A nL Q cells slots pc lv rest ws := by
  intro _ _ _ hP hD hS hl
  exact va_gets C.1 C.2.1 C.2.2.2.2.2.2.2.2.1.2.2.2.2.2.2.2.2.2.2.1 hS C.2.2.2.1 (C.2.2.2.2.1 _ hlink) (fun _ h => h) hd (kk _ _ _ hP hD hS hl)
/-- a field of an object outside the world -/
theorem j_getO (C : jC p l e R s m args below meth c y cc nL ret d mc ms E A) {i q : Nat} {o n t : String} {v : Value} (hE : va_OF o n t v q A s s.heap) (hlink : Cond.fieldLink y.cls i o n t ∈ jTg) (hd : decode cc pc = .ok (.getfield i, 3)) (kk : jJ p l e R s m args below meth c E A nL Q cells slots (pc + 3) lv (v :: rest) ws) : jJ p l e R s m args below meth c E A nL Q cells slots pc lv (.ref q :: rest) ws := by
  intro _ _ _ hP hD hS hl
  exact vk_getf C.1 C.2.1 hE hS C.2.2.2.1 (C.2.2.2.2.1 _ hlink) (fun _ h => h) hd (kk _ _ _ hP hD hS hl)
theorem j_tlenB (C : jC p l e R s m args below meth c y cc nL ret d mc ms E A) {t N : Nat} {f : Nat → Value} {v : Int32} (hT : va_T .byte t N f A s s.heap) (hv : nI N = v) (hd : decode cc pc = .ok (.arraylength, 1)) (kk : jJ p l e R s m args below meth c E A nL Q cells slots (pc + 1) lv (.int v :: rest) ws) : jJ p l e R s m args below meth c E A nL Q cells slots pc lv (.ref t :: rest) ws :=
  fun _ _ _ hP hD hS hl => va_tlen C.1 C.2.1 hT hS hv hd (kk _ _ _ hP hD hS hl)
/-- invokevirtual on an object outside the world -/
theorem j_callVO (C : jC p l e R s m args below meth c y cc nL ret d mc ms E A) {a : Nat} (hO : va_O y'.cls a A s s.heap) (hM : jMet l y' b' nL' ret' d' mc' ms' E A (.ref a :: As) ws post jNo) (ok : jVokV y' b' nL' ret' n) (hl : Cond.methodLink y.cls i y' ∈ jTg) (hd : d' < d) (hn : As.length = n) (hst : st = As.reverse ++ .ref a :: rest) (hcat : (rest.map fun v => v.category).sum ≤ 8) (hb : cells + mc' ≤ mc ∧ slots + ms' ≤ ms) (hdec : decode cc pc = .ok (.invokevirtual i, 3))
    (kk : ∀ v w, post v w → jJ p l e R s m args below meth c E A nL Q (cells + mc') (slots + ms') (pc + 3) lv (v.toList ++ rest) w) : jJ p l e R s m args below meth c E A nL Q cells slots pc lv st ws := by
  intro H locs ls hP hD hS hlv
  have hR := C.2.2.2.2.2.2.2.2.2.2.1
  have hts := C.2.2.2.2.1
  exact j_run (vx_runV (As := As) (rest := rest) (C := y'.cls) (b := a) ⟨C.1, C.2.1, C.2.2.1, C.2.2.2.1, hts⟩ hM ⟨j_CB C ok.1 hl hd, hts _ ok.2.1, hts _ ok.2.2⟩ ⟨jPre.blind, va_Orecv hO hS, j_pre C hP hD hS⟩ rfl hn hlv.1 hst (lv_room hcat) hdec (by rw [hR]; exact hb)) hS hlv (fun _ _ h => h.elim) kk
/-- clone() of a row of bytes of the world -/
theorem j_cloneB (C : jC p l e R s m args below meth c y cc nL ret d mc ms E A) {i a n0 : Nat} {f : Nat → Int32} (q0 : Nat) (hlink : Cond.methodLink y.cls i ⟨"[B", "clone", "()Ljava/lang/Object;"⟩ ∈ jTg) (ha : ws[q0]? = some (a, .inl (E.2.2.1, n0, .inl f))) (hfit : sb_Fit f) (hcat : (rest.map fun v => v.category).sum ≤ 8) (hcells : cells + 1 ≤ mc) (hslots : slots + n0 ≤ ms) (hd : decode cc pc = .ok (.invokevirtual i, 3))
    (kk : ∀ q : Nat, jJ p l e R s m args below meth c E A nL Q (cells + 1) (slots + n0) (pc + 3) lv (.ref q :: rest) (ws ++ [(q, .inl (E.2.2.1, n0, .inl f))])) : jJ p l e R s m args below meth c E A nL Q cells slots pc lv (.ref a :: rest) ws := by
  intro _ _ _ hP hD hS hl
  have hR := C.2.2.2.2.2.2.2.2.2.2.1
  have hts := C.2.2.2.2.1
  have hK := C.2.2.2.2.2.2.2.2.1.1.1
  refine va_clone C.1 C.2.1 (C.2.2.1.trans hl.1.symm) C.2.2.2.1 (hts _ hlink) (hts _ w_558) (hts _ w_559) (hts _ w_560) (hts _ w_561) (C.2.2.2.2.2.2.2.2.1.2.2.2.2.2.2.1 _ (List.mem_of_getElem? (i := 3) (a := ("[B", "java/lang/Cloneable")) rfl)) hK hP hD hS C.2.2.2.2.2.2.2.2.2.1 q0 1 ha rfl (hK.2 1 (E.2.2.1, .byte) rfl).2 (fun j v hv => ?_) ?_ ?_ (by rw [hR]; exact hcells) (by rw [hR]; exact hslots) hd (fun q H1 _ hP hD hS => kk q _ _ _ hP hD hS hl)
  · have hv' : (arrV E.2.2.1 n0 (fun j => .int (f j))).slots[j]? = some v := hv
    have hj : j < n0 := by have := (Array.getElem?_eq_some_iff.mp hv').1; rwa [arrV_size] at this
    rw [arrV_read _ _ hj] at hv'
    cases hv'
    exact hfit j
  · rw [hR]; show 1 ≤ d + 6; omega
  · rw [hR]; show _ + 14 ≤ 40 * d + 100; omega
/-- checkcast of a row of bytes -/
theorem j_castB (C : jC p l e R s m args below meth c y cc nL ret d mc ms E A) {i a : Nat} {x : vp_A} (q0 : Nat) (hlink : Cond.classLink y.cls i "[B" ∈ jTg) (ha : ws[q0]? = some (a, .inl (E.2.2.1, x))) (hd : decode cc pc = .ok (.checkcast i, 3)) (kk : jJ p l e R s m args below meth c E A nL Q cells slots (pc + 3) lv (.ref a :: rest) ws) : jJ p l e R s m args below meth c E A nL Q cells slots pc lv (.ref a :: rest) ws := by
  intro _ _ _ hP hD hS hl
  exact va_castA C.1 C.2.1 C.2.2.2.1 (C.2.2.2.2.1 _ hlink) hP q0 ha (C.2.2.2.2.2.2.2.2.1.1.1.2 1 (E.2.2.1, .byte) rfl).2 hd (kk _ _ _ hP hD hS hl)
/-- what the tables say of a method that is run for a receiver of another class -/
def jVokU (y : MethodName) (b : ByteArray) (nL : Nat) (ret : Option FieldType) (n : Nat) : Prop := jVok y b nL ret n ∧ Cond.instanceMethod y ∈ jTg
theorem jXS_at {k : Nat} {y0 : MethodName} (h : jSelM[k]? = some y0) : Cond.selects "java/lang/StringBuilder" y0 y0 ∈ jTg := List.mem_append_right _ (List.mem_map.mpr ⟨y0, List.mem_of_getElem? h, rfl⟩)
/-- invokevirtual of what another class has, or of a private method -/
theorem j_callU (C : jC p l e R s m args below meth c y cc nL ret d mc ms E A) {x : MethodName} {owner Cn : String} {a q0 ci : Nat} {fs : List Value} {T : u_T} {N : Nat} {b0 : ByteArray} {m0 : Nat} {r0 : Option FieldType} (hM : jMet l y' b' nL' ret' d' mc' ms' E A (.ref a :: As) ws post jNo) (ok : jVokU y' b' nL' ret' n) (hl : Cond.methodLink y.cls i x ∈ jTg) (hsm : Cond.sameMethod x.cls owner x.name x.desc ∈ jTg) (how : owner ≠ "java/lang/invoke/MethodHandle" ∧ owner ≠ "java/lang/invoke/VarHandle") (hxd : x.desc = y'.desc) (hxi : Cond.instanceMethod ⟨owner, x.name, x.desc⟩ ∈ jTg) (hxc : Cond.code ⟨owner, x.name, x.desc⟩ b0 m0 r0 ∈ jTg) (hsel : (Cond.selects Cn x y').before args s = true) (hd : d' < d) (hn : As.length = n) (hst : st = As.reverse ++ .ref a :: rest) (hcat : (rest.map fun v => v.category).sum ≤ 8) (he : ws[q0]? = some (a, .inr (ci, fs))) (hc : vwCl[ci]? = some (Cn, T, N)) (hb : cells + mc' ≤ mc ∧ slots + ms' ≤ ms) (hdec : decode cc pc = .ok (.invokevirtual i, 3))
    (kk : ∀ v w, post v w → jJ p l e R s m args below meth c E A nL Q (cells + mc') (slots + ms') (pc + 3) lv (v.toList ++ rest) w) : jJ p l e R s m args below meth c E A nL Q cells slots pc lv st ws := by
  intro H locs ls hP hD hS hlv
  have hR := C.2.2.2.2.2.2.2.2.2.2.1
  have hts := C.2.2.2.2.1
  obtain ⟨h1, h2, h3, h4, h5⟩ := ok.1
  refine j_runR (va_runU (As := As) (rest := rest) (C := Cn) (b := a) (x := x) (owner := owner) (own := y.cls) (n := n) ⟨C.1, C.2.1, C.2.2.1, C.2.2.2.1, hts⟩ hM.met ⟨⟨rfl, rfl, ?_, ?_, j_pay hts h1, List.mem_cons_self⟩, hts _ h1, hts _ h2, how, fun sig h => ?_, hts _ hl, hts _ hsm, va_Decl.of (hts _ hxi) (hts _ hxc), hsel, hts _ ok.2⟩ ⟨jPre.blind, va_recv C.2.2.2.2.2.2.2.2.1.1.1 hP hc he, j_pre C hP hD hS⟩ rfl hn hlv.1 hst (lv_room hcat) hdec (by rw [hR]; exact hb)) hS hlv kk
  · rw [hR]
    show d' + 6 + 1 ≤ d + 6
    omega
  · rw [hR]
    show 8 + (nL' + 11) + (40 * d' + 100) ≤ 40 * d + 100
    omega
  · rw [hxd] at h
    rw [h] at h4
    exact (Option.some.inj h4).symm
/-- invokespecial of what the class above has -/
theorem j_callSU (C : jC p l e R s m args below meth c y cc nL ret d mc ms E A) {Cn : String} {a q0 ci : Nat} {fs : List Value} {T : u_T} {N N2 : Nat} (hM : jMet l y' b' nL' ret' d' mc' ms' E A (.ref a :: As) ws post jNo) (ok : jVokU y' b' nL' ret' n) (hl : Cond.methodLink y.cls i y' ∈ jTg) (hsm : Cond.sameMethod y'.cls y'.cls y'.name y'.desc ∈ jTg) (hsup : Cond.superclass y.cls y'.cls ∈ jTg) (hins : Cond.instantiable Cn N2 ∈ jTg) (hno : y'.name ≠ "<init>") (hd : d' < d) (hn : As.length = n) (hst : st = As.reverse ++ .ref a :: rest) (hcat : (rest.map fun v => v.category).sum ≤ 8) (he : ws[q0]? = some (a, .inr (ci, fs))) (hc : vwCl[ci]? = some (Cn, T, N)) (hb : cells + mc' ≤ mc ∧ slots + ms' ≤ ms) (hdec : decode cc pc = .ok (.invokespecial i, 3))
    (kk : ∀ v w, post v w → jJ p l e R s m args below meth c E A nL Q (cells + mc') (slots + ms') (pc + 3) lv (v.toList ++ rest) w) : jJ p l e R s m args below meth c E A nL Q cells slots pc lv st ws := by
  intro H locs ls hP hD hS hlv
  have hR := C.2.2.2.2.2.2.2.2.2.2.1
  have hts := C.2.2.2.2.1
  obtain ⟨h1, h2, h3, h4, h5⟩ := ok.1
  obtain ⟨cC, hat⟩ := classAt_of (hts _ hins)
  refine j_runR (va_runSU (As := As) (rest := rest) (C := Cn) (b := a) (own := y.cls) (n := n) hat ⟨C.1, C.2.1, C.2.2.1, C.2.2.2.1, hts⟩ hM.met ⟨⟨rfl, rfl, ?_, ?_, j_pay hts h1, List.mem_cons_self⟩, hts _ hl, hts _ hsm, hts _ hsup, hts _ ok.2, hts _ h2, hts _ h1, hno, fun sig h => ?_⟩ ⟨jPre.blind, va_recv C.2.2.2.2.2.2.2.2.1.1.1 hP hc he, j_pre C hP hD hS⟩ rfl hn hlv.1 hst (lv_room hcat) hdec (by rw [hR]; exact hb)) hS hlv kk
  · rw [hR]
    show d' + 6 + 1 ≤ d + 6
    omega
  · rw [hR]
    show 8 + (nL' + 11) + (40 * d' + 100) ≤ 40 * d + 100
    omega
  · rw [h] at h4
    exact (Option.some.inj h4).symm
/-- byte answers -/
theorem j_bret (C : jC p l e R s m args below meth c y cc nL ret d mc ms E A) (hQ : Q = vx_MQ below (jQ E A post) (jX E A px) args s mc ms A) {v : Int32} (hr : ret = some .byte) (hn : narrow .byte (.int v) = .int v) (hd : decode cc pc = .ok (.ireturn, 1)) (hb : cells ≤ mc ∧ slots ≤ ms) (hp : post (some (.int v)) ws) : jJ p l e R s m args below meth c E A nL Q cells slots pc lv [.int v] ws := by
  subst hQ
  exact fun _ _ _ hP hD hS _ => vx_ret (W.widen hb.1 hb.2 (W.zret (hlocks := C.2.2.2.2.2.2.1) C.1 C.2.1 (C.2.2.2.2.2.1.trans hr) hn (fun t ht _ => ⟨⟨_, ws, rfl, hp, by rw [ht]; exact hP, hD⟩, hS.F ht⟩) hS.2.2 hd))
/-- the literal "" of the reference -/
theorem j_ldcE (C : jC p l e R s m args below meth c y cc nL ret d mc ms E A) (hy : y.cls = "CheckdeskModel") (hd : decode cc pc = .ok (.ldc 33, 2)) (kk : jJ p l e R s m args below meth c E A nL Q cells slots (pc + 2) lv (.ref E.2.2.2.2.1 :: rest) ws) : jJ p l e R s m args below meth c E A nL Q cells slots pc lv rest ws := by
  intro _ _ _ hP hD hS hl
  exact va_ldcS C.1 C.2.1 C.2.2.2.1 (by rw [hy]; exact C.2.2.2.2.2.2.2.2.1.2.2.2.2.2.2.2.2.2.2.2.1.1) hd (kk _ _ _ hP hD hS hl)
end JST
theorem jMet.post {l : Launch} {y : MethodName} {b : ByteArray} {nL : Nat} {ret : Option FieldType} {d mc ms : Nat} {E : jE} {A : Nat → Prop} {av : List Value} {ws : va_W} {post post' : Option Value → va_W → Prop} {px : String → va_W → Prop} (h : jMet l y b nL ret d mc ms E A av ws post px) (hp : ∀ vv ww, post vv ww → post' vv ww) : jMet l y b nL ret d mc ms E A av ws post' px := by
  intro p e h1 h2 h3 s m args below h4 h5 h6 h7
  obtain ⟨n, o, a1, a2, a3, a4⟩ := h p e h1 h2 h3 s m args below h4 h5 h6 h7
  refine ⟨n, o, a1, a2, a3, ?_⟩
  rcases a4 with ⟨⟨⟨v, w, e1, e2, e3, e4⟩, hF⟩, hL⟩ | a4
  · exact Or.inl ⟨⟨⟨v, w, e1, hp _ _ e2, e3, e4⟩, hF⟩, hL⟩
  · exact Or.inr a4
