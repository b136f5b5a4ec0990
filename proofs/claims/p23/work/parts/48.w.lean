/-! the compared step -/
section JGN
variable {p : Program} {l : Launch} {e : Env} {R : Room} {s : State} {m : MethodId} {args : Array Value} {below : List Frame} {meth : Method} {c : Code} {y : MethodName} {cc : ByteArray} {nL : Nat} {ret : Option FieldType} {d mc ms : Nat} {E : jE} {A : Nat → Prop} {Q : State → Prop} {cells slots pc : Nat} {lv : List (Nat × Value)} {rest st : List Value} {ws : va_W}
theorem j_getN (C : jC p l e R s m args below meth c y cc nL ret d mc ms E A) {a : Nat} {T : u_T} {N ci i : Nat} {Cn host : String} (q0 : Nat) {fs : List Value} (he : ws[q0]? = some (a, .inr (ci, fs))) (hin : ∀ w ∈ u_ws Cn T N, w ∈ jTg) (hc : vwCl[ci]? = some (Cn, T, N)) (k : Nat) (hk : k < N) (hlink : (y.cls, i, (T k).1, (T k).2.1, (T k).2.2.1, host) ∈ jNestF) {v : Value} (hv : fs[k]? = some v) (hd : decode cc pc = .ok (.getfield i, 3)) (kk : jJ p l e R s m args below meth c E A nL Q cells slots (pc + 3) lv (v :: rest) ws) : jJ p l e R s m args below meth c E A nL Q cells slots pc lv (.ref a :: rest) ws :=
  fun _ _ _ hP hD hS hl => va_getN C.1 C.2.1 C.2.2.2.2.1 hin C.2.2.2.1 C.2.2.2.2.2.2.2.2.1.1.1 hP q0 he hc k hk (va_Nw.use rfl (C.2.2.2.2.2.2.2.2.1.2.2.2.2.2.2.2.2.1 _ hlink)) (fun _ h => h) hv hd (kk _ _ _ hP hD hS hl)
end JGN
theorem sam_eq {z g : Nat → Int32} {i j : Nat} {P : Prop} [Decidable P] (h : P ↔ samS z g i j = 1) : samS z g i j = bI P := by
  rcases samS_b z g i j with e | e
  · rw [bI_t (h.mpr e), e]
  · rw [bI_f (fun q => absurd (e.symm.trans (h.mp q)) (by decide)), e]
