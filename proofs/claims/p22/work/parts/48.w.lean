/-! the compared step -/
section JGN
variable {p : Program} {l : Launch} {e : Env} {R : Room} {s : State} {m : MethodId} {args : Array Value} {below : List Frame} {meth : Method} {c : Code} {y : MethodName} {cc : ByteArray} {nL : Nat} {ret : Option FieldType} {d mc ms : Nat} {E : jE} {A : Nat → Prop} {Q : State → Prop} {cells slots pc : Nat} {lv : List (Nat × Value)} {rest st : List Value} {ws : va_W}
theorem j_getN (C : jC p l e R s m args below meth c y cc nL ret d mc ms E A) {a : Nat} {T : u_T} {N ci i : Nat} {Cn host : String} (q0 : Nat) {fs : List Value} (he : ws[q0]? = some (a, .inr (ci, fs))) (hin : ∀ w ∈ u_ws Cn T N, w ∈ jTg) (hc : vwCl[ci]? = some (Cn, T, N)) (k : Nat) (hk : k < N) (hlink : (y.cls, i, (T k).1, (T k).2.1, (T k).2.2.1, host) ∈ jNestF) {v : Value} (hv : fs[k]? = some v) (hd : decode cc pc = .ok (.getfield i, 3)) (kk : jJ p l e R s m args below meth c E A nL Q cells slots (pc + 3) lv (v :: rest) ws) : jJ p l e R s m args below meth c E A nL Q cells slots pc lv (.ref a :: rest) ws :=
  fun _ _ _ hP hD hS hl => va_getN C.1 C.2.1 C.2.2.2.2.1 hin C.2.2.2.1 C.2.2.2.2.2.2.2.2.1.1.1 hP q0 he hc k hk (va_Nw.use rfl (C.2.2.2.2.2.2.2.2.1.2.2.2.2.2.2.2.2.1 _ hlink)) (fun _ h => h) hv hd (kk _ _ _ hP hD hS hl)
end JGN
theorem cmpF_sh {f h : Nat → Int32} {e : Int32} (u : Nat) : ∀ (r k : Nat), cmpF f h e (u + k) r = cmpF (fun q => f (u + q)) (fun q => h (u + q)) e k r
  | 0, _ => rfl
  | r + 1, k => by
    show (if _ then _ else if _ then _ else cmpF f h e (u + k + 1) r) = (if _ then _ else if _ then _ else cmpF _ _ e (k + 1) r)
    rw [show u + k + 1 = u + (k + 1) from rfl, cmpF_sh u r (k + 1)]
theorem parts_eq {g a b : Nat → Int32} {i j u w n o : Nat} (huw : u ≤ w) (hwn : w ≤ n) (hwo : w ≤ o) (hn : n ≤ 24) (ha : ∀ k, k < n → a k = g (i * 24 + k) ∧ isSg (a k)) (hb : ∀ k, k < o → b k = g (j * 24 + k) ∧ isSg (b k)) :
    cmpF (fun q => g (i * 24 + q)) (fun q => g (j * 24 + q)) (smI (nI w) (nI w)) u (min w w - u) = cmpF (pfx (fun q => a (u + q)) (w - u)) (pfx (fun q => b (u + q)) (w - u)) (smI (nI (w - u)) (nI (w - u))) 0 (min (w - u) (w - u) - 0) := by
  rw [smI_e (Nat.le_refl w) (Nat.le_refl w) (by omega), smI_e (Nat.le_refl (w - u)) (Nat.le_refl (w - u)) (by omega), Nat.min_self, Nat.min_self, Nat.sub_zero]
  have e := cmpF_sh (f := fun q => g (i * 24 + q)) (h := fun q => g (j * 24 + q)) (e := nI 0) u (w - u) 0
  rw [Nat.add_zero] at e
  rw [e]
  refine cmpF_congr (w - u) 0 (fun q _ hq => ?_) (fun q _ hq => ?_)
  · show g (i * 24 + (u + q)) = (if q < w - u then a (u + q) else 0)
    rw [if_pos (by omega), (ha (u + q) (by omega)).1]
  · show g (j * 24 + (u + q)) = (if q < w - u then b (u + q) else 0)
    rw [if_pos (by omega), (hb (u + q) (by omega)).1]
