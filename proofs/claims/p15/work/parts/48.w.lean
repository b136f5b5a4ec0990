/-! the compared step -/
section JGN
variable {p : Program} {l : Launch} {e : Env} {R : Room} {s : State} {m : MethodId} {args : Array Value} {below : List Frame} {meth : Method} {c : Code} {y : MethodName} {cc : ByteArray} {nL : Nat} {ret : Option FieldType} {d mc ms : Nat} {E : jE} {A : Nat → Prop} {Q : State → Prop} {cells slots pc : Nat} {lv : List (Nat × Value)} {rest st : List Value} {ws : va_W}
theorem j_getN (C : jC p l e R s m args below meth c y cc nL ret d mc ms E A) {a : Nat} {T : u_T} {N ci i : Nat} {Cn host : String} (q0 : Nat) {fs : List Value} (he : ws[q0]? = some (a, .inr (ci, fs))) (hin : ∀ w ∈ u_ws Cn T N, w ∈ jTg) (hc : vwCl[ci]? = some (Cn, T, N)) (k : Nat) (hk : k < N) (hlink : (y.cls, i, (T k).1, (T k).2.1, (T k).2.2.1, host) ∈ jNestF) {v : Value} (hv : fs[k]? = some v) (hd : decode cc pc = .ok (.getfield i, 3)) (kk : jJ p l e R s m args below meth c E A nL Q cells slots (pc + 3) lv (v :: rest) ws) : jJ p l e R s m args below meth c E A nL Q cells slots pc lv (.ref a :: rest) ws :=
  fun _ _ _ hP hD hS hl => va_getN C.1 C.2.1 C.2.2.2.2.1 hin C.2.2.2.1 C.2.2.2.2.2.2.2.2.1.1.1 hP q0 he hc k hk (va_Nw.use rfl (C.2.2.2.2.2.2.2.2.1.2.2.2.2.2.2.2.2.1 _ hlink)) (fun _ h => h) hv hd (kk _ _ _ hP hD hS hl)
end JGN
theorem place_n {n : Nat} (hn : n ≤ 24) (x : Int32) : (¬ x.toInt64 < 0 ∧ ¬ (nI n).toInt64 ≤ x.toInt64) ↔ (¬ x < nI 0 ∧ ¬ nI n - nI 1 < x) := by
  have e1 : (x < nI 0) ↔ x.toInt < 0 := by rw [Int32.lt_iff_toInt_lt]; exact Iff.rfl
  have e3 : (nI n - nI 1 < x) ↔ (nI n - nI 1).toInt < x.toInt := Int32.lt_iff_toInt_lt
  rw [z64, le64, e1, e3, Int32.toInt_sub, show (nI 1).toInt = 1 from rfl, tonI (by omega), show ((n : Int) - 1).bmod (2 ^ 32) = n - 1 from Int.bmod_eq_of_le (by omega) (by omega)]
  omega
theorem ins_eq {n w : Nat} (hn : n ≤ 24) (hw : w ≤ 2) : insV (nI n) w = insM (nI n) w := by
  have e0 : fP (nI n) = gP (nI n) := funext fun k => decide_eq_decide.mpr (place_n hn (mI k))
  have e1 : fS (nI n) = gS (nI n) := rfl
  have e2 : fT (nI n) = gT (nI n) := funext fun k => funext fun j => decide_eq_decide.mpr (stretch_iff (mI k) (mI j) (nI n))
  unfold insV insM
  rw [e0, e1, e2]
