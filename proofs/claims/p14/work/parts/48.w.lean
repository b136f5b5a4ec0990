/-! the compared step -/
section JGN
variable {p : Program} {l : Launch} {e : Env} {R : Room} {s : State} {m : MethodId} {args : Array Value} {below : List Frame} {meth : Method} {c : Code} {y : MethodName} {cc : ByteArray} {nL : Nat} {ret : Option FieldType} {d mc ms : Nat} {E : jE} {A : Nat → Prop} {Q : State → Prop} {cells slots pc : Nat} {lv : List (Nat × Value)} {rest st : List Value} {ws : va_W}
theorem j_getN (C : jC p l e R s m args below meth c y cc nL ret d mc ms E A) {a : Nat} {T : u_T} {N ci i : Nat} {Cn host : String} (q0 : Nat) {fs : List Value} (he : ws[q0]? = some (a, .inr (ci, fs))) (hin : ∀ w ∈ u_ws Cn T N, w ∈ jTg) (hc : vwCl[ci]? = some (Cn, T, N)) (k : Nat) (hk : k < N) (hlink : (y.cls, i, (T k).1, (T k).2.1, (T k).2.2.1, host) ∈ jNestF) {v : Value} (hv : fs[k]? = some v) (hd : decode cc pc = .ok (.getfield i, 3)) (kk : jJ p l e R s m args below meth c E A nL Q cells slots (pc + 3) lv (v :: rest) ws) : jJ p l e R s m args below meth c E A nL Q cells slots pc lv (.ref a :: rest) ws :=
  fun _ _ _ hP hD hS hl => va_getN C.1 C.2.1 C.2.2.2.2.1 hin C.2.2.2.1 C.2.2.2.2.2.2.2.2.1.1.1 hP q0 he hc k hk (va_Nw.use rfl (C.2.2.2.2.2.2.2.2.1.2.2.2.2.2.2.2.2.1 _ hlink)) (fun _ h => h) hv hd (kk _ _ _ hP hD hS hl)
end JGN
theorem m64 (x : Int32) : (x.toInt64 * 4294967296).toInt = x.toInt * 4294967296 := by
  have b := bd32 x
  rw [Int64.toInt_mul, Int32.toInt_toInt64, show (4294967296 : Int64).toInt = 4294967296 from rfl]
  exact Int.bmod_eq_of_le (by omega) (by omega)
theorem far_lt (x y : Int32) : x.toInt64 * 4294967296 < y.toInt64 * 4294967296 ↔ x.toInt < y.toInt := by rw [Int64.lt_iff_toInt_lt, m64, m64]; omega
theorem far_le (x y : Int32) : x.toInt64 * 4294967296 ≤ y.toInt64 * 4294967296 ↔ x.toInt ≤ y.toInt := by rw [Int64.le_iff_toInt_le, m64, m64]; omega
theorem far_0 (x : Int32) : x.toInt64 * 4294967296 < 0 ↔ x.toInt < 0 := by rw [Int64.lt_iff_toInt_lt, m64, show (0 : Int64).toInt = 0 from rfl]; omega
theorem far_place (x y : Int32) : (¬ (x.toInt64 * 4294967296) < 0 ∧ ¬ (y.toInt64 * 4294967296) ≤ (x.toInt64 * 4294967296)) ↔ (¬ x < 0 ∧ ¬ y ≤ x) := by
  rw [far_0, far_le, Int32.le_iff_toInt_le, Int32.lt_iff_toInt_lt]; exact Iff.rfl
theorem far_span (x y w : Int32) : (¬ (x.toInt64 * 4294967296) < 0 ∧ ¬ (y.toInt64 * 4294967296) < (x.toInt64 * 4294967296) ∧ ¬ (w.toInt64 * 4294967296) < (y.toInt64 * 4294967296)) ↔ (¬ x.toInt64 < 0 ∧ ¬ y.toInt64 < x.toInt64 ∧ ¬ w.toInt64 < y.toInt64) := by
  rw [far_0, far_lt, far_lt, z64, l64, l64]
theorem far_stretch (x y w : Int32) : (¬ (x.toInt64 * 4294967296) < 0 ∧ ¬ (y.toInt64 * 4294967296) < 0 ∧ ¬ (w.toInt64 * 4294967296) < 0 ∧ ¬ (w.toInt64 * 4294967296) - (y.toInt64 * 4294967296) < (x.toInt64 * 4294967296)) ↔ (¬ x.toInt64 < 0 ∧ ¬ y.toInt64 < 0 ∧ ¬ w.toInt64 < 0 ∧ ¬ w.toInt64 < x.toInt64 + y.toInt64) := by
  have b := bd32 x
  have c := bd32 y
  have d := bd32 w
  rw [far_0, far_0, far_0, z64, z64, z64]
  have e2 : (x.toInt64 + y.toInt64).toInt = x.toInt + y.toInt := by
    rw [Int64.toInt_add, Int32.toInt_toInt64, Int32.toInt_toInt64]; exact Int.bmod_eq_of_le (by omega) (by omega)
  have e4 : (w.toInt64 < x.toInt64 + y.toInt64) ↔ w.toInt < x.toInt + y.toInt := by rw [Int64.lt_iff_toInt_lt, e2, Int32.toInt_toInt64]
  by_cases h : ¬ x.toInt < 0 ∧ ¬ y.toInt < 0 ∧ ¬ w.toInt < 0
  · have e1 : (w.toInt64 * 4294967296 - y.toInt64 * 4294967296).toInt = w.toInt * 4294967296 - y.toInt * 4294967296 := by
      rw [Int64.toInt_sub, m64, m64]; exact Int.bmod_eq_of_le (by omega) (by omega)
    have e3 : (w.toInt64 * 4294967296 - y.toInt64 * 4294967296 < x.toInt64 * 4294967296) ↔ w.toInt < x.toInt + y.toInt := by
      rw [Int64.lt_iff_toInt_lt, e1, m64]; omega
    rw [e3, e4]
  · exact ⟨fun q => absurd ⟨q.1, q.2.1, q.2.2.1⟩ h, fun q => absurd ⟨q.1, q.2.1, q.2.2.1⟩ h⟩
