/-! rows over a world with a pool behind it: XX ++ va_pl LL ff -/
theorem pool_at {XX : va_W} {LL : List Nat} {ff : Nat → va_E} {a : Nat} {x : va_E} (ha : a ∈ LL) (hf : ff a = x) : ∃ k : Nat, (XX ++ va_pl LL ff)[k]? = some (a, x) := by
  obtain ⟨k, hk⟩ := va_pl_get (X := XX) (f := ff) ha
  exact ⟨k, by rw [hk, hf]⟩
theorem pool_ne {LL : List Nat} {a q : Nat} (ha : a ∈ LL) (hq : q ∉ LL) : a ≠ q := fun z => hq (z ▸ ha)
theorem pool_keep {LL : List Nat} {ff : Nat → va_E} {a q : Nat} {x y : va_E} (ha : a ∈ LL) (hq : q ∉ LL) (hf : ff a = x) : va_up ff q y a = x := (if_neg (pool_ne ha hq)).trans hf
theorem pool_keep2 {ff : Nat → va_E} {a q : Nat} {x y : va_E} (hne : a ≠ q) (hf : ff a = x) : va_up ff q y a = x := (if_neg hne).trans hf
theorem pool_new {ff : Nat → va_E} {q : Nat} {y : va_E} : va_up ff q y q = y := if_pos rfl
theorem pool_newm {LL : List Nat} {q : Nat} : q ∈ LL ++ [q] := List.mem_append_right _ (List.mem_singleton_self q)
theorem pool_old {LL : List Nat} {a q : Nat} (h : a ∈ LL) : a ∈ LL ++ [q] := List.mem_append_left _ h
theorem pool_up2 (ff : Nat → va_E) (q : Nat) (y y' : va_E) : va_up (va_up ff q y) q y' = va_up ff q y' := by
  funext j
  unfold va_up
  split <;> rfl
/-- a fresh row of numbers, n of h -/
def jFresh (E : jE) (XX : va_W) (LL : List Nat) (ff : Nat → va_E) (n : Nat) (h : Nat → Int32) : Option Value → va_W → Prop := fun v w => ∃ q : Nat, q ∉ LL ∧ v = some (.ref q) ∧ w = XX ++ va_pl (LL ++ [q]) (va_up ff q (.inl (E.2.1, n, .inl h)))
section JPL
variable {p : Program} {l : Launch} {e : Env} {R : Room} {s : State} {m : MethodId} {args : Array Value} {below : List Frame} {meth : Method} {c : Code} {y : MethodName} {cc : ByteArray} {nL : Nat} {ret : Option FieldType} {d mc ms : Nat} {E : jE} {A : Nat → Prop} {Q : State → Prop} {cells slots pc : Nat} {lv : List (Nat × Value)} {rest st : List Value}
variable {XX : va_W} {LL : List Nat} {ff : Nat → va_E} {a n : Nat} {h : Nat → Int32} {i z : Int32}
theorem j_ialoadP (C : jC p l e R s m args below meth c y cc nL ret d mc ms E A) (k : Nat) (ha : a ∈ LL) (hf : ff a = .inl (E.2.1, n, .inl h)) (hi : i = nI k) (hk : k < n) (hn : n < 2 ^ 31) (hz : h k = z) (hd : decode cc pc = .ok (.iaload, 1)) (kk : jJ p l e R s m args below meth c E A nL Q cells slots (pc + 1) lv (.int z :: rest) (XX ++ va_pl LL ff)) : jJ p l e R s m args below meth c E A nL Q cells slots pc lv (.int i :: .ref a :: rest) (XX ++ va_pl LL ff) := by
  obtain ⟨q0, he⟩ := pool_at (XX := XX) ha hf
  exact j_iaload C q0 k he hi hk hn hz hd kk
theorem j_alenP (C : jC p l e R s m args below meth c y cc nL ret d mc ms E A) (ha : a ∈ LL) (hf : ff a = .inl (E.2.1, n, .inl h)) (hd : decode cc pc = .ok (.arraylength, 1)) (kk : jJ p l e R s m args below meth c E A nL Q cells slots (pc + 1) lv (.int (nI n) :: rest) (XX ++ va_pl LL ff)) : jJ p l e R s m args below meth c E A nL Q cells slots pc lv (.ref a :: rest) (XX ++ va_pl LL ff) := by
  obtain ⟨q0, he⟩ := pool_at (XX := XX) ha hf
  exact j_alen C q0 0 he rfl rfl hd kk
theorem j_iastoreP (C : jC p l e R s m args below meth c y cc nL ret d mc ms E A) {x : Int32} {h' : Nat → Int32} (k : Nat) (ha : a ∈ LL) (hf : ff a = .inl (E.2.1, n, .inl h)) (hi : i = nI k) (hk : k < n) (hn : n < 2 ^ 31) (hd : decode cc pc = .ok (.iastore, 1)) (hh : upd h k x = h') (kk : jJ p l e R s m args below meth c E A nL Q cells slots (pc + 1) lv rest (XX ++ va_pl LL (va_up ff a (.inl (E.2.1, n, .inl h'))))) : jJ p l e R s m args below meth c E A nL Q cells slots pc lv (.int x :: .int i :: .ref a :: rest) (XX ++ va_pl LL ff) := by
  subst hh
  intro H locs ls hP hD hS hl
  obtain ⟨q0, he⟩ := pool_at (XX := XX) ha hf
  have he' : (XX ++ va_pl LL ff)[q0]? = some (a, ff a) := by rw [he, hf]
  exact j_iastore C q0 k he hi hk hn hd (va_pl_set hD ha he') kk H locs ls hP hD hS hl
theorem pool_fresh {q : Nat} {x : va_E} (hD : va_D A ((XX ++ va_pl LL ff) ++ [(q, x)])) : q ∉ LL := by
  intro hq
  obtain ⟨k, hk⟩ := va_pl_get (X := XX) (f := ff) hq
  have hlt := (List.getElem?_eq_some_iff.mp hk).1
  have h1 : ((XX ++ va_pl LL ff) ++ [(q, x)])[k]? = some (q, ff q) := by rw [List.getElem?_append_left hlt]; exact hk
  have h2 : ((XX ++ va_pl LL ff) ++ [(q, x)])[(XX ++ va_pl LL ff).length]? = some (q, x) := by rw [List.getElem?_append_right (Nat.le_refl _), Nat.sub_self]; rfl
  have := hD.1 k _ _ _ h1 h2 rfl
  omega
theorem j_newIP (C : jC p l e R s m args below meth c y cc nL ret d mc ms E A) {n : Int32} (k : Nat) (harr : Cond.arrayClass .int ∈ jTg) (hn : n = nI k) (hk : k < 2 ^ 24) (hcells : cells + 1 ≤ mc) (hslots : slots + k ≤ ms) (hd : decode cc pc = .ok (.newarray .int, 2))
    (kk : ∀ q : Nat, q ∉ LL → jJ p l e R s m args below meth c E A nL Q (cells + 1) (slots + k) (pc + 2) lv (.ref q :: rest) (XX ++ va_pl (LL ++ [q]) (va_up ff q (.inl (E.2.1, k, .inl (fun _ => 0)))))) : jJ p l e R s m args below meth c E A nL Q cells slots pc lv (.int n :: rest) (XX ++ va_pl LL ff) :=
  j_newI C k harr hn hk hcells hslots hd (fun q H locs ls hP hD hS hl => by
    have hq : q ∉ LL := pool_fresh hD
    have e : (XX ++ va_pl LL ff) ++ [(q, .inl (E.2.1, k, .inl (fun _ => 0)))] = XX ++ va_pl (LL ++ [q]) (va_up ff q (.inl (E.2.1, k, .inl (fun _ => 0)))) := by rw [List.append_assoc, va_pl_push hq]
    rw [e] at hP hD
    exact kk q hq H locs ls hP hD hS hl)
theorem j_aastoreP (C : jC p l e R s m args below meth c y cc nL ret d mc ms E A) {o nr v : Nat} {f : Nat → Option Nat} {ws' : va_W} (q0 k : Nat) (he : (XX ++ va_pl LL ff)[q0]? = some (o, .inl (E.2.2.2.1, nr, .inr (.inr (.inr (.inr f)))))) (ha : v ∈ LL) (hf : ff v = .inl (E.2.1, n, .inl h)) (hi : i = nI k) (hk : k < nr) (hn : nr < 2 ^ 31) (hd : decode cc pc = .ok (.aastore, 1)) (hws : (XX ++ va_pl LL ff).set q0 (o, .inl (E.2.2.2.1, nr, .inr (.inr (.inr (.inr (va_up f k (some v))))))) = ws') (kk : jJ p l e R s m args below meth c E A nL Q cells slots (pc + 1) lv rest ws') : jJ p l e R s m args below meth c E A nL Q cells slots pc lv (.ref v :: .int i :: .ref o :: rest) (XX ++ va_pl LL ff) := by
  obtain ⟨qk, hv⟩ := pool_at (XX := XX) ha hf
  exact j_aastore C (x := (n, .inl h)) q0 qk k he hv hi hk hn hd hws kk
variable {y' : MethodName} {b' : ByteArray} {nL' : Nat} {ret' : Option FieldType} {d' mc' ms' n' j : Nat} {As : List Value} {ws : va_W}
/-- a static call that answers a fresh row -/
theorem j_callSf (C : jC p l e R s m args below meth c y cc nL ret d mc ms E A) (hM : jMet l y' b' nL' ret' d' mc' ms' E A As ws (jFresh E XX LL ff n h) jNo) (ok : jVokS y' b' nL' ret' n') (hl : Cond.methodLink y.cls j y' ∈ jTg) (hd : d' < d) (hn : As.length = n') (hst : st = As.reverse ++ rest) (hcat : (rest.map fun v => v.category).sum ≤ 8) (hb : cells + mc' ≤ mc ∧ slots + ms' ≤ ms) (hdec : decode cc pc = .ok (.invokestatic j, 3))
    (kk : ∀ q, q ∉ LL → jJ p l e R s m args below meth c E A nL Q (cells + mc') (slots + ms') (pc + 3) lv (.ref q :: rest) (XX ++ va_pl (LL ++ [q]) (va_up ff q (.inl (E.2.1, n, .inl h))))) : jJ p l e R s m args below meth c E A nL Q cells slots pc lv st ws :=
  j_callS C hM ok hl hd hn hst hcat hb hdec (fun _ _ h => h.elim) (fun _ _ h => by obtain ⟨q, h1, h2, h3⟩ := h; subst h2; subst h3; exact kk q h1)
end JPL
/-- the reference's world: six cells of others, its own two, the rows -/
abbrev mW (E : jE) (x0 x1 x2 x3 x4 x5 : Nat × va_E) (mo ou : Nat) (th re ak gv kn : Int32) (ro : Nat → Option Nat) (LL : List Nat) (ff : Nat → va_E) : va_W := [x0, x1, x2, x3, x4, x5, (mo, .inr (5, [.int th, .ref ou, .int re, .int ak, .int gv, .int kn])), (ou, .inl (E.2.2.2.1, 9, .inr (.inr (.inr (.inr ro)))))] ++ va_pl LL ff
