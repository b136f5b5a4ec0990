/-! the walk from the law's entry -/
theorem whole_start {p : Program} {e : Env} {s : State} {m : MethodId} {below : List Frame} {meth : Method} {c : Code} (l : Launch) (hflags : l.flags = flags0) {b L : Nat} {xs : Nat → Int32} (hL : L ≤ 2560) (C0 : lw_At p s m meth c b L xs) : W p l e room_1 s m #[Value.ref b] below meth c s.heap [] 0 0 (lw_Z below #[Value.ref b] s) (entryFrame m ([Value.ref b] : List Value).toArray 7) := by
  obtain ⟨hx, hb, hr, hml, hown, hts, hX, hbl, hlocks, hgv, hname⟩ := C0
  obtain ⟨E, hG⟩ := G_start hts (flat_of_before _ hgv)
  have hl : l.stackTraces = false := by
    rw [Launch.stackTraces, hflags]
    decide +kernel
  have C : jC p l e (jRm 2000 601024 7293034) s m #[Value.ref b] below meth c x code 7 ret 2000 601024 7293034 E (fun q => s.heap.size ≤ q) := ⟨hx, hb, hml, hown, jTg_at hts, hr, hlocks, fun _ _ => rfl, hG, fun q h => h, rfl, hname⟩
  have J : jJ p l e (jRm 2000 601024 7293034) s m #[Value.ref b] below meth c E (fun q => s.heap.size ≤ q) 7 (lw_Z below #[Value.ref b] s) 0 0 0 [(0, .ref b)] [] [] := by
    refine law_made l E _ C (by decide) (by decide) fun t sz sg la dk ot mo ou r hr9 => ?_
    refine law_loop l hl E _ C hX hbl (fun h => absurd (show s.heap.size ≤ b from h) (by omega)) hL (by decide) (by decide) (fun q z g bb cr ca cg ck on os th ro LL ff hq => ?_) 512 0 (fun _ => 0) (fun _ => 0) (fun _ => 0) (nI 0) (nI 0) (nI 0) (nI 0) 0 .null (nI 0) (ro0 r) (L0 r) (ff0 E r) (by omega) (by omega) (rel_start E hr9)
    refine j_iconst (v := 1) C dL_law_1680 rfl ?_
    intro H locs ls hP hD hS hlv
    exact W.widen (k := 601024) (n := 7293034) (by omega) (by omega) (lw_end hx hb hr hlocks (fun q h => hS.2.2 q h) dL_law_1681)
  refine jWR (R' := jRm 2000 601024 7293034) (by decide) (by decide) (by decide) (by decide) ?_
  rw [lg_entry_eq]
  exact J s.heap [] _ (fun k q h => by simp at h) ⟨fun i j p q h => by simp at h, fun k q h => by simp at h⟩ va_S.rf (lv_entry [Value.ref b] (Nat.le_of_ble_eq_true rfl))
