/-! contracts, laid by program (wip/gen) -/
set_option maxHeartbeats 4000000 in
set_option maxRecDepth 100000 in
theorem law_made (l : Launch) (E : jE) (A : Nat → Prop) {p : Program} {e : Env} {R : Room} {s : State} {m : MethodId} {args : Array Value} {below : List Frame} {meth : Method} {c : Code} {Q : State → Prop} {mc ms bs : Nat} (C : jC p l e R s m args below meth c x code 7 ret 2000 mc ms E A) (hmc : 40 ≤ mc) (hms : 400 ≤ ms) (kk : ∀ (t sz sg la dk ot mo ou : Nat) (r : Nat → Nat), (∀ i j : Nat, i < 9 → j < 9 → r i = r j → i = j) → jJ p l e R s m args below meth c E A 7 Q 40 400 27 [(4, .int (nI 0)), (3, .ref ot), (2, .ref mo), (1, .ref dk), (0, .ref bs)] [] (gW E t sz sg la dk ot mo ou (fun _ => 0) (fun _ => 0) (fun _ => 0) (nI 0) (nI 0) (nI 0) (nI 0) 0 .null (nI 0) (nI 0) (nI 0) (nI 0) (nI 0) (ro0 r) (L0 r) (ff0 E r))) : jJ p l e R s m args below meth c E A 7 Q 0 0 0 [(0, .ref bs)] [] ([]) := by
  refine j_new C (ci := 3) (fs := [.null, .int (nI 0), .int (nI 0), .int (nI 0), .int (nI 0)]) inj_X3 tyX3 tyX3_ok w_48 w_49 w_25 rfl (by decide) (by omega) (by omega) dL_law_0 (fun o1 => ?_)
  refine j_front ?_
  refine j_dup C dL_law_3 rfl ?_
  refine j_callI C (c_deskInit l E A) ok_X3_init w_50 (by decide) rfl rfl (Nat.le_of_ble_eq_true rfl) ⟨by omega, by omega⟩ dL_law_4 (fun _ _ h => ?_)
  obtain ⟨t, sz, sg, la, rfl, rfl⟩ := h
  refine j_astore_n (lv' := [(1, .ref o1), (0, .ref bs)]) C dL_law_7 (by decide) rfl ?_
  refine j_new C (ci := 5) (fs := [.int (nI 0), .null, .int (nI 0), .int (nI 0), .int (nI 0), .int (nI 0)]) inj_X5 tyX5 tyX5_ok w_913 w_914 w_27 rfl (by decide) (by omega) (by omega) dL_law_8 (fun o2 => ?_)
  refine j_front ?_
  refine j_dup C dL_law_11 rfl ?_
  refine j_callI C (c_modelInit l E A) ok_X5_init w_915 (by decide) rfl rfl (Nat.le_of_ble_eq_true rfl) ⟨by omega, by omega⟩ dL_law_12 (fun _ _ h => ?_)
  obtain ⟨ou, r, hr, rfl, rfl⟩ := h
  refine j_astore_n (lv' := [(2, .ref o2), (1, .ref o1), (0, .ref bs)]) C dL_law_15 (by decide) rfl ?_
  refine j_new C (ci := 4) (fs := [.long 0, .null]) inj_X4 tyX4 tyX4_ok w_249 w_250 w_28 rfl (by decide) (by omega) (by omega) dL_law_16 (fun o3 => ?_)
  refine j_front ?_
  refine j_dup C dL_law_19 rfl ?_
  refine j_callIN C (c_outInit l E A) ok_X4_init (List.mem_of_getElem? (i := 1) rfl) (by decide) rfl rfl (Nat.le_of_ble_eq_true rfl) ⟨by omega, by omega⟩ dL_law_20 (fun _ _ h => ?_)
  obtain ⟨rfl, rfl⟩ := h
  refine j_astore_n (lv' := [(3, .ref o3), (2, .ref o2), (1, .ref o1), (0, .ref bs)]) C dL_law_23 (by decide) rfl ?_
  refine j_iconst (v := (nI 0)) C dL_law_24 rfl ?_
  refine j_istore (lv' := [(4, .int (nI 0)), (3, .ref o3), (2, .ref o2), (1, .ref o1), (0, .ref bs)]) C dL_law_25 (by decide) rfl ?_
  refine j_perm (pre := [(o3, .inr (4, [.long 0, .null])), (o2, .inr (5, [.int (nI 0), .ref ou, .int (nI 0), .int (nI 0), .int (nI 0), .int (nI 0)])), (t, .inr (2, [.ref sz, .ref sg, .ref la])), (sz, .inl (E.2.1, 9, .inl (fun _ => 0))), (sg, .inl (E.2.1, 216, .inl (fun _ => 0))), (la, .inl (E.2.1, 24, .inl (fun _ => 0))), (o1, .inr (3, [.ref t, .int (nI 0), .int (nI 0), .int (nI 0), .int (nI 0)])), (ou, .inl (E.2.2.2.1, 9, .inr (.inr (.inr (.inr (ro0 r))))))]) (pre' := [(t, .inr (2, [.ref sz, .ref sg, .ref la])), (sz, .inl (E.2.1, 9, .inl (fun _ => 0))), (sg, .inl (E.2.1, 216, .inl (fun _ => 0))), (la, .inl (E.2.1, 24, .inl (fun _ => 0))), (o1, .inr (3, [.ref t, .int (nI 0), .int (nI 0), .int (nI 0), .int (nI 0)])), (o3, .inr (4, [.long 0, .null])), (o2, .inr (5, [.int (nI 0), .ref ou, .int (nI 0), .int (nI 0), .int (nI 0), .int (nI 0)])), (ou, .inl (E.2.2.2.1, 9, .inr (.inr (.inr (.inr (ro0 r))))))]) (tl := va_pl (L0 r) (ff0 E r)) [2, 3, 4, 5, 6, 0, 1, 7] rfl (by decide) ?_
  refine j_lv (lv' := [(4, .int (nI 0)), (3, .ref o3), (2, .ref o2), (1, .ref o1), (0, .ref bs)]) (by simp only [List.mem_cons, List.not_mem_nil, or_false, forall_eq_or_imp, forall_eq, true_or, or_true, and_self, Nat.add_zero]) ?_
  refine j_widen (k := 40) (n := 400) (by omega) (by omega) ?_
  exact kk t sz sg la o1 o3 o2 ou r hr
