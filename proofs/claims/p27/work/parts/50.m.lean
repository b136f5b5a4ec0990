/-! contracts, laid by program (wip/gen) -/
set_option maxHeartbeats 4000000 in
set_option maxRecDepth 100000 in
theorem c_textsInit (l : Launch) (E : jE) (A : Nat → Prop) {ws : va_W} {t : Nat} : jMet l yX2_init cX2_init 1 (none : Option Jvm.ClassFile.FieldType) 0 3 249 E A [.ref t] ((t, .inr (2, [.null, .null, .null])) :: ws) (fun vv ww => ∃ sz sg la : Nat, vv = none ∧ ww = ((t, .inr (2, [.ref sz, .ref sg, .ref la])) :: (sz, .inl (E.2.1, 9, .inl (fun _ => 0))) :: (sg, .inl (E.2.1, 216, .inl (fun _ => 0))) :: (la, .inl (E.2.1, 24, .inl (fun _ => 0))) :: ws)) jNo := by
  refine jMet.intro' [(0, .ref t)] (by decide) (Nat.le_of_ble_eq_true rfl) rfl ?_
  intro p e R s m args below meth c Q C hQ
  refine j_aload_n C dX2_init_0 rfl ?_
  refine j_objInit C w_61 w_54 w_55 (Nat.le_of_ble_eq_true rfl) dX2_init_1 ?_
  refine j_aload_n C dX2_init_4 rfl ?_
  refine j_bipush (v := (nI 9)) C dX2_init_5 rfl ?_
  refine j_newI C 9 w_72 rfl (by omega) (by omega) (by omega) dX2_init_7 (fun v1 => ?_)
  refine j_front ?_
  refine j_putF (ws' := ((v1, .inl (E.2.1, 9, .inl (fun _ => 0))) :: (t, .inr (2, [.ref v1, .null, .null])) :: ws)) C 1 rfl inj_X2 tyX2 tyX2_ok nmX2 rfl 0 (by decide) w_62 rfl rfl rfl (tyX2_ok 0 (by decide)) rfl rfl (Nat.le_of_ble_eq_true rfl) dX2_init_9 rfl ?_
  refine j_aload_n C dX2_init_12 rfl ?_
  refine j_sipush (v := nI 216) C dX2_init_13 rfl ?_
  refine j_newI C 216 w_72 rfl (by omega) (by omega) (by omega) dX2_init_16 (fun v2 => ?_)
  refine j_front ?_
  refine j_putF (ws' := ((v2, .inl (E.2.1, 216, .inl (fun _ => 0))) :: (v1, .inl (E.2.1, 9, .inl (fun _ => 0))) :: (t, .inr (2, [.ref v1, .ref v2, .null])) :: ws)) C 2 rfl inj_X2 tyX2 tyX2_ok nmX2 rfl 1 (by decide) w_63 rfl rfl rfl (tyX2_ok 1 (by decide)) rfl rfl (Nat.le_of_ble_eq_true rfl) dX2_init_18 rfl ?_
  refine j_aload_n C dX2_init_21 rfl ?_
  refine j_bipush (v := (nI 24)) C dX2_init_22 rfl ?_
  refine j_newI C 24 w_72 rfl (by omega) (by omega) (by omega) dX2_init_24 (fun v3 => ?_)
  refine j_front ?_
  refine j_putF (ws' := ((v3, .inl (E.2.1, 24, .inl (fun _ => 0))) :: (v2, .inl (E.2.1, 216, .inl (fun _ => 0))) :: (v1, .inl (E.2.1, 9, .inl (fun _ => 0))) :: (t, .inr (2, [.ref v1, .ref v2, .ref v3])) :: ws)) C 3 rfl inj_X2 tyX2 tyX2_ok nmX2 rfl 2 (by decide) w_64 rfl rfl rfl (tyX2_ok 2 (by decide)) rfl rfl (Nat.le_of_ble_eq_true rfl) dX2_init_26 rfl ?_
  refine j_perm (pre := [(v3, .inl (E.2.1, 24, .inl (fun _ => 0))), (v2, .inl (E.2.1, 216, .inl (fun _ => 0))), (v1, .inl (E.2.1, 9, .inl (fun _ => 0))), (t, .inr (2, [.ref v1, .ref v2, .ref v3]))]) (pre' := [(t, .inr (2, [.ref v1, .ref v2, .ref v3])), (v1, .inl (E.2.1, 9, .inl (fun _ => 0))), (v2, .inl (E.2.1, 216, .inl (fun _ => 0))), (v3, .inl (E.2.1, 24, .inl (fun _ => 0)))]) (tl := ws) [3, 2, 1, 0] rfl (by decide) ?_
  exact j_vret C hQ rfl dX2_init_29 ⟨Nat.le_of_ble_eq_true rfl, Nat.le_of_ble_eq_true rfl⟩ ⟨_, _, _, rfl, rfl⟩
set_option maxHeartbeats 4000000 in
set_option maxRecDepth 100000 in
theorem c_deskInit (l : Launch) (E : jE) (A : Nat → Prop) {ws : va_W} {dk : Nat} : jMet l yX3_init cX3_init 1 (none : Option Jvm.ClassFile.FieldType) 1 4 252 E A [.ref dk] ((dk, .inr (3, [.null, .int (nI 0), .int (nI 0), .int (nI 0), .int (nI 0)])) :: ws) (fun vv ww => ∃ t sz sg la : Nat, vv = none ∧ ww = ((t, .inr (2, [.ref sz, .ref sg, .ref la])) :: (sz, .inl (E.2.1, 9, .inl (fun _ => 0))) :: (sg, .inl (E.2.1, 216, .inl (fun _ => 0))) :: (la, .inl (E.2.1, 24, .inl (fun _ => 0))) :: (dk, .inr (3, [.ref t, .int (nI 0), .int (nI 0), .int (nI 0), .int (nI 0)])) :: ws)) jNo := by
  refine jMet.intro' [(0, .ref dk)] (by decide) (Nat.le_of_ble_eq_true rfl) rfl ?_
  intro p e R s m args below meth c Q C hQ
  refine j_aload_n C dX3_init_0 rfl ?_
  refine j_objInit C w_53 w_54 w_55 (Nat.le_of_ble_eq_true rfl) dX3_init_1 ?_
  refine j_aload_n C dX3_init_4 rfl ?_
  refine j_new C (ci := 2) (fs := [.null, .null, .null]) inj_X2 tyX2 tyX2_ok w_56 w_57 w_26 rfl (by decide) (by omega) (by omega) dX3_init_5 (fun o1 => ?_)
  refine j_front ?_
  refine j_dup C dX3_init_8 rfl ?_
  refine j_callIN C (c_textsInit l E A) ok_X2_init (List.mem_of_getElem? (i := 0) rfl) (by decide) rfl rfl (Nat.le_of_ble_eq_true rfl) ⟨Nat.le_of_ble_eq_true rfl, Nat.le_of_ble_eq_true rfl⟩ dX3_init_9 (fun _ _ h => ?_)
  obtain ⟨sz, sg, la, rfl, rfl⟩ := h
  refine j_putF (ws' := ((o1, .inr (2, [.ref sz, .ref sg, .ref la])) :: (sz, .inl (E.2.1, 9, .inl (fun _ => 0))) :: (sg, .inl (E.2.1, 216, .inl (fun _ => 0))) :: (la, .inl (E.2.1, 24, .inl (fun _ => 0))) :: (dk, .inr (3, [.ref o1, .int (nI 0), .int (nI 0), .int (nI 0), .int (nI 0)])) :: ws)) C 4 rfl inj_X3 tyX3 tyX3_ok nmX3 rfl 0 (by decide) w_73 rfl rfl rfl (tyX3_ok 0 (by decide)) rfl rfl (Nat.le_of_ble_eq_true rfl) dX3_init_12 rfl ?_
  exact j_vret C hQ rfl dX3_init_15 ⟨Nat.le_of_ble_eq_true rfl, Nat.le_of_ble_eq_true rfl⟩ ⟨_, _, _, _, rfl, rfl⟩
set_option maxHeartbeats 4000000 in
set_option maxRecDepth 100000 in
theorem c_outInit (l : Launch) (E : jE) (A : Nat → Prop) {ws : va_W} {ot : Nat} : jMet l yX4_init cX4_init 1 (none : Option Jvm.ClassFile.FieldType) 0 0 0 E A [.ref ot] ((ot, .inr (4, [.long 0, .null])) :: ws) (jR none ((ot, .inr (4, [.long 0, .null])) :: ws)) jNo := by
  refine jMet.intro' [(0, .ref ot)] (by decide) (Nat.le_of_ble_eq_true rfl) rfl ?_
  intro p e R s m args below meth c Q C hQ
  refine j_aload_n C dX4_init_0 rfl ?_
  refine j_objInit C w_254 w_54 w_55 (Nat.le_of_ble_eq_true rfl) dX4_init_1 ?_
  exact j_vret C hQ rfl dX4_init_4 ⟨Nat.le_of_ble_eq_true rfl, Nat.le_of_ble_eq_true rfl⟩ ⟨rfl, rfl⟩
