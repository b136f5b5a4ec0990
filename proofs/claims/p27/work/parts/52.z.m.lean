/-! contracts, laid by program (wip/gen) -/
set_option maxHeartbeats 4000000 in
set_option maxRecDepth 100000 in
theorem c_modelInit (l : Launch) (E : jE) (A : Nat → Prop) {ws : va_W} {mo : Nat} : jMet l yX5_init cX5_init 1 (none : Option Jvm.ClassFile.FieldType) 0 10 9 E A [.ref mo] ((mo, .inr (5, [.int (nI 0), .null, .int (nI 0), .int (nI 0), .int (nI 0), .int (nI 0)])) :: ws) (fun vv ww => ∃ (ou : Nat) (r : Nat → Nat), (∀ i j : Nat, i < 9 → j < 9 → r i = r j → i = j) ∧ vv = none ∧ ww = ((((mo, .inr (5, [.int (nI 0), .ref ou, .int (nI 0), .int (nI 0), .int (nI 0), .int (nI 0)])) :: ws) ++ [(ou, .inl (E.2.2.2.1, 9, .inr (.inr (.inr (.inr (ro0 r))))))]) ++ va_pl (L0 r) (ff0 E r))) jNo := by
  refine jMet.intro' [(0, .ref mo)] (by decide) (Nat.le_of_ble_eq_true rfl) rfl ?_
  intro p e R s m args below meth c Q C hQ
  refine j_aload_n C dX5_init_0 rfl ?_
  refine j_objInit C w_918 w_54 w_55 (Nat.le_of_ble_eq_true rfl) dX5_init_1 ?_
  refine j_aload_n C dX5_init_4 rfl ?_
  refine j_bipush (v := (nI 9)) C dX5_init_5 rfl ?_
  refine j_iconst (v := (nI 0)) C dX5_init_7 rfl ?_
  refine j_eq (ws' := ((mo, .inr (5, [.int (nI 0), .null, .int (nI 0), .int (nI 0), .int (nI 0), .int (nI 0)])) :: ws) ++ va_pl [] (f0E E)) rfl rfl (List.append_nil _).symm ?_
  refine j_mna C (X := (mo, .inr (5, [.int (nI 0), .null, .int (nI 0), .int (nI 0), .int (nI 0), .int (nI 0)])) :: ws) (L := []) (f := f0E E) w_919 (by omega) (by omega) dX5_init_8 (fun ou r hr _ => ?_)
  refine j_putF (ws' := ((((mo, .inr (5, [.int (nI 0), .ref ou, .int (nI 0), .int (nI 0), .int (nI 0), .int (nI 0)])) :: ws) ++ [(ou, .inl (E.2.2.2.1, 9, .inr (.inr (.inr (.inr (ro0 r))))))]) ++ va_pl (L0 r) (ff0 E r))) C 0 rfl inj_X5 tyX5 tyX5_ok nmX5 rfl 1 (by decide) w_922 rfl rfl rfl (tyX5_ok 1 (by decide)) rfl rfl (Nat.le_of_ble_eq_true rfl) dX5_init_12 rfl ?_
  exact j_vret C hQ rfl dX5_init_15 ⟨Nat.le_of_ble_eq_true rfl, Nat.le_of_ble_eq_true rfl⟩ ⟨_, _, hr, rfl, rfl⟩
