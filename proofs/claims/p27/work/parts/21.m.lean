/-! contracts, laid by program (wip/gen) -/
set_option maxHeartbeats 4000000 in
set_option maxRecDepth 100000 in
theorem c_isAway (l : Launch) (E : jE) (A : Nat → Prop) {t sz sg la : Nat} {z g b : Nat → Int32} {rest : va_W} {i : Nat} (hi : i < 9) : jMet l yX2_isAway cX2_isAway 2 (some .boolean) 0 0 0 E A [.ref t, .int (nI i)] (tW E t sz sg la z g b rest) (jR (some (.int (bI (z i = -1)))) (tW E t sz sg la z g b rest)) jNo := by
  refine jMet.intro' [(0, .ref t), (1, .int (nI i))] (by decide) (Nat.le_of_ble_eq_true rfl) rfl ?_
  intro p e R s m args below meth c Q C hQ
  refine j_aload_n C dX2_isAway_0 rfl ?_
  refine j_get C 0 rfl inj_X2 rfl 0 (by decide) w_62 rfl dX2_isAway_1 ?_
  refine j_iload_n C dX2_isAway_4 rfl ?_
  refine j_iaload (z := (z i)) C 1 i rfl rfl (by omega) (by first | decide | omega) rfl dX2_isAway_5 ?_
  refine j_iconst (v := (-1)) C dX2_isAway_6 rfl ?_
  refine j_icmp_ne (tgt := 14) C dX2_isAway_7 (by decide) (fun h7 => ?_) (fun h7 => ?_)
  · skip
    refine j_iconst (v := (nI 0)) C dX2_isAway_14 rfl ?_
    exact j_zret C hQ rfl rfl dX2_isAway_15 ⟨Nat.le_of_ble_eq_true rfl, Nat.le_of_ble_eq_true rfl⟩ ⟨by rw [bI_f (by simp only [*, not_true_eq_false, not_false_eq_true, false_and, and_false, and_self])]; rfl, rfl⟩
  · skip
    refine j_iconst (v := (nI 1)) C dX2_isAway_10 rfl ?_
    refine j_goto (tgt := 15) C dX2_isAway_11 (by decide) ?_
    exact j_zret C hQ rfl rfl dX2_isAway_15 ⟨Nat.le_of_ble_eq_true rfl, Nat.le_of_ble_eq_true rfl⟩ ⟨by rw [bI_t (by simp only [*, not_false_eq_true, and_self])]; rfl, rfl⟩
set_option maxHeartbeats 4000000 in
set_option maxRecDepth 100000 in
theorem c_size (l : Launch) (E : jE) (A : Nat → Prop) {t sz sg la : Nat} {z g b : Nat → Int32} {rest : va_W} {i : Nat} (hi : i < 9) : jMet l yX2_size cX2_size 2 (some .int) 0 0 0 E A [.ref t, .int (nI i)] (tW E t sz sg la z g b rest) (jR (some (.int (z i))) (tW E t sz sg la z g b rest)) jNo := by
  refine jMet.intro' [(0, .ref t), (1, .int (nI i))] (by decide) (Nat.le_of_ble_eq_true rfl) rfl ?_
  intro p e R s m args below meth c Q C hQ
  refine j_aload_n C dX2_size_0 rfl ?_
  refine j_get C 0 rfl inj_X2 rfl 0 (by decide) w_62 rfl dX2_size_1 ?_
  refine j_iload_n C dX2_size_4 rfl ?_
  refine j_iaload (z := (z i)) C 1 i rfl rfl (by omega) (by first | decide | omega) rfl dX2_size_5 ?_
  exact j_iret C hQ rfl dX2_size_6 ⟨Nat.le_of_ble_eq_true rfl, Nat.le_of_ble_eq_true rfl⟩ ⟨rfl, rfl⟩
set_option maxHeartbeats 4000000 in
set_option maxRecDepth 100000 in
theorem c_sign (l : Launch) (E : jE) (A : Nat → Prop) {t sz sg la : Nat} {z g b : Nat → Int32} {rest : va_W} {i k : Nat} (hi : i < 9) (hk : k < 24) : jMet l yX2_sign cX2_sign 3 (some .int) 0 0 0 E A [.ref t, .int (nI i), .int (nI k)] (tW E t sz sg la z g b rest) (jR (some (.int (g (i * 24 + k)))) (tW E t sz sg la z g b rest)) jNo := by
  refine jMet.intro' [(0, .ref t), (1, .int (nI i)), (2, .int (nI k))] (by decide) (Nat.le_of_ble_eq_true rfl) rfl ?_
  intro p e R s m args below meth c Q C hQ
  refine j_aload_n C dX2_sign_0 rfl ?_
  refine j_get C 0 rfl inj_X2 rfl 1 (by decide) w_63 rfl dX2_sign_1 ?_
  refine j_iload_n C dX2_sign_4 rfl ?_
  refine j_bipush (v := (nI 24)) C dX2_sign_5 rfl ?_
  refine j_imul (z := (nI (i * 24))) C dX2_sign_7 (pk_mul _ _) ?_
  refine j_iload_n C dX2_sign_8 rfl ?_
  refine j_iadd (z := (nI (i * 24 + k))) C dX2_sign_9 (nI_add _ _) ?_
  refine j_iaload (z := (g (i * 24 + k))) C 2 (i * 24 + k) rfl rfl (by omega) (by first | decide | omega) rfl dX2_sign_10 ?_
  exact j_iret C hQ rfl dX2_sign_11 ⟨Nat.le_of_ble_eq_true rfl, Nat.le_of_ble_eq_true rfl⟩ ⟨rfl, rfl⟩
set_option maxHeartbeats 4000000 in
set_option maxRecDepth 100000 in
theorem c_change (l : Launch) (E : jE) (A : Nat → Prop) {t sz sg la : Nat} {z g b : Nat → Int32} {rest : va_W} {i k : Nat} {x : Int32} (hi : i < 9) (hk : k < 24) : jMet l yX2_change cX2_change 4 (none : Option Jvm.ClassFile.FieldType) 0 0 0 E A [.ref t, .int (nI i), .int (nI k), .int x] (tW E t sz sg la z g b rest) (jR none (tW E t sz sg la z (upd g (i * 24 + k) x) b rest)) jNo := by
  refine jMet.intro' [(0, .ref t), (1, .int (nI i)), (2, .int (nI k)), (3, .int x)] (by decide) (Nat.le_of_ble_eq_true rfl) rfl ?_
  intro p e R s m args below meth c Q C hQ
  refine j_aload_n C dX2_change_0 rfl ?_
  refine j_get C 0 rfl inj_X2 rfl 1 (by decide) w_63 rfl dX2_change_1 ?_
  refine j_iload_n C dX2_change_4 rfl ?_
  refine j_bipush (v := (nI 24)) C dX2_change_5 rfl ?_
  refine j_imul (z := (nI (i * 24))) C dX2_change_7 (pk_mul _ _) ?_
  refine j_iload_n C dX2_change_8 rfl ?_
  refine j_iadd (z := (nI (i * 24 + k))) C dX2_change_9 (nI_add _ _) ?_
  refine j_iload_n C dX2_change_10 rfl ?_
  refine j_iastore (ws' := (tW E t sz sg la z (upd g (i * 24 + k) x) b rest)) C 2 (i * 24 + k) rfl rfl (by omega) (by first | decide | omega) dX2_change_11 rfl ?_
  exact j_vret C hQ rfl dX2_change_12 ⟨Nat.le_of_ble_eq_true rfl, Nat.le_of_ble_eq_true rfl⟩ ⟨rfl, rfl⟩
set_option maxHeartbeats 4000000 in
set_option maxRecDepth 100000 in
theorem c_clear (l : Launch) (E : jE) (A : Nat → Prop) {t sz sg la : Nat} {z g b : Nat → Int32} {rest : va_W} {i : Nat} (hi : i < 9) : jMet l yX2_clear cX2_clear 2 (none : Option Jvm.ClassFile.FieldType) 0 0 0 E A [.ref t, .int (nI i)] (tW E t sz sg la z g b rest) (jR none (tW E t sz sg la (upd z i (nI 0)) g b rest)) jNo := by
  refine jMet.intro' [(0, .ref t), (1, .int (nI i))] (by decide) (Nat.le_of_ble_eq_true rfl) rfl ?_
  intro p e R s m args below meth c Q C hQ
  refine j_aload_n C dX2_clear_0 rfl ?_
  refine j_get C 0 rfl inj_X2 rfl 0 (by decide) w_62 rfl dX2_clear_1 ?_
  refine j_iload_n C dX2_clear_4 rfl ?_
  refine j_iconst (v := (nI 0)) C dX2_clear_5 rfl ?_
  refine j_iastore (ws' := (tW E t sz sg la (upd z i (nI 0)) g b rest)) C 1 i rfl rfl (by omega) (by first | decide | omega) dX2_clear_6 rfl ?_
  exact j_vret C hQ rfl dX2_clear_7 ⟨Nat.le_of_ble_eq_true rfl, Nat.le_of_ble_eq_true rfl⟩ ⟨rfl, rfl⟩
set_option maxHeartbeats 4000000 in
set_option maxRecDepth 100000 in
theorem c_remove (l : Launch) (E : jE) (A : Nat → Prop) {t sz sg la : Nat} {z g b : Nat → Int32} {rest : va_W} {i : Nat} (hi : i < 9) : jMet l yX2_remove cX2_remove 2 (none : Option Jvm.ClassFile.FieldType) 0 0 0 E A [.ref t, .int (nI i)] (tW E t sz sg la z g b rest) (jR none (tW E t sz sg la (upd z i (-1)) g b rest)) jNo := by
  refine jMet.intro' [(0, .ref t), (1, .int (nI i))] (by decide) (Nat.le_of_ble_eq_true rfl) rfl ?_
  intro p e R s m args below meth c Q C hQ
  refine j_aload_n C dX2_remove_0 rfl ?_
  refine j_get C 0 rfl inj_X2 rfl 0 (by decide) w_62 rfl dX2_remove_1 ?_
  refine j_iload_n C dX2_remove_4 rfl ?_
  refine j_iconst (v := (-1)) C dX2_remove_5 rfl ?_
  refine j_iastore (ws' := (tW E t sz sg la (upd z i (-1)) g b rest)) C 1 i rfl rfl (by omega) (by first | decide | omega) dX2_remove_6 rfl ?_
  exact j_vret C hQ rfl dX2_remove_7 ⟨Nat.le_of_ble_eq_true rfl, Nat.le_of_ble_eq_true rfl⟩ ⟨rfl, rfl⟩
set_option maxHeartbeats 4000000 in
set_option maxRecDepth 100000 in
theorem c_add (l : Launch) (E : jE) (A : Nat → Prop) {t sz sg la : Nat} {z g b : Nat → Int32} {rest : va_W} {i n : Nat} {x : Int32} (hi : i < 9) (hz : z i = nI n) (hn : n < 24) : jMet l yX2_add cX2_add 3 (none : Option Jvm.ClassFile.FieldType) 1 0 0 E A [.ref t, .int (nI i), .int x] (tW E t sz sg la z g b rest) (jR none (tW E t sz sg la (upd z i (nI (n + 1))) (upd g (i * 24 + n) x) b rest)) jNo := by
  refine jMet.intro' [(0, .ref t), (1, .int (nI i)), (2, .int x)] (by decide) (Nat.le_of_ble_eq_true rfl) rfl ?_
  intro p e R s m args below meth c Q C hQ
  refine j_aload_n C dX2_add_0 rfl ?_
  refine j_iload_n C dX2_add_1 rfl ?_
  refine j_aload_n C dX2_add_2 rfl ?_
  refine j_get C 0 rfl inj_X2 rfl 0 (by decide) w_62 rfl dX2_add_3 ?_
  refine j_iload_n C dX2_add_6 rfl ?_
  refine j_iaload (z := (nI n)) C 1 i rfl rfl (by omega) (by first | decide | omega) hz dX2_add_7 ?_
  refine j_iload_n C dX2_add_8 rfl ?_
  refine j_callVv C 0 (w := (tW E t sz sg la z (upd g (i * 24 + n) x) b rest)) (c_change l E A (by omega) (by omega)) ok_X2_change w_395 (by decide) rfl rfl (Nat.le_of_ble_eq_true rfl) rfl rfl ⟨Nat.le_of_ble_eq_true rfl, Nat.le_of_ble_eq_true rfl⟩ dX2_add_9 ?_
  refine j_aload_n C dX2_add_12 rfl ?_
  refine j_get C 0 rfl inj_X2 rfl 0 (by decide) w_62 rfl dX2_add_13 ?_
  refine j_iload_n C dX2_add_16 rfl ?_
  refine j_dup2 C dX2_add_17 rfl rfl ?_
  refine j_iaload (z := (nI n)) C 1 i rfl rfl (by omega) (by first | decide | omega) hz dX2_add_18 ?_
  refine j_iconst (v := (nI 1)) C dX2_add_19 rfl ?_
  refine j_iadd (z := (nI (n + 1))) C dX2_add_20 (nI_add _ _) ?_
  refine j_iastore (ws' := (tW E t sz sg la (upd z i (nI (n + 1))) (upd g (i * 24 + n) x) b rest)) C 1 i rfl rfl (by omega) (by first | decide | omega) dX2_add_21 rfl ?_
  exact j_vret C hQ rfl dX2_add_22 ⟨Nat.le_of_ble_eq_true rfl, Nat.le_of_ble_eq_true rfl⟩ ⟨rfl, rfl⟩
