/-! contracts, laid by program (wip/gen) -/
set_option maxHeartbeats 4000000 in
set_option maxRecDepth 100000 in
theorem g_thrown (l : Launch) (E : jE) (A : Nat → Prop) {x0 x1 x2 x3 x4 x5 : Nat × va_E} {mo ou : Nat} {th re ak gv kn : Int32} {ro : Nat → Option Nat} {LL : List Nat} {ff : Nat → va_E}  : jMet l yX5_thrown cX5_thrown 1 (some .int) 0 0 0 E A [.ref mo] (mW E x0 x1 x2 x3 x4 x5 mo ou th re ak gv kn ro LL ff) (jR (some (.int th)) (mW E x0 x1 x2 x3 x4 x5 mo ou th re ak gv kn ro LL ff)) jNo := by
  refine jMet.intro' [(0, .ref mo)] (by decide) (Nat.le_of_ble_eq_true rfl) rfl ?_
  intro p e R s m args below meth c Q C hQ
  refine j_aload_n C dX5_thrown_0 rfl ?_
  refine j_get C 6 rfl inj_X5 rfl 0 (by decide) w_921 rfl dX5_thrown_1 ?_
  exact j_iret C hQ rfl dX5_thrown_4 ⟨Nat.le_of_ble_eq_true rfl, Nat.le_of_ble_eq_true rfl⟩ ⟨rfl, rfl⟩
