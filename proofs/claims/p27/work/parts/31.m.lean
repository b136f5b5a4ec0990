/-! contracts, laid by program (wip/gen) -/
theorem c_size_m (l : Launch) (E : jE) (A : Nat → Prop) {t sz sg la : Nat} {z g b : Nat → Int32} {rest : va_W} {i : Nat} (hi : i < 9) (hz : z i = -1) : jMet l yX2_size cX2_size 2 (some .int) 0 0 0 E A [.ref t, .int (nI i)] (tW E t sz sg la z g b rest) (jR (some (.int (-1))) (tW E t sz sg la z g b rest)) jNo := by
  rw [← hz]
  exact c_size l E A hi
theorem pk_us' {f : Nat → Int32} {k : Nat} {x : Int32} : upd f k x k = x := pk_us
theorem nI_long {n : Nat} (h : n < 2 ^ 31) : (nI n).toInt64 = lN n := nI_l h
theorem place_of {k n : Nat} (h : k < n) (hn : n ≤ 24) : ¬ (nI k).toInt64 < 0 ∧ ¬ (nI n).toInt64 ≤ (nI k).toInt64 := by
  rw [nI_l (by omega), nI_l (by omega)]
  exact ⟨fun z => absurd ((lN_lt (b := 0) (by omega) (by decide)).mp z) (by omega), fun z => absurd ((lN_le (by omega) (by omega)).mp z) (by omega)⟩
theorem span_of {a v n : Nat} (h : a ≤ v) (h2 : v ≤ n) (hn : n ≤ 24) : ¬ (nI a).toInt64 < 0 ∧ ¬ (nI v).toInt64 < (nI a).toInt64 ∧ ¬ (nI n).toInt64 < (nI v).toInt64 := by
  rw [nI_l (by omega), nI_l (by omega), nI_l (by omega)]
  exact ⟨fun z => absurd ((lN_lt (b := 0) (by omega) (by decide)).mp z) (by omega), fun z => absurd ((lN_lt (by omega) (by omega)).mp z) (by omega), fun z => absurd ((lN_lt (by omega) (by omega)).mp z) (by omega)⟩
theorem stre_of {a v n : Nat} (h : a + v ≤ n) (hn : n ≤ 24) : ¬ (nI a).toInt64 < 0 ∧ ¬ (nI v).toInt64 < 0 ∧ ¬ (nI n).toInt64 < 0 ∧ ¬ (nI n).toInt64 - (nI v).toInt64 < (nI a).toInt64 := by
  rw [nI_l (by omega), nI_l (by omega), nI_l (by omega), lN_sub (by omega)]
  exact ⟨fun z => absurd ((lN_lt (b := 0) (by omega) (by decide)).mp z) (by omega), fun z => absurd ((lN_lt (b := 0) (by omega) (by decide)).mp z) (by omega), fun z => absurd ((lN_lt (b := 0) (by omega) (by decide)).mp z) (by omega), fun z => absurd ((lN_lt (by omega) (by omega)).mp z) (by omega)⟩
theorem fa_upd2 (f : Nat → Int32) (i : Nat) (x y : Int32) : upd (upd f i x) i y = upd f i y := by
  funext j
  unfold upd
  split <;> rfl
def askI (z : Nat → Int32) (i j : Nat) (a : Int32) : Int32 := if ¬ i = j ∧ ¬ (z i = -1 ∧ z j = -1) then a + nI 1 else a
/-- asked by ahead(): of seat i, with the first k others -/
def askF (z : Nat → Int32) (i : Nat) (a : Int32) : Nat → Int32
  | 0 => a
  | k + 1 => askI z k i (askF z i a k)
def ahdF (z g : Nat → Int32) (i o : Nat) : Nat → Nat
  | 0 => 0
  | k + 1 => ahdF z g i o k + (if ordV z g k i o < 0 then 1 else 0)
theorem ahdF_y {z g : Nat → Int32} {i o k : Nat} (h : ordV z g k i o < 0) : ahdF z g i o k + 1 = ahdF z g i o (k + 1) := by rw [ahdF, if_pos h]
theorem ahdF_n {z g : Nat → Int32} {i o k : Nat} (h : ¬ ordV z g k i o < 0) : ahdF z g i o k = ahdF z g i o (k + 1) := by rw [ahdF, if_neg h]; rfl
theorem c_wantSN_ok (l : Launch) (E : jE) (A : Nat → Prop) {ws : va_W} {x : Int32} (h : x = -1 ∨ isSg x) : jMet l yX3_wantSignOrNone cX3_wantSignOrNone 1 none 2 0 0 E A [.int x] ws (jR none ws) jNo := by
  rcases h with rfl | ⟨q, hq, rfl⟩
  · exact c_wantSN_m l E A
  · exact c_wantSN_r l E A hq
set_option maxHeartbeats 4000000 in
set_option maxRecDepth 100000 in
theorem f_write_b (l : Launch) (hl : l.stackTraces = false) (E : jE) (A : Nat → Prop) {t sz sg la dk : Nat} {z g b : Nat → Int32} {cr ca cg ck : Int32} {rest : va_W} {x a v w : Int32} (hbx : x < 0 ∨ nI 9 ≤ x) : jMet l yX3_write cX3_write 6 (some .int) 5 1 6 E A [.ref dk, .int x, .int a, .int v, .int w] (dW E t sz sg la dk z g b cr ca cg ck rest) jNv (jT jIO (dW E t sz sg la dk z g b cr ca cg ck rest)) := by
  refine jMet.intro' [(0, .ref dk), (1, .int x), (2, .int a), (3, .int v), (4, .int w)] (by decide) (Nat.le_of_ble_eq_true rfl) rfl ?_
  intro p e R s m args below meth c Q C hQ
  refine j_iload_n C dX3_write_0 rfl ?_
  refine j_callSx C (c_wantSeat_x l hl E A hbx) ok_X3_wantSeat w_272 (by decide) rfl rfl (Nat.le_of_ble_eq_true rfl) ⟨Nat.le_of_ble_eq_true rfl, Nat.le_of_ble_eq_true rfl⟩ dX3_write_1 ?_
  exact j_xout C hQ ⟨Nat.le_of_ble_eq_true rfl, Nat.le_of_ble_eq_true rfl⟩ ⟨rfl, rfl⟩
set_option maxHeartbeats 4000000 in
set_option maxRecDepth 100000 in
theorem f_write_a1 (l : Launch) (hl : l.stackTraces = false) (E : jE) (A : Nat → Prop) {t sz sg la dk : Nat} {z g b : Nat → Int32} {cr ca cg ck : Int32} {rest : va_W} {i : Nat} (hi : i < 9) {a v w : Int32} (ha : ¬ a = -1 ∧ (a < 0 ∨ nI 10 ≤ a))  : jMet l yX3_write cX3_write 6 (some .int) 5 1 6 E A [.ref dk, .int (nI i), .int a, .int v, .int w] (dW E t sz sg la dk z g b cr ca cg ck rest) jNv (jT jIA (dW E t sz sg la dk z g b cr ca cg ck rest)) := by
  refine jMet.intro' [(0, .ref dk), (1, .int (nI i)), (2, .int a), (3, .int v), (4, .int w)] (by decide) (Nat.le_of_ble_eq_true rfl) rfl ?_
  intro p e R s m args below meth c Q C hQ
  refine j_iload_n C dX3_write_0 rfl ?_
  refine j_callSv C (w := (dW E t sz sg la dk z g b cr ca cg ck rest)) (c_wantSeat_r l E A (by omega)) ok_X3_wantSeat w_272 (by decide) rfl rfl (Nat.le_of_ble_eq_true rfl) ⟨Nat.le_of_ble_eq_true rfl, Nat.le_of_ble_eq_true rfl⟩ dX3_write_1 ?_
  refine j_iload_n C dX3_write_4 rfl ?_
  refine j_callSx C (c_wantSN_x l hl E A ha.1 ha.2) ok_X3_wantSignOrNone w_343 (by decide) rfl rfl (Nat.le_of_ble_eq_true rfl) ⟨Nat.le_of_ble_eq_true rfl, Nat.le_of_ble_eq_true rfl⟩ dX3_write_5 ?_
  exact j_xout C hQ ⟨Nat.le_of_ble_eq_true rfl, Nat.le_of_ble_eq_true rfl⟩ ⟨rfl, rfl⟩
set_option maxHeartbeats 4000000 in
set_option maxRecDepth 100000 in
theorem f_write_a2 (l : Launch) (hl : l.stackTraces = false) (E : jE) (A : Nat → Prop) {t sz sg la dk : Nat} {z g b : Nat → Int32} {cr ca cg ck : Int32} {rest : va_W} {i : Nat} (hi : i < 9) {a v w : Int32} (ha : a = -1 ∨ isSg a) (hv : ¬ v = -1 ∧ (v < 0 ∨ nI 10 ≤ v))  : jMet l yX3_write cX3_write 6 (some .int) 5 1 6 E A [.ref dk, .int (nI i), .int a, .int v, .int w] (dW E t sz sg la dk z g b cr ca cg ck rest) jNv (jT jIA (dW E t sz sg la dk z g b cr ca cg ck rest)) := by
  refine jMet.intro' [(0, .ref dk), (1, .int (nI i)), (2, .int a), (3, .int v), (4, .int w)] (by decide) (Nat.le_of_ble_eq_true rfl) rfl ?_
  intro p e R s m args below meth c Q C hQ
  refine j_iload_n C dX3_write_0 rfl ?_
  refine j_callSv C (w := (dW E t sz sg la dk z g b cr ca cg ck rest)) (c_wantSeat_r l E A (by omega)) ok_X3_wantSeat w_272 (by decide) rfl rfl (Nat.le_of_ble_eq_true rfl) ⟨Nat.le_of_ble_eq_true rfl, Nat.le_of_ble_eq_true rfl⟩ dX3_write_1 ?_
  refine j_iload_n C dX3_write_4 rfl ?_
  refine j_callSv C (w := (dW E t sz sg la dk z g b cr ca cg ck rest)) (c_wantSN_ok l E A ha) ok_X3_wantSignOrNone w_343 (by decide) rfl rfl (Nat.le_of_ble_eq_true rfl) ⟨Nat.le_of_ble_eq_true rfl, Nat.le_of_ble_eq_true rfl⟩ dX3_write_5 ?_
  refine j_iload_n C dX3_write_8 rfl ?_
  refine j_callSx C (c_wantSN_x l hl E A hv.1 hv.2) ok_X3_wantSignOrNone w_343 (by decide) rfl rfl (Nat.le_of_ble_eq_true rfl) ⟨Nat.le_of_ble_eq_true rfl, Nat.le_of_ble_eq_true rfl⟩ dX3_write_9 ?_
  exact j_xout C hQ ⟨Nat.le_of_ble_eq_true rfl, Nat.le_of_ble_eq_true rfl⟩ ⟨rfl, rfl⟩
set_option maxHeartbeats 4000000 in
set_option maxRecDepth 100000 in
theorem f_write_a3 (l : Launch) (hl : l.stackTraces = false) (E : jE) (A : Nat → Prop) {t sz sg la dk : Nat} {z g b : Nat → Int32} {cr ca cg ck : Int32} {rest : va_W} {i : Nat} (hi : i < 9) {a v w : Int32} (ha : a = -1 ∨ isSg a) (hv : v = -1 ∨ isSg v) (hw : ¬ w = -1 ∧ (w < 0 ∨ nI 10 ≤ w))  : jMet l yX3_write cX3_write 6 (some .int) 5 1 6 E A [.ref dk, .int (nI i), .int a, .int v, .int w] (dW E t sz sg la dk z g b cr ca cg ck rest) jNv (jT jIA (dW E t sz sg la dk z g b cr ca cg ck rest)) := by
  refine jMet.intro' [(0, .ref dk), (1, .int (nI i)), (2, .int a), (3, .int v), (4, .int w)] (by decide) (Nat.le_of_ble_eq_true rfl) rfl ?_
  intro p e R s m args below meth c Q C hQ
  refine j_iload_n C dX3_write_0 rfl ?_
  refine j_callSv C (w := (dW E t sz sg la dk z g b cr ca cg ck rest)) (c_wantSeat_r l E A (by omega)) ok_X3_wantSeat w_272 (by decide) rfl rfl (Nat.le_of_ble_eq_true rfl) ⟨Nat.le_of_ble_eq_true rfl, Nat.le_of_ble_eq_true rfl⟩ dX3_write_1 ?_
  refine j_iload_n C dX3_write_4 rfl ?_
  refine j_callSv C (w := (dW E t sz sg la dk z g b cr ca cg ck rest)) (c_wantSN_ok l E A ha) ok_X3_wantSignOrNone w_343 (by decide) rfl rfl (Nat.le_of_ble_eq_true rfl) ⟨Nat.le_of_ble_eq_true rfl, Nat.le_of_ble_eq_true rfl⟩ dX3_write_5 ?_
  refine j_iload_n C dX3_write_8 rfl ?_
  refine j_callSv C (w := (dW E t sz sg la dk z g b cr ca cg ck rest)) (c_wantSN_ok l E A hv) ok_X3_wantSignOrNone w_343 (by decide) rfl rfl (Nat.le_of_ble_eq_true rfl) ⟨Nat.le_of_ble_eq_true rfl, Nat.le_of_ble_eq_true rfl⟩ dX3_write_9 ?_
  refine j_iload C dX3_write_12 rfl ?_
  refine j_callSx C (c_wantSN_x l hl E A hw.1 hw.2) ok_X3_wantSignOrNone w_343 (by decide) rfl rfl (Nat.le_of_ble_eq_true rfl) ⟨Nat.le_of_ble_eq_true rfl, Nat.le_of_ble_eq_true rfl⟩ dX3_write_14 ?_
  exact j_xout C hQ ⟨Nat.le_of_ble_eq_true rfl, Nat.le_of_ble_eq_true rfl⟩ ⟨rfl, rfl⟩
set_option maxHeartbeats 4000000 in
set_option maxRecDepth 100000 in
theorem f_write_m (l : Launch) (hl : l.stackTraces = false) (E : jE) (A : Nat → Prop) {t sz sg la dk : Nat} {z g b : Nat → Int32} {cr ca cg ck : Int32} {rest : va_W} {i : Nat} (hi : i < 9) {a v w : Int32} (ha : a = -1 ∨ isSg a) (hv : v = -1 ∨ isSg v) (hw : w = -1 ∨ isSg w) (hz : z i = -1)  : jMet l yX3_write cX3_write 6 (some .int) 5 1 6 E A [.ref dk, .int (nI i), .int a, .int v, .int w] (dW E t sz sg la dk z g b cr ca cg ck rest) jNv (jT jIS (dW E t sz sg la dk z g b cr ca cg ck rest)) := by
  refine jMet.intro' [(0, .ref dk), (1, .int (nI i)), (2, .int a), (3, .int v), (4, .int w)] (by decide) (Nat.le_of_ble_eq_true rfl) rfl ?_
  intro p e R s m args below meth c Q C hQ
  refine j_iload_n C dX3_write_0 rfl ?_
  refine j_callSv C (w := (dW E t sz sg la dk z g b cr ca cg ck rest)) (c_wantSeat_r l E A (by omega)) ok_X3_wantSeat w_272 (by decide) rfl rfl (Nat.le_of_ble_eq_true rfl) ⟨Nat.le_of_ble_eq_true rfl, Nat.le_of_ble_eq_true rfl⟩ dX3_write_1 ?_
  refine j_iload_n C dX3_write_4 rfl ?_
  refine j_callSv C (w := (dW E t sz sg la dk z g b cr ca cg ck rest)) (c_wantSN_ok l E A ha) ok_X3_wantSignOrNone w_343 (by decide) rfl rfl (Nat.le_of_ble_eq_true rfl) ⟨Nat.le_of_ble_eq_true rfl, Nat.le_of_ble_eq_true rfl⟩ dX3_write_5 ?_
  refine j_iload_n C dX3_write_8 rfl ?_
  refine j_callSv C (w := (dW E t sz sg la dk z g b cr ca cg ck rest)) (c_wantSN_ok l E A hv) ok_X3_wantSignOrNone w_343 (by decide) rfl rfl (Nat.le_of_ble_eq_true rfl) ⟨Nat.le_of_ble_eq_true rfl, Nat.le_of_ble_eq_true rfl⟩ dX3_write_9 ?_
  refine j_iload C dX3_write_12 rfl ?_
  refine j_callSv C (w := (dW E t sz sg la dk z g b cr ca cg ck rest)) (c_wantSN_ok l E A hw) ok_X3_wantSignOrNone w_343 (by decide) rfl rfl (Nat.le_of_ble_eq_true rfl) ⟨Nat.le_of_ble_eq_true rfl, Nat.le_of_ble_eq_true rfl⟩ dX3_write_14 ?_
  refine j_aload_n C dX3_write_17 rfl ?_
  refine j_iload_n C dX3_write_18 rfl ?_
  refine j_callVx C 4 (c_wantThere_x l hl E A (by omega) hz) ok_X3_wantThere w_365 (by decide) rfl rfl (Nat.le_of_ble_eq_true rfl) rfl rfl ⟨Nat.le_of_ble_eq_true rfl, Nat.le_of_ble_eq_true rfl⟩ dX3_write_19 ?_
  exact j_xout C hQ ⟨Nat.le_of_ble_eq_true rfl, Nat.le_of_ble_eq_true rfl⟩ ⟨rfl, rfl⟩
set_option maxHeartbeats 4000000 in
set_option maxRecDepth 100000 in
theorem f_write_k0 (l : Launch) (E : jE) (A : Nat → Prop) {t sz sg la dk : Nat} {z g b : Nat → Int32} {cr ca cg ck : Int32} {rest : va_W} {i : Nat} (hi : i < 9) {a v w : Int32} (ha : a = -1 ∨ isSg a) (hv : v = -1 ∨ isSg v) (hw : w = -1 ∨ isSg w) {n : Nat} (hn : n ≤ 24) (hz : z i = nI n) (e0 : a = -1) (ho : n + 0 ≤ 24) : jMet l yX3_write cX3_write 6 (some .int) 5 0 0 E A [.ref dk, .int (nI i), .int a, .int v, .int w] (dW E t sz sg la dk z g b cr ca cg ck rest) (jR (some (.int (nI n))) (dW E t sz sg la dk z g b cr ca cg ck rest)) jNo := by
  refine jMet.intro' [(0, .ref dk), (1, .int (nI i)), (2, .int a), (3, .int v), (4, .int w)] (by decide) (Nat.le_of_ble_eq_true rfl) rfl ?_
  intro p e R s m args below meth c Q C hQ
  refine j_iload_n C dX3_write_0 rfl ?_
  refine j_callSv C (w := (dW E t sz sg la dk z g b cr ca cg ck rest)) (c_wantSeat_r l E A (by omega)) ok_X3_wantSeat w_272 (by decide) rfl rfl (Nat.le_of_ble_eq_true rfl) ⟨Nat.le_of_ble_eq_true rfl, Nat.le_of_ble_eq_true rfl⟩ dX3_write_1 ?_
  refine j_iload_n C dX3_write_4 rfl ?_
  refine j_callSv C (w := (dW E t sz sg la dk z g b cr ca cg ck rest)) (c_wantSN_ok l E A ha) ok_X3_wantSignOrNone w_343 (by decide) rfl rfl (Nat.le_of_ble_eq_true rfl) ⟨Nat.le_of_ble_eq_true rfl, Nat.le_of_ble_eq_true rfl⟩ dX3_write_5 ?_
  refine j_iload_n C dX3_write_8 rfl ?_
  refine j_callSv C (w := (dW E t sz sg la dk z g b cr ca cg ck rest)) (c_wantSN_ok l E A hv) ok_X3_wantSignOrNone w_343 (by decide) rfl rfl (Nat.le_of_ble_eq_true rfl) ⟨Nat.le_of_ble_eq_true rfl, Nat.le_of_ble_eq_true rfl⟩ dX3_write_9 ?_
  refine j_iload C dX3_write_12 rfl ?_
  refine j_callSv C (w := (dW E t sz sg la dk z g b cr ca cg ck rest)) (c_wantSN_ok l E A hw) ok_X3_wantSignOrNone w_343 (by decide) rfl rfl (Nat.le_of_ble_eq_true rfl) ⟨Nat.le_of_ble_eq_true rfl, Nat.le_of_ble_eq_true rfl⟩ dX3_write_14 ?_
  refine j_aload_n C dX3_write_17 rfl ?_
  refine j_iload_n C dX3_write_18 rfl ?_
  refine j_callVv C 4 (w := (dW E t sz sg la dk z g b cr ca cg ck rest)) (c_wantThere_r l E A (by omega) hn hz) ok_X3_wantThere w_365 (by decide) rfl rfl (Nat.le_of_ble_eq_true rfl) rfl rfl ⟨Nat.le_of_ble_eq_true rfl, Nat.le_of_ble_eq_true rfl⟩ dX3_write_19 ?_
  refine j_iload_n C dX3_write_22 rfl ?_
  refine j_iconst (v := (-1)) C dX3_write_23 rfl ?_
  refine j_icmp_ne_f (tgt := 31) C dX3_write_24 (by decide) e0 ?_
  refine j_iconst (v := (nI 0)) C dX3_write_27 rfl ?_
  refine j_goto (tgt := 51) C dX3_write_28 (by decide) ?_
  refine j_istore (lv' := [(5, .int (nI 0)), (0, .ref dk), (1, .int (nI i)), (2, .int a), (3, .int v), (4, .int w)]) C dX3_write_51 (by decide) rfl ?_
  refine j_aload_n C dX3_write_53 rfl ?_
  refine j_iload_n C dX3_write_54 rfl ?_
  refine j_iload C dX3_write_55 rfl ?_
  refine j_callVv C 4 (w := (dW E t sz sg la dk z g b cr ca cg ck rest)) (c_wantRoom_r l E A (by omega) hz (by omega)) ok_X3_wantRoom w_386 (by decide) rfl rfl (Nat.le_of_ble_eq_true rfl) rfl rfl ⟨Nat.le_of_ble_eq_true rfl, Nat.le_of_ble_eq_true rfl⟩ dX3_write_57 ?_
  refine j_iload C dX3_write_60 rfl ?_
  refine j_ifn_le_t (tgt := 74) C dX3_write_62 (by decide) (by omega) (by omega) ?_
  refine j_iload C dX3_write_74 rfl ?_
  refine j_iconst (v := (nI 1)) C dX3_write_76 rfl ?_
  refine j_icmpn_le_t (tgt := 89) C dX3_write_77 (by decide) (by omega) (by omega) (by omega) ?_
  refine j_iload C dX3_write_89 rfl ?_
  refine j_iconst (v := (nI 2)) C dX3_write_91 rfl ?_
  refine j_icmpn_le_t (tgt := 105) C dX3_write_92 (by decide) (by omega) (by omega) (by omega) ?_
  refine j_aload_n C dX3_write_105 rfl ?_
  refine j_get C 4 rfl inj_X3 rfl 0 (by decide) w_73 rfl dX3_write_106 ?_
  refine j_iload_n C dX3_write_109 rfl ?_
  refine j_callVr C 0 (v := .int (nI n)) (w := (dW E t sz sg la dk z g b cr ca cg ck rest)) (c_size_n l E A (by omega) hz) ok_X2_size w_241 (by decide) rfl rfl (Nat.le_of_ble_eq_true rfl) rfl rfl ⟨Nat.le_of_ble_eq_true rfl, Nat.le_of_ble_eq_true rfl⟩ dX3_write_110 ?_
  exact j_iret C hQ rfl dX3_write_113 ⟨Nat.le_of_ble_eq_true rfl, Nat.le_of_ble_eq_true rfl⟩ ⟨rfl, rfl⟩
set_option maxHeartbeats 4000000 in
set_option maxRecDepth 100000 in
theorem f_write_f1 (l : Launch) (hl : l.stackTraces = false) (E : jE) (A : Nat → Prop) {t sz sg la dk : Nat} {z g b : Nat → Int32} {cr ca cg ck : Int32} {rest : va_W} {i : Nat} (hi : i < 9) {a v w : Int32} (ha : a = -1 ∨ isSg a) (hv : v = -1 ∨ isSg v) (hw : w = -1 ∨ isSg w) {n : Nat} (hn : n ≤ 24) (hz : z i = nI n) (e0 : ¬ a = -1) (e1 : v = -1) (ho : ¬ n + 1 ≤ 24) : jMet l yX3_write cX3_write 6 (some .int) 5 1 6 E A [.ref dk, .int (nI i), .int a, .int v, .int w] (dW E t sz sg la dk z g b cr ca cg ck rest) jNv (jT jIS (dW E t sz sg la dk z g b cr ca cg ck rest)) := by
  refine jMet.intro' [(0, .ref dk), (1, .int (nI i)), (2, .int a), (3, .int v), (4, .int w)] (by decide) (Nat.le_of_ble_eq_true rfl) rfl ?_
  intro p e R s m args below meth c Q C hQ
  refine j_iload_n C dX3_write_0 rfl ?_
  refine j_callSv C (w := (dW E t sz sg la dk z g b cr ca cg ck rest)) (c_wantSeat_r l E A (by omega)) ok_X3_wantSeat w_272 (by decide) rfl rfl (Nat.le_of_ble_eq_true rfl) ⟨Nat.le_of_ble_eq_true rfl, Nat.le_of_ble_eq_true rfl⟩ dX3_write_1 ?_
  refine j_iload_n C dX3_write_4 rfl ?_
  refine j_callSv C (w := (dW E t sz sg la dk z g b cr ca cg ck rest)) (c_wantSN_ok l E A ha) ok_X3_wantSignOrNone w_343 (by decide) rfl rfl (Nat.le_of_ble_eq_true rfl) ⟨Nat.le_of_ble_eq_true rfl, Nat.le_of_ble_eq_true rfl⟩ dX3_write_5 ?_
  refine j_iload_n C dX3_write_8 rfl ?_
  refine j_callSv C (w := (dW E t sz sg la dk z g b cr ca cg ck rest)) (c_wantSN_ok l E A hv) ok_X3_wantSignOrNone w_343 (by decide) rfl rfl (Nat.le_of_ble_eq_true rfl) ⟨Nat.le_of_ble_eq_true rfl, Nat.le_of_ble_eq_true rfl⟩ dX3_write_9 ?_
  refine j_iload C dX3_write_12 rfl ?_
  refine j_callSv C (w := (dW E t sz sg la dk z g b cr ca cg ck rest)) (c_wantSN_ok l E A hw) ok_X3_wantSignOrNone w_343 (by decide) rfl rfl (Nat.le_of_ble_eq_true rfl) ⟨Nat.le_of_ble_eq_true rfl, Nat.le_of_ble_eq_true rfl⟩ dX3_write_14 ?_
  refine j_aload_n C dX3_write_17 rfl ?_
  refine j_iload_n C dX3_write_18 rfl ?_
  refine j_callVv C 4 (w := (dW E t sz sg la dk z g b cr ca cg ck rest)) (c_wantThere_r l E A (by omega) hn hz) ok_X3_wantThere w_365 (by decide) rfl rfl (Nat.le_of_ble_eq_true rfl) rfl rfl ⟨Nat.le_of_ble_eq_true rfl, Nat.le_of_ble_eq_true rfl⟩ dX3_write_19 ?_
  refine j_iload_n C dX3_write_22 rfl ?_
  refine j_iconst (v := (-1)) C dX3_write_23 rfl ?_
  refine j_icmp_ne_t (tgt := 31) C dX3_write_24 (by decide) e0 ?_
  refine j_iload_n C dX3_write_31 rfl ?_
  refine j_iconst (v := (-1)) C dX3_write_32 rfl ?_
  refine j_icmp_ne_f (tgt := 40) C dX3_write_33 (by decide) e1 ?_
  refine j_iconst (v := (nI 1)) C dX3_write_36 rfl ?_
  refine j_goto (tgt := 51) C dX3_write_37 (by decide) ?_
  refine j_istore (lv' := [(5, .int (nI 1)), (0, .ref dk), (1, .int (nI i)), (2, .int a), (3, .int v), (4, .int w)]) C dX3_write_51 (by decide) rfl ?_
  refine j_aload_n C dX3_write_53 rfl ?_
  refine j_iload_n C dX3_write_54 rfl ?_
  refine j_iload C dX3_write_55 rfl ?_
  refine j_callVx C 4 (c_wantRoom_x l hl E A (by omega) hz (by omega) (by omega) (by omega)) ok_X3_wantRoom w_386 (by decide) rfl rfl (Nat.le_of_ble_eq_true rfl) rfl rfl ⟨Nat.le_of_ble_eq_true rfl, Nat.le_of_ble_eq_true rfl⟩ dX3_write_57 ?_
  exact j_xout C hQ ⟨Nat.le_of_ble_eq_true rfl, Nat.le_of_ble_eq_true rfl⟩ ⟨rfl, rfl⟩
set_option maxHeartbeats 4000000 in
set_option maxRecDepth 100000 in
theorem f_write_k1 (l : Launch) (E : jE) (A : Nat → Prop) {t sz sg la dk : Nat} {z g b : Nat → Int32} {cr ca cg ck : Int32} {rest : va_W} {i : Nat} (hi : i < 9) {a v w : Int32} (ha : a = -1 ∨ isSg a) (hv : v = -1 ∨ isSg v) (hw : w = -1 ∨ isSg w) {n : Nat} (hn : n ≤ 24) (hz : z i = nI n) (e0 : ¬ a = -1) (e1 : v = -1) (ho : n + 1 ≤ 24) : jMet l yX3_write cX3_write 6 (some .int) 5 0 0 E A [.ref dk, .int (nI i), .int a, .int v, .int w] (dW E t sz sg la dk z g b cr ca cg ck rest) (jR (some (.int (nI (n + 1)))) (dW E t sz sg la dk (upd z i (nI (n + 1))) (upd g (i * 24 + n) a) b cr ca cg ck rest)) jNo := by
  refine jMet.intro' [(0, .ref dk), (1, .int (nI i)), (2, .int a), (3, .int v), (4, .int w)] (by decide) (Nat.le_of_ble_eq_true rfl) rfl ?_
  intro p e R s m args below meth c Q C hQ
  refine j_iload_n C dX3_write_0 rfl ?_
  refine j_callSv C (w := (dW E t sz sg la dk z g b cr ca cg ck rest)) (c_wantSeat_r l E A (by omega)) ok_X3_wantSeat w_272 (by decide) rfl rfl (Nat.le_of_ble_eq_true rfl) ⟨Nat.le_of_ble_eq_true rfl, Nat.le_of_ble_eq_true rfl⟩ dX3_write_1 ?_
  refine j_iload_n C dX3_write_4 rfl ?_
  refine j_callSv C (w := (dW E t sz sg la dk z g b cr ca cg ck rest)) (c_wantSN_ok l E A ha) ok_X3_wantSignOrNone w_343 (by decide) rfl rfl (Nat.le_of_ble_eq_true rfl) ⟨Nat.le_of_ble_eq_true rfl, Nat.le_of_ble_eq_true rfl⟩ dX3_write_5 ?_
  refine j_iload_n C dX3_write_8 rfl ?_
  refine j_callSv C (w := (dW E t sz sg la dk z g b cr ca cg ck rest)) (c_wantSN_ok l E A hv) ok_X3_wantSignOrNone w_343 (by decide) rfl rfl (Nat.le_of_ble_eq_true rfl) ⟨Nat.le_of_ble_eq_true rfl, Nat.le_of_ble_eq_true rfl⟩ dX3_write_9 ?_
  refine j_iload C dX3_write_12 rfl ?_
  refine j_callSv C (w := (dW E t sz sg la dk z g b cr ca cg ck rest)) (c_wantSN_ok l E A hw) ok_X3_wantSignOrNone w_343 (by decide) rfl rfl (Nat.le_of_ble_eq_true rfl) ⟨Nat.le_of_ble_eq_true rfl, Nat.le_of_ble_eq_true rfl⟩ dX3_write_14 ?_
  refine j_aload_n C dX3_write_17 rfl ?_
  refine j_iload_n C dX3_write_18 rfl ?_
  refine j_callVv C 4 (w := (dW E t sz sg la dk z g b cr ca cg ck rest)) (c_wantThere_r l E A (by omega) hn hz) ok_X3_wantThere w_365 (by decide) rfl rfl (Nat.le_of_ble_eq_true rfl) rfl rfl ⟨Nat.le_of_ble_eq_true rfl, Nat.le_of_ble_eq_true rfl⟩ dX3_write_19 ?_
  refine j_iload_n C dX3_write_22 rfl ?_
  refine j_iconst (v := (-1)) C dX3_write_23 rfl ?_
  refine j_icmp_ne_t (tgt := 31) C dX3_write_24 (by decide) e0 ?_
  refine j_iload_n C dX3_write_31 rfl ?_
  refine j_iconst (v := (-1)) C dX3_write_32 rfl ?_
  refine j_icmp_ne_f (tgt := 40) C dX3_write_33 (by decide) e1 ?_
  refine j_iconst (v := (nI 1)) C dX3_write_36 rfl ?_
  refine j_goto (tgt := 51) C dX3_write_37 (by decide) ?_
  refine j_istore (lv' := [(5, .int (nI 1)), (0, .ref dk), (1, .int (nI i)), (2, .int a), (3, .int v), (4, .int w)]) C dX3_write_51 (by decide) rfl ?_
  refine j_aload_n C dX3_write_53 rfl ?_
  refine j_iload_n C dX3_write_54 rfl ?_
  refine j_iload C dX3_write_55 rfl ?_
  refine j_callVv C 4 (w := (dW E t sz sg la dk z g b cr ca cg ck rest)) (c_wantRoom_r l E A (by omega) hz (by omega)) ok_X3_wantRoom w_386 (by decide) rfl rfl (Nat.le_of_ble_eq_true rfl) rfl rfl ⟨Nat.le_of_ble_eq_true rfl, Nat.le_of_ble_eq_true rfl⟩ dX3_write_57 ?_
  refine j_iload C dX3_write_60 rfl ?_
  refine j_ifn_le_f (tgt := 74) C dX3_write_62 (by decide) (by omega) (by omega) ?_
  refine j_aload_n C dX3_write_65 rfl ?_
  refine j_get C 4 rfl inj_X3 rfl 0 (by decide) w_73 rfl dX3_write_66 ?_
  refine j_iload_n C dX3_write_69 rfl ?_
  refine j_iload_n C dX3_write_70 rfl ?_
  refine j_callVv C 0 (w := (dW E t sz sg la dk (upd z i (nI (n + 1))) (upd g (i * 24 + n) a) b cr ca cg ck rest)) (c_add l E A (by omega) hz (by omega)) ok_X2_add w_391 (by decide) rfl rfl (Nat.le_of_ble_eq_true rfl) rfl rfl ⟨Nat.le_of_ble_eq_true rfl, Nat.le_of_ble_eq_true rfl⟩ dX3_write_71 ?_
  refine j_iload C dX3_write_74 rfl ?_
  refine j_iconst (v := (nI 1)) C dX3_write_76 rfl ?_
  refine j_icmpn_le_t (tgt := 89) C dX3_write_77 (by decide) (by omega) (by omega) (by omega) ?_
  refine j_iload C dX3_write_89 rfl ?_
  refine j_iconst (v := (nI 2)) C dX3_write_91 rfl ?_
  refine j_icmpn_le_t (tgt := 105) C dX3_write_92 (by decide) (by omega) (by omega) (by omega) ?_
  refine j_aload_n C dX3_write_105 rfl ?_
  refine j_get C 4 rfl inj_X3 rfl 0 (by decide) w_73 rfl dX3_write_106 ?_
  refine j_iload_n C dX3_write_109 rfl ?_
  refine j_callVr C 0 (v := .int (nI (n + 1))) (w := (dW E t sz sg la dk (upd z i (nI (n + 1))) (upd g (i * 24 + n) a) b cr ca cg ck rest)) (c_size_n l E A (by omega) pk_us') ok_X2_size w_241 (by decide) rfl rfl (Nat.le_of_ble_eq_true rfl) rfl rfl ⟨Nat.le_of_ble_eq_true rfl, Nat.le_of_ble_eq_true rfl⟩ dX3_write_110 ?_
  exact j_iret C hQ rfl dX3_write_113 ⟨Nat.le_of_ble_eq_true rfl, Nat.le_of_ble_eq_true rfl⟩ ⟨rfl, rfl⟩
set_option maxHeartbeats 4000000 in
set_option maxRecDepth 100000 in
theorem f_write_f2 (l : Launch) (hl : l.stackTraces = false) (E : jE) (A : Nat → Prop) {t sz sg la dk : Nat} {z g b : Nat → Int32} {cr ca cg ck : Int32} {rest : va_W} {i : Nat} (hi : i < 9) {a v w : Int32} (ha : a = -1 ∨ isSg a) (hv : v = -1 ∨ isSg v) (hw : w = -1 ∨ isSg w) {n : Nat} (hn : n ≤ 24) (hz : z i = nI n) (e0 : ¬ a = -1) (e1 : ¬ v = -1) (e2 : w = -1) (ho : ¬ n + 2 ≤ 24) : jMet l yX3_write cX3_write 6 (some .int) 5 1 6 E A [.ref dk, .int (nI i), .int a, .int v, .int w] (dW E t sz sg la dk z g b cr ca cg ck rest) jNv (jT jIS (dW E t sz sg la dk z g b cr ca cg ck rest)) := by
  refine jMet.intro' [(0, .ref dk), (1, .int (nI i)), (2, .int a), (3, .int v), (4, .int w)] (by decide) (Nat.le_of_ble_eq_true rfl) rfl ?_
  intro p e R s m args below meth c Q C hQ
  refine j_iload_n C dX3_write_0 rfl ?_
  refine j_callSv C (w := (dW E t sz sg la dk z g b cr ca cg ck rest)) (c_wantSeat_r l E A (by omega)) ok_X3_wantSeat w_272 (by decide) rfl rfl (Nat.le_of_ble_eq_true rfl) ⟨Nat.le_of_ble_eq_true rfl, Nat.le_of_ble_eq_true rfl⟩ dX3_write_1 ?_
  refine j_iload_n C dX3_write_4 rfl ?_
  refine j_callSv C (w := (dW E t sz sg la dk z g b cr ca cg ck rest)) (c_wantSN_ok l E A ha) ok_X3_wantSignOrNone w_343 (by decide) rfl rfl (Nat.le_of_ble_eq_true rfl) ⟨Nat.le_of_ble_eq_true rfl, Nat.le_of_ble_eq_true rfl⟩ dX3_write_5 ?_
  refine j_iload_n C dX3_write_8 rfl ?_
  refine j_callSv C (w := (dW E t sz sg la dk z g b cr ca cg ck rest)) (c_wantSN_ok l E A hv) ok_X3_wantSignOrNone w_343 (by decide) rfl rfl (Nat.le_of_ble_eq_true rfl) ⟨Nat.le_of_ble_eq_true rfl, Nat.le_of_ble_eq_true rfl⟩ dX3_write_9 ?_
  refine j_iload C dX3_write_12 rfl ?_
  refine j_callSv C (w := (dW E t sz sg la dk z g b cr ca cg ck rest)) (c_wantSN_ok l E A hw) ok_X3_wantSignOrNone w_343 (by decide) rfl rfl (Nat.le_of_ble_eq_true rfl) ⟨Nat.le_of_ble_eq_true rfl, Nat.le_of_ble_eq_true rfl⟩ dX3_write_14 ?_
  refine j_aload_n C dX3_write_17 rfl ?_
  refine j_iload_n C dX3_write_18 rfl ?_
  refine j_callVv C 4 (w := (dW E t sz sg la dk z g b cr ca cg ck rest)) (c_wantThere_r l E A (by omega) hn hz) ok_X3_wantThere w_365 (by decide) rfl rfl (Nat.le_of_ble_eq_true rfl) rfl rfl ⟨Nat.le_of_ble_eq_true rfl, Nat.le_of_ble_eq_true rfl⟩ dX3_write_19 ?_
  refine j_iload_n C dX3_write_22 rfl ?_
  refine j_iconst (v := (-1)) C dX3_write_23 rfl ?_
  refine j_icmp_ne_t (tgt := 31) C dX3_write_24 (by decide) e0 ?_
  refine j_iload_n C dX3_write_31 rfl ?_
  refine j_iconst (v := (-1)) C dX3_write_32 rfl ?_
  refine j_icmp_ne_t (tgt := 40) C dX3_write_33 (by decide) e1 ?_
  refine j_iload C dX3_write_40 rfl ?_
  refine j_iconst (v := (-1)) C dX3_write_42 rfl ?_
  refine j_icmp_ne_f (tgt := 50) C dX3_write_43 (by decide) e2 ?_
  refine j_iconst (v := (nI 2)) C dX3_write_46 rfl ?_
  refine j_goto (tgt := 51) C dX3_write_47 (by decide) ?_
  refine j_istore (lv' := [(5, .int (nI 2)), (0, .ref dk), (1, .int (nI i)), (2, .int a), (3, .int v), (4, .int w)]) C dX3_write_51 (by decide) rfl ?_
  refine j_aload_n C dX3_write_53 rfl ?_
  refine j_iload_n C dX3_write_54 rfl ?_
  refine j_iload C dX3_write_55 rfl ?_
  refine j_callVx C 4 (c_wantRoom_x l hl E A (by omega) hz (by omega) (by omega) (by omega)) ok_X3_wantRoom w_386 (by decide) rfl rfl (Nat.le_of_ble_eq_true rfl) rfl rfl ⟨Nat.le_of_ble_eq_true rfl, Nat.le_of_ble_eq_true rfl⟩ dX3_write_57 ?_
  exact j_xout C hQ ⟨Nat.le_of_ble_eq_true rfl, Nat.le_of_ble_eq_true rfl⟩ ⟨rfl, rfl⟩
set_option maxHeartbeats 4000000 in
set_option maxRecDepth 100000 in
theorem f_write_k2 (l : Launch) (E : jE) (A : Nat → Prop) {t sz sg la dk : Nat} {z g b : Nat → Int32} {cr ca cg ck : Int32} {rest : va_W} {i : Nat} (hi : i < 9) {a v w : Int32} (ha : a = -1 ∨ isSg a) (hv : v = -1 ∨ isSg v) (hw : w = -1 ∨ isSg w) {n : Nat} (hn : n ≤ 24) (hz : z i = nI n) (e0 : ¬ a = -1) (e1 : ¬ v = -1) (e2 : w = -1) (ho : n + 2 ≤ 24) : jMet l yX3_write cX3_write 6 (some .int) 5 0 0 E A [.ref dk, .int (nI i), .int a, .int v, .int w] (dW E t sz sg la dk z g b cr ca cg ck rest) (jR (some (.int (nI (n + 1 + 1)))) (dW E t sz sg la dk (upd (upd z i (nI (n + 1))) i (nI (n + 1 + 1))) (upd (upd g (i * 24 + n) a) (i * 24 + (n + 1)) v) b cr ca cg ck rest)) jNo := by
  refine jMet.intro' [(0, .ref dk), (1, .int (nI i)), (2, .int a), (3, .int v), (4, .int w)] (by decide) (Nat.le_of_ble_eq_true rfl) rfl ?_
  intro p e R s m args below meth c Q C hQ
  refine j_iload_n C dX3_write_0 rfl ?_
  refine j_callSv C (w := (dW E t sz sg la dk z g b cr ca cg ck rest)) (c_wantSeat_r l E A (by omega)) ok_X3_wantSeat w_272 (by decide) rfl rfl (Nat.le_of_ble_eq_true rfl) ⟨Nat.le_of_ble_eq_true rfl, Nat.le_of_ble_eq_true rfl⟩ dX3_write_1 ?_
  refine j_iload_n C dX3_write_4 rfl ?_
  refine j_callSv C (w := (dW E t sz sg la dk z g b cr ca cg ck rest)) (c_wantSN_ok l E A ha) ok_X3_wantSignOrNone w_343 (by decide) rfl rfl (Nat.le_of_ble_eq_true rfl) ⟨Nat.le_of_ble_eq_true rfl, Nat.le_of_ble_eq_true rfl⟩ dX3_write_5 ?_
  refine j_iload_n C dX3_write_8 rfl ?_
  refine j_callSv C (w := (dW E t sz sg la dk z g b cr ca cg ck rest)) (c_wantSN_ok l E A hv) ok_X3_wantSignOrNone w_343 (by decide) rfl rfl (Nat.le_of_ble_eq_true rfl) ⟨Nat.le_of_ble_eq_true rfl, Nat.le_of_ble_eq_true rfl⟩ dX3_write_9 ?_
  refine j_iload C dX3_write_12 rfl ?_
  refine j_callSv C (w := (dW E t sz sg la dk z g b cr ca cg ck rest)) (c_wantSN_ok l E A hw) ok_X3_wantSignOrNone w_343 (by decide) rfl rfl (Nat.le_of_ble_eq_true rfl) ⟨Nat.le_of_ble_eq_true rfl, Nat.le_of_ble_eq_true rfl⟩ dX3_write_14 ?_
  refine j_aload_n C dX3_write_17 rfl ?_
  refine j_iload_n C dX3_write_18 rfl ?_
  refine j_callVv C 4 (w := (dW E t sz sg la dk z g b cr ca cg ck rest)) (c_wantThere_r l E A (by omega) hn hz) ok_X3_wantThere w_365 (by decide) rfl rfl (Nat.le_of_ble_eq_true rfl) rfl rfl ⟨Nat.le_of_ble_eq_true rfl, Nat.le_of_ble_eq_true rfl⟩ dX3_write_19 ?_
  refine j_iload_n C dX3_write_22 rfl ?_
  refine j_iconst (v := (-1)) C dX3_write_23 rfl ?_
  refine j_icmp_ne_t (tgt := 31) C dX3_write_24 (by decide) e0 ?_
  refine j_iload_n C dX3_write_31 rfl ?_
  refine j_iconst (v := (-1)) C dX3_write_32 rfl ?_
  refine j_icmp_ne_t (tgt := 40) C dX3_write_33 (by decide) e1 ?_
  refine j_iload C dX3_write_40 rfl ?_
  refine j_iconst (v := (-1)) C dX3_write_42 rfl ?_
  refine j_icmp_ne_f (tgt := 50) C dX3_write_43 (by decide) e2 ?_
  refine j_iconst (v := (nI 2)) C dX3_write_46 rfl ?_
  refine j_goto (tgt := 51) C dX3_write_47 (by decide) ?_
  refine j_istore (lv' := [(5, .int (nI 2)), (0, .ref dk), (1, .int (nI i)), (2, .int a), (3, .int v), (4, .int w)]) C dX3_write_51 (by decide) rfl ?_
  refine j_aload_n C dX3_write_53 rfl ?_
  refine j_iload_n C dX3_write_54 rfl ?_
  refine j_iload C dX3_write_55 rfl ?_
  refine j_callVv C 4 (w := (dW E t sz sg la dk z g b cr ca cg ck rest)) (c_wantRoom_r l E A (by omega) hz (by omega)) ok_X3_wantRoom w_386 (by decide) rfl rfl (Nat.le_of_ble_eq_true rfl) rfl rfl ⟨Nat.le_of_ble_eq_true rfl, Nat.le_of_ble_eq_true rfl⟩ dX3_write_57 ?_
  refine j_iload C dX3_write_60 rfl ?_
  refine j_ifn_le_f (tgt := 74) C dX3_write_62 (by decide) (by omega) (by omega) ?_
  refine j_aload_n C dX3_write_65 rfl ?_
  refine j_get C 4 rfl inj_X3 rfl 0 (by decide) w_73 rfl dX3_write_66 ?_
  refine j_iload_n C dX3_write_69 rfl ?_
  refine j_iload_n C dX3_write_70 rfl ?_
  refine j_callVv C 0 (w := (dW E t sz sg la dk (upd z i (nI (n + 1))) (upd g (i * 24 + n) a) b cr ca cg ck rest)) (c_add l E A (by omega) hz (by omega)) ok_X2_add w_391 (by decide) rfl rfl (Nat.le_of_ble_eq_true rfl) rfl rfl ⟨Nat.le_of_ble_eq_true rfl, Nat.le_of_ble_eq_true rfl⟩ dX3_write_71 ?_
  refine j_iload C dX3_write_74 rfl ?_
  refine j_iconst (v := (nI 1)) C dX3_write_76 rfl ?_
  refine j_icmpn_le_f (tgt := 89) C dX3_write_77 (by decide) (by omega) (by omega) (by omega) ?_
  refine j_aload_n C dX3_write_80 rfl ?_
  refine j_get C 4 rfl inj_X3 rfl 0 (by decide) w_73 rfl dX3_write_81 ?_
  refine j_iload_n C dX3_write_84 rfl ?_
  refine j_iload_n C dX3_write_85 rfl ?_
  refine j_callVv C 0 (w := (dW E t sz sg la dk (upd (upd z i (nI (n + 1))) i (nI (n + 1 + 1))) (upd (upd g (i * 24 + n) a) (i * 24 + (n + 1)) v) b cr ca cg ck rest)) (c_add l E A (by omega) pk_us' (by omega)) ok_X2_add w_391 (by decide) rfl rfl (Nat.le_of_ble_eq_true rfl) rfl rfl ⟨Nat.le_of_ble_eq_true rfl, Nat.le_of_ble_eq_true rfl⟩ dX3_write_86 ?_
  refine j_iload C dX3_write_89 rfl ?_
  refine j_iconst (v := (nI 2)) C dX3_write_91 rfl ?_
  refine j_icmpn_le_t (tgt := 105) C dX3_write_92 (by decide) (by omega) (by omega) (by omega) ?_
  refine j_aload_n C dX3_write_105 rfl ?_
  refine j_get C 4 rfl inj_X3 rfl 0 (by decide) w_73 rfl dX3_write_106 ?_
  refine j_iload_n C dX3_write_109 rfl ?_
  refine j_callVr C 0 (v := .int (nI (n + 1 + 1))) (w := (dW E t sz sg la dk (upd (upd z i (nI (n + 1))) i (nI (n + 1 + 1))) (upd (upd g (i * 24 + n) a) (i * 24 + (n + 1)) v) b cr ca cg ck rest)) (c_size_n l E A (by omega) pk_us') ok_X2_size w_241 (by decide) rfl rfl (Nat.le_of_ble_eq_true rfl) rfl rfl ⟨Nat.le_of_ble_eq_true rfl, Nat.le_of_ble_eq_true rfl⟩ dX3_write_110 ?_
  exact j_iret C hQ rfl dX3_write_113 ⟨Nat.le_of_ble_eq_true rfl, Nat.le_of_ble_eq_true rfl⟩ ⟨rfl, rfl⟩
set_option maxHeartbeats 4000000 in
set_option maxRecDepth 100000 in
theorem f_write_f3 (l : Launch) (hl : l.stackTraces = false) (E : jE) (A : Nat → Prop) {t sz sg la dk : Nat} {z g b : Nat → Int32} {cr ca cg ck : Int32} {rest : va_W} {i : Nat} (hi : i < 9) {a v w : Int32} (ha : a = -1 ∨ isSg a) (hv : v = -1 ∨ isSg v) (hw : w = -1 ∨ isSg w) {n : Nat} (hn : n ≤ 24) (hz : z i = nI n) (e0 : ¬ a = -1) (e1 : ¬ v = -1) (e2 : ¬ w = -1) (ho : ¬ n + 3 ≤ 24) : jMet l yX3_write cX3_write 6 (some .int) 5 1 6 E A [.ref dk, .int (nI i), .int a, .int v, .int w] (dW E t sz sg la dk z g b cr ca cg ck rest) jNv (jT jIS (dW E t sz sg la dk z g b cr ca cg ck rest)) := by
  refine jMet.intro' [(0, .ref dk), (1, .int (nI i)), (2, .int a), (3, .int v), (4, .int w)] (by decide) (Nat.le_of_ble_eq_true rfl) rfl ?_
  intro p e R s m args below meth c Q C hQ
  refine j_iload_n C dX3_write_0 rfl ?_
  refine j_callSv C (w := (dW E t sz sg la dk z g b cr ca cg ck rest)) (c_wantSeat_r l E A (by omega)) ok_X3_wantSeat w_272 (by decide) rfl rfl (Nat.le_of_ble_eq_true rfl) ⟨Nat.le_of_ble_eq_true rfl, Nat.le_of_ble_eq_true rfl⟩ dX3_write_1 ?_
  refine j_iload_n C dX3_write_4 rfl ?_
  refine j_callSv C (w := (dW E t sz sg la dk z g b cr ca cg ck rest)) (c_wantSN_ok l E A ha) ok_X3_wantSignOrNone w_343 (by decide) rfl rfl (Nat.le_of_ble_eq_true rfl) ⟨Nat.le_of_ble_eq_true rfl, Nat.le_of_ble_eq_true rfl⟩ dX3_write_5 ?_
  refine j_iload_n C dX3_write_8 rfl ?_
  refine j_callSv C (w := (dW E t sz sg la dk z g b cr ca cg ck rest)) (c_wantSN_ok l E A hv) ok_X3_wantSignOrNone w_343 (by decide) rfl rfl (Nat.le_of_ble_eq_true rfl) ⟨Nat.le_of_ble_eq_true rfl, Nat.le_of_ble_eq_true rfl⟩ dX3_write_9 ?_
  refine j_iload C dX3_write_12 rfl ?_
  refine j_callSv C (w := (dW E t sz sg la dk z g b cr ca cg ck rest)) (c_wantSN_ok l E A hw) ok_X3_wantSignOrNone w_343 (by decide) rfl rfl (Nat.le_of_ble_eq_true rfl) ⟨Nat.le_of_ble_eq_true rfl, Nat.le_of_ble_eq_true rfl⟩ dX3_write_14 ?_
  refine j_aload_n C dX3_write_17 rfl ?_
  refine j_iload_n C dX3_write_18 rfl ?_
  refine j_callVv C 4 (w := (dW E t sz sg la dk z g b cr ca cg ck rest)) (c_wantThere_r l E A (by omega) hn hz) ok_X3_wantThere w_365 (by decide) rfl rfl (Nat.le_of_ble_eq_true rfl) rfl rfl ⟨Nat.le_of_ble_eq_true rfl, Nat.le_of_ble_eq_true rfl⟩ dX3_write_19 ?_
  refine j_iload_n C dX3_write_22 rfl ?_
  refine j_iconst (v := (-1)) C dX3_write_23 rfl ?_
  refine j_icmp_ne_t (tgt := 31) C dX3_write_24 (by decide) e0 ?_
  refine j_iload_n C dX3_write_31 rfl ?_
  refine j_iconst (v := (-1)) C dX3_write_32 rfl ?_
  refine j_icmp_ne_t (tgt := 40) C dX3_write_33 (by decide) e1 ?_
  refine j_iload C dX3_write_40 rfl ?_
  refine j_iconst (v := (-1)) C dX3_write_42 rfl ?_
  refine j_icmp_ne_t (tgt := 50) C dX3_write_43 (by decide) e2 ?_
  refine j_iconst (v := (nI 3)) C dX3_write_50 rfl ?_
  refine j_istore (lv' := [(5, .int (nI 3)), (0, .ref dk), (1, .int (nI i)), (2, .int a), (3, .int v), (4, .int w)]) C dX3_write_51 (by decide) rfl ?_
  refine j_aload_n C dX3_write_53 rfl ?_
  refine j_iload_n C dX3_write_54 rfl ?_
  refine j_iload C dX3_write_55 rfl ?_
  refine j_callVx C 4 (c_wantRoom_x l hl E A (by omega) hz (by omega) (by omega) (by omega)) ok_X3_wantRoom w_386 (by decide) rfl rfl (Nat.le_of_ble_eq_true rfl) rfl rfl ⟨Nat.le_of_ble_eq_true rfl, Nat.le_of_ble_eq_true rfl⟩ dX3_write_57 ?_
  exact j_xout C hQ ⟨Nat.le_of_ble_eq_true rfl, Nat.le_of_ble_eq_true rfl⟩ ⟨rfl, rfl⟩
set_option maxHeartbeats 4000000 in
set_option maxRecDepth 100000 in
theorem f_write_k3 (l : Launch) (E : jE) (A : Nat → Prop) {t sz sg la dk : Nat} {z g b : Nat → Int32} {cr ca cg ck : Int32} {rest : va_W} {i : Nat} (hi : i < 9) {a v w : Int32} (ha : a = -1 ∨ isSg a) (hv : v = -1 ∨ isSg v) (hw : w = -1 ∨ isSg w) {n : Nat} (hn : n ≤ 24) (hz : z i = nI n) (e0 : ¬ a = -1) (e1 : ¬ v = -1) (e2 : ¬ w = -1) (ho : n + 3 ≤ 24) : jMet l yX3_write cX3_write 6 (some .int) 5 0 0 E A [.ref dk, .int (nI i), .int a, .int v, .int w] (dW E t sz sg la dk z g b cr ca cg ck rest) (jR (some (.int (nI (n + 1 + 1 + 1)))) (dW E t sz sg la dk (upd (upd (upd z i (nI (n + 1))) i (nI (n + 1 + 1))) i (nI (n + 1 + 1 + 1))) (upd (upd (upd g (i * 24 + n) a) (i * 24 + (n + 1)) v) (i * 24 + (n + 1 + 1)) w) b cr ca cg ck rest)) jNo := by
  refine jMet.intro' [(0, .ref dk), (1, .int (nI i)), (2, .int a), (3, .int v), (4, .int w)] (by decide) (Nat.le_of_ble_eq_true rfl) rfl ?_
  intro p e R s m args below meth c Q C hQ
  refine j_iload_n C dX3_write_0 rfl ?_
  refine j_callSv C (w := (dW E t sz sg la dk z g b cr ca cg ck rest)) (c_wantSeat_r l E A (by omega)) ok_X3_wantSeat w_272 (by decide) rfl rfl (Nat.le_of_ble_eq_true rfl) ⟨Nat.le_of_ble_eq_true rfl, Nat.le_of_ble_eq_true rfl⟩ dX3_write_1 ?_
  refine j_iload_n C dX3_write_4 rfl ?_
  refine j_callSv C (w := (dW E t sz sg la dk z g b cr ca cg ck rest)) (c_wantSN_ok l E A ha) ok_X3_wantSignOrNone w_343 (by decide) rfl rfl (Nat.le_of_ble_eq_true rfl) ⟨Nat.le_of_ble_eq_true rfl, Nat.le_of_ble_eq_true rfl⟩ dX3_write_5 ?_
  refine j_iload_n C dX3_write_8 rfl ?_
  refine j_callSv C (w := (dW E t sz sg la dk z g b cr ca cg ck rest)) (c_wantSN_ok l E A hv) ok_X3_wantSignOrNone w_343 (by decide) rfl rfl (Nat.le_of_ble_eq_true rfl) ⟨Nat.le_of_ble_eq_true rfl, Nat.le_of_ble_eq_true rfl⟩ dX3_write_9 ?_
  refine j_iload C dX3_write_12 rfl ?_
  refine j_callSv C (w := (dW E t sz sg la dk z g b cr ca cg ck rest)) (c_wantSN_ok l E A hw) ok_X3_wantSignOrNone w_343 (by decide) rfl rfl (Nat.le_of_ble_eq_true rfl) ⟨Nat.le_of_ble_eq_true rfl, Nat.le_of_ble_eq_true rfl⟩ dX3_write_14 ?_
  refine j_aload_n C dX3_write_17 rfl ?_
  refine j_iload_n C dX3_write_18 rfl ?_
  refine j_callVv C 4 (w := (dW E t sz sg la dk z g b cr ca cg ck rest)) (c_wantThere_r l E A (by omega) hn hz) ok_X3_wantThere w_365 (by decide) rfl rfl (Nat.le_of_ble_eq_true rfl) rfl rfl ⟨Nat.le_of_ble_eq_true rfl, Nat.le_of_ble_eq_true rfl⟩ dX3_write_19 ?_
  refine j_iload_n C dX3_write_22 rfl ?_
  refine j_iconst (v := (-1)) C dX3_write_23 rfl ?_
  refine j_icmp_ne_t (tgt := 31) C dX3_write_24 (by decide) e0 ?_
  refine j_iload_n C dX3_write_31 rfl ?_
  refine j_iconst (v := (-1)) C dX3_write_32 rfl ?_
  refine j_icmp_ne_t (tgt := 40) C dX3_write_33 (by decide) e1 ?_
  refine j_iload C dX3_write_40 rfl ?_
  refine j_iconst (v := (-1)) C dX3_write_42 rfl ?_
  refine j_icmp_ne_t (tgt := 50) C dX3_write_43 (by decide) e2 ?_
  refine j_iconst (v := (nI 3)) C dX3_write_50 rfl ?_
  refine j_istore (lv' := [(5, .int (nI 3)), (0, .ref dk), (1, .int (nI i)), (2, .int a), (3, .int v), (4, .int w)]) C dX3_write_51 (by decide) rfl ?_
  refine j_aload_n C dX3_write_53 rfl ?_
  refine j_iload_n C dX3_write_54 rfl ?_
  refine j_iload C dX3_write_55 rfl ?_
  refine j_callVv C 4 (w := (dW E t sz sg la dk z g b cr ca cg ck rest)) (c_wantRoom_r l E A (by omega) hz (by omega)) ok_X3_wantRoom w_386 (by decide) rfl rfl (Nat.le_of_ble_eq_true rfl) rfl rfl ⟨Nat.le_of_ble_eq_true rfl, Nat.le_of_ble_eq_true rfl⟩ dX3_write_57 ?_
  refine j_iload C dX3_write_60 rfl ?_
  refine j_ifn_le_f (tgt := 74) C dX3_write_62 (by decide) (by omega) (by omega) ?_
  refine j_aload_n C dX3_write_65 rfl ?_
  refine j_get C 4 rfl inj_X3 rfl 0 (by decide) w_73 rfl dX3_write_66 ?_
  refine j_iload_n C dX3_write_69 rfl ?_
  refine j_iload_n C dX3_write_70 rfl ?_
  refine j_callVv C 0 (w := (dW E t sz sg la dk (upd z i (nI (n + 1))) (upd g (i * 24 + n) a) b cr ca cg ck rest)) (c_add l E A (by omega) hz (by omega)) ok_X2_add w_391 (by decide) rfl rfl (Nat.le_of_ble_eq_true rfl) rfl rfl ⟨Nat.le_of_ble_eq_true rfl, Nat.le_of_ble_eq_true rfl⟩ dX3_write_71 ?_
  refine j_iload C dX3_write_74 rfl ?_
  refine j_iconst (v := (nI 1)) C dX3_write_76 rfl ?_
  refine j_icmpn_le_f (tgt := 89) C dX3_write_77 (by decide) (by omega) (by omega) (by omega) ?_
  refine j_aload_n C dX3_write_80 rfl ?_
  refine j_get C 4 rfl inj_X3 rfl 0 (by decide) w_73 rfl dX3_write_81 ?_
  refine j_iload_n C dX3_write_84 rfl ?_
  refine j_iload_n C dX3_write_85 rfl ?_
  refine j_callVv C 0 (w := (dW E t sz sg la dk (upd (upd z i (nI (n + 1))) i (nI (n + 1 + 1))) (upd (upd g (i * 24 + n) a) (i * 24 + (n + 1)) v) b cr ca cg ck rest)) (c_add l E A (by omega) pk_us' (by omega)) ok_X2_add w_391 (by decide) rfl rfl (Nat.le_of_ble_eq_true rfl) rfl rfl ⟨Nat.le_of_ble_eq_true rfl, Nat.le_of_ble_eq_true rfl⟩ dX3_write_86 ?_
  refine j_iload C dX3_write_89 rfl ?_
  refine j_iconst (v := (nI 2)) C dX3_write_91 rfl ?_
  refine j_icmpn_le_f (tgt := 105) C dX3_write_92 (by decide) (by omega) (by omega) (by omega) ?_
  refine j_aload_n C dX3_write_95 rfl ?_
  refine j_get C 4 rfl inj_X3 rfl 0 (by decide) w_73 rfl dX3_write_96 ?_
  refine j_iload_n C dX3_write_99 rfl ?_
  refine j_iload C dX3_write_100 rfl ?_
  refine j_callVv C 0 (w := (dW E t sz sg la dk (upd (upd (upd z i (nI (n + 1))) i (nI (n + 1 + 1))) i (nI (n + 1 + 1 + 1))) (upd (upd (upd g (i * 24 + n) a) (i * 24 + (n + 1)) v) (i * 24 + (n + 1 + 1)) w) b cr ca cg ck rest)) (c_add l E A (by omega) pk_us' (by omega)) ok_X2_add w_391 (by decide) rfl rfl (Nat.le_of_ble_eq_true rfl) rfl rfl ⟨Nat.le_of_ble_eq_true rfl, Nat.le_of_ble_eq_true rfl⟩ dX3_write_102 ?_
  refine j_aload_n C dX3_write_105 rfl ?_
  refine j_get C 4 rfl inj_X3 rfl 0 (by decide) w_73 rfl dX3_write_106 ?_
  refine j_iload_n C dX3_write_109 rfl ?_
  refine j_callVr C 0 (v := .int (nI (n + 1 + 1 + 1))) (w := (dW E t sz sg la dk (upd (upd (upd z i (nI (n + 1))) i (nI (n + 1 + 1))) i (nI (n + 1 + 1 + 1))) (upd (upd (upd g (i * 24 + n) a) (i * 24 + (n + 1)) v) (i * 24 + (n + 1 + 1)) w) b cr ca cg ck rest)) (c_size_n l E A (by omega) pk_us') ok_X2_size w_241 (by decide) rfl rfl (Nat.le_of_ble_eq_true rfl) rfl rfl ⟨Nat.le_of_ble_eq_true rfl, Nat.le_of_ble_eq_true rfl⟩ dX3_write_110 ?_
  exact j_iret C hQ rfl dX3_write_113 ⟨Nat.le_of_ble_eq_true rfl, Nat.le_of_ble_eq_true rfl⟩ ⟨rfl, rfl⟩
set_option maxHeartbeats 4000000 in
set_option maxRecDepth 100000 in
theorem f_cut_b (l : Launch) (hl : l.stackTraces = false) (E : jE) (A : Nat → Prop) {t sz sg la dk : Nat} {z g b : Nat → Int32} {cr ca cg ck : Int32} {rest : va_W} {x y w : Int32} (hbx : x < 0 ∨ nI 9 ≤ x) : jMet l yX3_cut cX3_cut 4 (some .int) 5 1 6 E A [.ref dk, .int x, .int y, .int w] (dW E t sz sg la dk z g b cr ca cg ck rest) jNv (jT jIO (dW E t sz sg la dk z g b cr ca cg ck rest)) := by
  refine jMet.intro' [(0, .ref dk), (1, .int x), (2, .int y), (3, .int w)] (by decide) (Nat.le_of_ble_eq_true rfl) rfl ?_
  intro p e R s m args below meth c Q C hQ
  refine j_iload_n C dX3_cut_0 rfl ?_
  refine j_callSx C (c_wantSeat_x l hl E A hbx) ok_X3_wantSeat w_272 (by decide) rfl rfl (Nat.le_of_ble_eq_true rfl) ⟨Nat.le_of_ble_eq_true rfl, Nat.le_of_ble_eq_true rfl⟩ dX3_cut_1 ?_
  exact j_xout C hQ ⟨Nat.le_of_ble_eq_true rfl, Nat.le_of_ble_eq_true rfl⟩ ⟨rfl, rfl⟩
set_option maxHeartbeats 4000000 in
set_option maxRecDepth 100000 in
theorem f_cut_m (l : Launch) (hl : l.stackTraces = false) (E : jE) (A : Nat → Prop) {t sz sg la dk : Nat} {z g b : Nat → Int32} {cr ca cg ck : Int32} {rest : va_W} {i : Nat} (hi : i < 9) {y w : Int32} (hz : z i = -1)  : jMet l yX3_cut cX3_cut 4 (some .int) 5 1 6 E A [.ref dk, .int (nI i), .int y, .int w] (dW E t sz sg la dk z g b cr ca cg ck rest) jNv (jT jIS (dW E t sz sg la dk z g b cr ca cg ck rest)) := by
  refine jMet.intro' [(0, .ref dk), (1, .int (nI i)), (2, .int y), (3, .int w)] (by decide) (Nat.le_of_ble_eq_true rfl) rfl ?_
  intro p e R s m args below meth c Q C hQ
  refine j_iload_n C dX3_cut_0 rfl ?_
  refine j_callSv C (w := (dW E t sz sg la dk z g b cr ca cg ck rest)) (c_wantSeat_r l E A (by omega)) ok_X3_wantSeat w_272 (by decide) rfl rfl (Nat.le_of_ble_eq_true rfl) ⟨Nat.le_of_ble_eq_true rfl, Nat.le_of_ble_eq_true rfl⟩ dX3_cut_1 ?_
  refine j_aload_n C dX3_cut_4 rfl ?_
  refine j_iload_n C dX3_cut_5 rfl ?_
  refine j_callVx C 4 (c_wantThere_x l hl E A (by omega) hz) ok_X3_wantThere w_365 (by decide) rfl rfl (Nat.le_of_ble_eq_true rfl) rfl rfl ⟨Nat.le_of_ble_eq_true rfl, Nat.le_of_ble_eq_true rfl⟩ dX3_cut_6 ?_
  exact j_xout C hQ ⟨Nat.le_of_ble_eq_true rfl, Nat.le_of_ble_eq_true rfl⟩ ⟨rfl, rfl⟩
set_option maxHeartbeats 4000000 in
set_option maxRecDepth 100000 in
theorem f_cut_o (l : Launch) (E : jE) (A : Nat → Prop) {t sz sg la dk : Nat} {z g b : Nat → Int32} {cr ca cg ck : Int32} {rest : va_W} {i : Nat} (hi : i < 9) {y w : Int32} {n : Nat} (hn : n ≤ 24) (hz : z i = nI n) (hout : ¬ (¬ y.toInt64 < 0 ∧ ¬ w.toInt64 < y.toInt64 ∧ ¬ ((nI n).toInt64) < w.toInt64)) : jMet l yX3_cut cX3_cut 4 (some .int) 5 0 0 E A [.ref dk, .int (nI i), .int y, .int w] (dW E t sz sg la dk z g b cr ca cg ck rest) (jR (some (.int (-9))) (dW E t sz sg la dk z g b (cr + nI 1) ca cg ck rest)) jNo := by
  refine jMet.intro' [(0, .ref dk), (1, .int (nI i)), (2, .int y), (3, .int w)] (by decide) (Nat.le_of_ble_eq_true rfl) rfl ?_
  intro p e R s m args below meth c Q C hQ
  refine j_iload_n C dX3_cut_0 rfl ?_
  refine j_callSv C (w := (dW E t sz sg la dk z g b cr ca cg ck rest)) (c_wantSeat_r l E A (by omega)) ok_X3_wantSeat w_272 (by decide) rfl rfl (Nat.le_of_ble_eq_true rfl) ⟨Nat.le_of_ble_eq_true rfl, Nat.le_of_ble_eq_true rfl⟩ dX3_cut_1 ?_
  refine j_aload_n C dX3_cut_4 rfl ?_
  refine j_iload_n C dX3_cut_5 rfl ?_
  refine j_callVv C 4 (w := (dW E t sz sg la dk z g b cr ca cg ck rest)) (c_wantThere_r l E A (by omega) hn hz) ok_X3_wantThere w_365 (by decide) rfl rfl (Nat.le_of_ble_eq_true rfl) rfl rfl ⟨Nat.le_of_ble_eq_true rfl, Nat.le_of_ble_eq_true rfl⟩ dX3_cut_6 ?_
  refine j_iload_n C dX3_cut_9 rfl ?_
  refine j_i2l (v := y.toInt64) C dX3_cut_10 rfl ?_
  refine j_iload_n C dX3_cut_11 rfl ?_
  refine j_i2l (v := w.toInt64) C dX3_cut_12 rfl ?_
  refine j_aload_n C dX3_cut_13 rfl ?_
  refine j_get C 4 rfl inj_X3 rfl 0 (by decide) w_73 rfl dX3_cut_14 ?_
  refine j_iload_n C dX3_cut_17 rfl ?_
  refine j_callVr C 0 (v := .int (nI n)) (w := (dW E t sz sg la dk z g b cr ca cg ck rest)) (c_size_n l E A (by omega) hz) ok_X2_size w_241 (by decide) rfl rfl (Nat.le_of_ble_eq_true rfl) rfl rfl ⟨Nat.le_of_ble_eq_true rfl, Nat.le_of_ble_eq_true rfl⟩ dX3_cut_18 ?_
  refine j_i2l (v := (nI n).toInt64) C dX3_cut_21 rfl ?_
  refine j_callSr C (v := .int (bI (¬ y.toInt64 < 0 ∧ ¬ w.toInt64 < y.toInt64 ∧ ¬ ((nI n).toInt64) < w.toInt64))) (w := (dW E t sz sg la dk z g b cr ca cg ck rest)) (c_holdsSpan l E A) ok_X0_holdsSpan w_104 (by decide) rfl rfl (Nat.le_of_ble_eq_true rfl) ⟨Nat.le_of_ble_eq_true rfl, Nat.le_of_ble_eq_true rfl⟩ dX3_cut_22 ?_
  refine j_ifb_ne_f (tgt := 33) C dX3_cut_25 (by decide) hout ?_
  refine j_aload_n C dX3_cut_28 rfl ?_
  refine j_callVr C 4 (v := .int (-9)) (w := (dW E t sz sg la dk z g b (cr + nI 1) ca cg ck rest)) (c_refuse l E A) ok_X3_refuse w_96 (by decide) rfl rfl (Nat.le_of_ble_eq_true rfl) rfl rfl ⟨Nat.le_of_ble_eq_true rfl, Nat.le_of_ble_eq_true rfl⟩ dX3_cut_29 ?_
  exact j_iret C hQ rfl dX3_cut_32 ⟨Nat.le_of_ble_eq_true rfl, Nat.le_of_ble_eq_true rfl⟩ ⟨rfl, rfl⟩
set_option maxHeartbeats 4000000 in
set_option maxRecDepth 100000 in
theorem f_cut_k (l : Launch) (E : jE) (A : Nat → Prop) {t sz sg la dk : Nat} {z g b : Nat → Int32} {cr ca cg ck : Int32} {rest : va_W} {i : Nat} (hi : i < 9) {a v : Nat} {n : Nat} (hn : n ≤ 24) (hz : z i = nI n) (hav : a ≤ v) (hvn : v ≤ n) : jMet l yX3_cut cX3_cut 4 (some .int) 5 0 0 E A [.ref dk, .int (nI i), .int (nI a), .int (nI v)] (dW E t sz sg la dk z g b cr ca cg ck rest) (jR (some (.int (nI (v - a)))) (dW E t sz sg la dk (upd z i (nI (v - a))) (jput g (jput b (fun q => g (i * 24 + (a + q))) 0 (v - a)) (i * 24) (v - a)) (jput b (fun q => g (i * 24 + (a + q))) 0 (v - a)) cr ca cg ck rest)) jNo := by
  refine jMet.intro' [(0, .ref dk), (1, .int (nI i)), (2, .int (nI a)), (3, .int (nI v))] (by decide) (Nat.le_of_ble_eq_true rfl) rfl ?_
  intro p e R s m args below meth c Q C hQ
  refine j_iload_n C dX3_cut_0 rfl ?_
  refine j_callSv C (w := (dW E t sz sg la dk z g b cr ca cg ck rest)) (c_wantSeat_r l E A (by omega)) ok_X3_wantSeat w_272 (by decide) rfl rfl (Nat.le_of_ble_eq_true rfl) ⟨Nat.le_of_ble_eq_true rfl, Nat.le_of_ble_eq_true rfl⟩ dX3_cut_1 ?_
  refine j_aload_n C dX3_cut_4 rfl ?_
  refine j_iload_n C dX3_cut_5 rfl ?_
  refine j_callVv C 4 (w := (dW E t sz sg la dk z g b cr ca cg ck rest)) (c_wantThere_r l E A (by omega) hn hz) ok_X3_wantThere w_365 (by decide) rfl rfl (Nat.le_of_ble_eq_true rfl) rfl rfl ⟨Nat.le_of_ble_eq_true rfl, Nat.le_of_ble_eq_true rfl⟩ dX3_cut_6 ?_
  refine j_iload_n C dX3_cut_9 rfl ?_
  refine j_i2l (v := (nI a).toInt64) C dX3_cut_10 rfl ?_
  refine j_iload_n C dX3_cut_11 rfl ?_
  refine j_i2l (v := (nI v).toInt64) C dX3_cut_12 rfl ?_
  refine j_aload_n C dX3_cut_13 rfl ?_
  refine j_get C 4 rfl inj_X3 rfl 0 (by decide) w_73 rfl dX3_cut_14 ?_
  refine j_iload_n C dX3_cut_17 rfl ?_
  refine j_callVr C 0 (v := .int (nI n)) (w := (dW E t sz sg la dk z g b cr ca cg ck rest)) (c_size_n l E A (by omega) hz) ok_X2_size w_241 (by decide) rfl rfl (Nat.le_of_ble_eq_true rfl) rfl rfl ⟨Nat.le_of_ble_eq_true rfl, Nat.le_of_ble_eq_true rfl⟩ dX3_cut_18 ?_
  refine j_i2l (v := (nI n).toInt64) C dX3_cut_21 rfl ?_
  refine j_callSr C (v := .int (bI (¬ ((nI a).toInt64) < 0 ∧ ¬ ((nI v).toInt64) < ((nI a).toInt64) ∧ ¬ ((nI n).toInt64) < ((nI v).toInt64)))) (w := (dW E t sz sg la dk z g b cr ca cg ck rest)) (c_holdsSpan l E A) ok_X0_holdsSpan w_104 (by decide) rfl rfl (Nat.le_of_ble_eq_true rfl) ⟨Nat.le_of_ble_eq_true rfl, Nat.le_of_ble_eq_true rfl⟩ dX3_cut_22 ?_
  refine j_ifb_ne_t (tgt := 33) C dX3_cut_25 (by decide) (span_of hav hvn hn) ?_
  refine j_aload_n C dX3_cut_33 rfl ?_
  refine j_get C 4 rfl inj_X3 rfl 0 (by decide) w_73 rfl dX3_cut_34 ?_
  refine j_iload_n C dX3_cut_37 rfl ?_
  refine j_iload_n C dX3_cut_38 rfl ?_
  refine j_iload_n C dX3_cut_39 rfl ?_
  refine j_callVr C 0 (v := .int (nI (v - a))) (w := (dW E t sz sg la dk (upd z i (nI (v - a))) (jput g (jput b (fun q => g (i * 24 + (a + q))) 0 (v - a)) (i * 24) (v - a)) (jput b (fun q => g (i * 24 + (a + q))) 0 (v - a)) cr ca cg ck rest)) (c_keep l E A (by omega) (by omega) (by omega)) ok_X2_keep w_421 (by decide) rfl rfl (Nat.le_of_ble_eq_true rfl) rfl rfl ⟨Nat.le_of_ble_eq_true rfl, Nat.le_of_ble_eq_true rfl⟩ dX3_cut_40 ?_
  exact j_iret C hQ rfl dX3_cut_43 ⟨Nat.le_of_ble_eq_true rfl, Nat.le_of_ble_eq_true rfl⟩ ⟨rfl, rfl⟩
set_option maxHeartbeats 4000000 in
set_option maxRecDepth 100000 in
theorem f_take_b (l : Launch) (hl : l.stackTraces = false) (E : jE) (A : Nat → Prop) {t sz sg la dk : Nat} {z g b : Nat → Int32} {cr ca cg ck : Int32} {rest : va_W} {x y w : Int32} (hbx : x < 0 ∨ nI 9 ≤ x) : jMet l yX3_take cX3_take 4 (some .int) 5 1 6 E A [.ref dk, .int x, .int y, .int w] (dW E t sz sg la dk z g b cr ca cg ck rest) jNv (jT jIO (dW E t sz sg la dk z g b cr ca cg ck rest)) := by
  refine jMet.intro' [(0, .ref dk), (1, .int x), (2, .int y), (3, .int w)] (by decide) (Nat.le_of_ble_eq_true rfl) rfl ?_
  intro p e R s m args below meth c Q C hQ
  refine j_iload_n C dX3_take_0 rfl ?_
  refine j_callSx C (c_wantSeat_x l hl E A hbx) ok_X3_wantSeat w_272 (by decide) rfl rfl (Nat.le_of_ble_eq_true rfl) ⟨Nat.le_of_ble_eq_true rfl, Nat.le_of_ble_eq_true rfl⟩ dX3_take_1 ?_
  exact j_xout C hQ ⟨Nat.le_of_ble_eq_true rfl, Nat.le_of_ble_eq_true rfl⟩ ⟨rfl, rfl⟩
set_option maxHeartbeats 4000000 in
set_option maxRecDepth 100000 in
theorem f_take_m (l : Launch) (hl : l.stackTraces = false) (E : jE) (A : Nat → Prop) {t sz sg la dk : Nat} {z g b : Nat → Int32} {cr ca cg ck : Int32} {rest : va_W} {i : Nat} (hi : i < 9) {y w : Int32} (hz : z i = -1)  : jMet l yX3_take cX3_take 4 (some .int) 5 1 6 E A [.ref dk, .int (nI i), .int y, .int w] (dW E t sz sg la dk z g b cr ca cg ck rest) jNv (jT jIS (dW E t sz sg la dk z g b cr ca cg ck rest)) := by
  refine jMet.intro' [(0, .ref dk), (1, .int (nI i)), (2, .int y), (3, .int w)] (by decide) (Nat.le_of_ble_eq_true rfl) rfl ?_
  intro p e R s m args below meth c Q C hQ
  refine j_iload_n C dX3_take_0 rfl ?_
  refine j_callSv C (w := (dW E t sz sg la dk z g b cr ca cg ck rest)) (c_wantSeat_r l E A (by omega)) ok_X3_wantSeat w_272 (by decide) rfl rfl (Nat.le_of_ble_eq_true rfl) ⟨Nat.le_of_ble_eq_true rfl, Nat.le_of_ble_eq_true rfl⟩ dX3_take_1 ?_
  refine j_aload_n C dX3_take_4 rfl ?_
  refine j_iload_n C dX3_take_5 rfl ?_
  refine j_callVx C 4 (c_wantThere_x l hl E A (by omega) hz) ok_X3_wantThere w_365 (by decide) rfl rfl (Nat.le_of_ble_eq_true rfl) rfl rfl ⟨Nat.le_of_ble_eq_true rfl, Nat.le_of_ble_eq_true rfl⟩ dX3_take_6 ?_
  exact j_xout C hQ ⟨Nat.le_of_ble_eq_true rfl, Nat.le_of_ble_eq_true rfl⟩ ⟨rfl, rfl⟩
set_option maxHeartbeats 4000000 in
set_option maxRecDepth 100000 in
theorem f_take_o (l : Launch) (E : jE) (A : Nat → Prop) {t sz sg la dk : Nat} {z g b : Nat → Int32} {cr ca cg ck : Int32} {rest : va_W} {i : Nat} (hi : i < 9) {y w : Int32} {n : Nat} (hn : n ≤ 24) (hz : z i = nI n) (hout : ¬ (¬ y.toInt64 < 0 ∧ ¬ w.toInt64 < 0 ∧ ¬ ((nI n).toInt64) < 0 ∧ ¬ ((nI n).toInt64) - w.toInt64 < y.toInt64)) : jMet l yX3_take cX3_take 4 (some .int) 5 0 0 E A [.ref dk, .int (nI i), .int y, .int w] (dW E t sz sg la dk z g b cr ca cg ck rest) (jR (some (.int (-9))) (dW E t sz sg la dk z g b (cr + nI 1) ca cg ck rest)) jNo := by
  refine jMet.intro' [(0, .ref dk), (1, .int (nI i)), (2, .int y), (3, .int w)] (by decide) (Nat.le_of_ble_eq_true rfl) rfl ?_
  intro p e R s m args below meth c Q C hQ
  refine j_iload_n C dX3_take_0 rfl ?_
  refine j_callSv C (w := (dW E t sz sg la dk z g b cr ca cg ck rest)) (c_wantSeat_r l E A (by omega)) ok_X3_wantSeat w_272 (by decide) rfl rfl (Nat.le_of_ble_eq_true rfl) ⟨Nat.le_of_ble_eq_true rfl, Nat.le_of_ble_eq_true rfl⟩ dX3_take_1 ?_
  refine j_aload_n C dX3_take_4 rfl ?_
  refine j_iload_n C dX3_take_5 rfl ?_
  refine j_callVv C 4 (w := (dW E t sz sg la dk z g b cr ca cg ck rest)) (c_wantThere_r l E A (by omega) hn hz) ok_X3_wantThere w_365 (by decide) rfl rfl (Nat.le_of_ble_eq_true rfl) rfl rfl ⟨Nat.le_of_ble_eq_true rfl, Nat.le_of_ble_eq_true rfl⟩ dX3_take_6 ?_
  refine j_iload_n C dX3_take_9 rfl ?_
  refine j_i2l (v := y.toInt64) C dX3_take_10 rfl ?_
  refine j_iload_n C dX3_take_11 rfl ?_
  refine j_i2l (v := w.toInt64) C dX3_take_12 rfl ?_
  refine j_aload_n C dX3_take_13 rfl ?_
  refine j_get C 4 rfl inj_X3 rfl 0 (by decide) w_73 rfl dX3_take_14 ?_
  refine j_iload_n C dX3_take_17 rfl ?_
  refine j_callVr C 0 (v := .int (nI n)) (w := (dW E t sz sg la dk z g b cr ca cg ck rest)) (c_size_n l E A (by omega) hz) ok_X2_size w_241 (by decide) rfl rfl (Nat.le_of_ble_eq_true rfl) rfl rfl ⟨Nat.le_of_ble_eq_true rfl, Nat.le_of_ble_eq_true rfl⟩ dX3_take_18 ?_
  refine j_i2l (v := (nI n).toInt64) C dX3_take_21 rfl ?_
  refine j_callSr C (v := .int (bI (¬ y.toInt64 < 0 ∧ ¬ w.toInt64 < 0 ∧ ¬ ((nI n).toInt64) < 0 ∧ ¬ ((nI n).toInt64) - w.toInt64 < y.toInt64))) (w := (dW E t sz sg la dk z g b cr ca cg ck rest)) (c_holdsStretch l E A) ok_X0_holdsStretch w_111 (by decide) rfl rfl (Nat.le_of_ble_eq_true rfl) ⟨Nat.le_of_ble_eq_true rfl, Nat.le_of_ble_eq_true rfl⟩ dX3_take_22 ?_
  refine j_ifb_ne_f (tgt := 33) C dX3_take_25 (by decide) hout ?_
  refine j_aload_n C dX3_take_28 rfl ?_
  refine j_callVr C 4 (v := .int (-9)) (w := (dW E t sz sg la dk z g b (cr + nI 1) ca cg ck rest)) (c_refuse l E A) ok_X3_refuse w_96 (by decide) rfl rfl (Nat.le_of_ble_eq_true rfl) rfl rfl ⟨Nat.le_of_ble_eq_true rfl, Nat.le_of_ble_eq_true rfl⟩ dX3_take_29 ?_
  exact j_iret C hQ rfl dX3_take_32 ⟨Nat.le_of_ble_eq_true rfl, Nat.le_of_ble_eq_true rfl⟩ ⟨rfl, rfl⟩
set_option maxHeartbeats 4000000 in
set_option maxRecDepth 100000 in
theorem f_take_k (l : Launch) (E : jE) (A : Nat → Prop) {t sz sg la dk : Nat} {z g b : Nat → Int32} {cr ca cg ck : Int32} {rest : va_W} {i : Nat} (hi : i < 9) {a v : Nat} {n : Nat} (hn : n ≤ 24) (hz : z i = nI n) (hav : a + v ≤ n) : jMet l yX3_take cX3_take 4 (some .int) 5 0 0 E A [.ref dk, .int (nI i), .int (nI a), .int (nI v)] (dW E t sz sg la dk z g b cr ca cg ck rest) (jR (some (.int (nI ((a + v) - a)))) (dW E t sz sg la dk (upd z i (nI ((a + v) - a))) (jput g (jput b (fun q => g (i * 24 + (a + q))) 0 ((a + v) - a)) (i * 24) ((a + v) - a)) (jput b (fun q => g (i * 24 + (a + q))) 0 ((a + v) - a)) cr ca cg ck rest)) jNo := by
  refine jMet.intro' [(0, .ref dk), (1, .int (nI i)), (2, .int (nI a)), (3, .int (nI v))] (by decide) (Nat.le_of_ble_eq_true rfl) rfl ?_
  intro p e R s m args below meth c Q C hQ
  refine j_iload_n C dX3_take_0 rfl ?_
  refine j_callSv C (w := (dW E t sz sg la dk z g b cr ca cg ck rest)) (c_wantSeat_r l E A (by omega)) ok_X3_wantSeat w_272 (by decide) rfl rfl (Nat.le_of_ble_eq_true rfl) ⟨Nat.le_of_ble_eq_true rfl, Nat.le_of_ble_eq_true rfl⟩ dX3_take_1 ?_
  refine j_aload_n C dX3_take_4 rfl ?_
  refine j_iload_n C dX3_take_5 rfl ?_
  refine j_callVv C 4 (w := (dW E t sz sg la dk z g b cr ca cg ck rest)) (c_wantThere_r l E A (by omega) hn hz) ok_X3_wantThere w_365 (by decide) rfl rfl (Nat.le_of_ble_eq_true rfl) rfl rfl ⟨Nat.le_of_ble_eq_true rfl, Nat.le_of_ble_eq_true rfl⟩ dX3_take_6 ?_
  refine j_iload_n C dX3_take_9 rfl ?_
  refine j_i2l (v := (nI a).toInt64) C dX3_take_10 rfl ?_
  refine j_iload_n C dX3_take_11 rfl ?_
  refine j_i2l (v := (nI v).toInt64) C dX3_take_12 rfl ?_
  refine j_aload_n C dX3_take_13 rfl ?_
  refine j_get C 4 rfl inj_X3 rfl 0 (by decide) w_73 rfl dX3_take_14 ?_
  refine j_iload_n C dX3_take_17 rfl ?_
  refine j_callVr C 0 (v := .int (nI n)) (w := (dW E t sz sg la dk z g b cr ca cg ck rest)) (c_size_n l E A (by omega) hz) ok_X2_size w_241 (by decide) rfl rfl (Nat.le_of_ble_eq_true rfl) rfl rfl ⟨Nat.le_of_ble_eq_true rfl, Nat.le_of_ble_eq_true rfl⟩ dX3_take_18 ?_
  refine j_i2l (v := (nI n).toInt64) C dX3_take_21 rfl ?_
  refine j_callSr C (v := .int (bI (¬ ((nI a).toInt64) < 0 ∧ ¬ ((nI v).toInt64) < 0 ∧ ¬ ((nI n).toInt64) < 0 ∧ ¬ ((nI n).toInt64) - ((nI v).toInt64) < ((nI a).toInt64)))) (w := (dW E t sz sg la dk z g b cr ca cg ck rest)) (c_holdsStretch l E A) ok_X0_holdsStretch w_111 (by decide) rfl rfl (Nat.le_of_ble_eq_true rfl) ⟨Nat.le_of_ble_eq_true rfl, Nat.le_of_ble_eq_true rfl⟩ dX3_take_22 ?_
  refine j_ifb_ne_t (tgt := 33) C dX3_take_25 (by decide) (stre_of hav hn) ?_
  refine j_aload_n C dX3_take_33 rfl ?_
  refine j_get C 4 rfl inj_X3 rfl 0 (by decide) w_73 rfl dX3_take_34 ?_
  refine j_iload_n C dX3_take_37 rfl ?_
  refine j_iload_n C dX3_take_38 rfl ?_
  refine j_iload_n C dX3_take_39 rfl ?_
  refine j_iload_n C dX3_take_40 rfl ?_
  refine j_iadd (z := (nI (a + v))) C dX3_take_41 (nI_add _ _) ?_
  refine j_callVr C 0 (v := .int (nI ((a + v) - a))) (w := (dW E t sz sg la dk (upd z i (nI ((a + v) - a))) (jput g (jput b (fun q => g (i * 24 + (a + q))) 0 ((a + v) - a)) (i * 24) ((a + v) - a)) (jput b (fun q => g (i * 24 + (a + q))) 0 ((a + v) - a)) cr ca cg ck rest)) (c_keep l E A (by omega) (by omega) (by omega)) ok_X2_keep w_421 (by decide) rfl rfl (Nat.le_of_ble_eq_true rfl) rfl rfl ⟨Nat.le_of_ble_eq_true rfl, Nat.le_of_ble_eq_true rfl⟩ dX3_take_42 ?_
  exact j_iret C hQ rfl dX3_take_45 ⟨Nat.le_of_ble_eq_true rfl, Nat.le_of_ble_eq_true rfl⟩ ⟨rfl, rfl⟩
set_option maxHeartbeats 4000000 in
set_option maxRecDepth 100000 in
theorem f_put_b (l : Launch) (hl : l.stackTraces = false) (E : jE) (A : Nat → Prop) {t sz sg la dk : Nat} {z g b : Nat → Int32} {cr ca cg ck : Int32} {rest : va_W} {x y w : Int32} (hbx : x < 0 ∨ nI 9 ≤ x) : jMet l yX3_put cX3_put 5 (some .int) 5 1 6 E A [.ref dk, .int x, .int y, .int w] (dW E t sz sg la dk z g b cr ca cg ck rest) jNv (jT jIO (dW E t sz sg la dk z g b cr ca cg ck rest)) := by
  refine jMet.intro' [(0, .ref dk), (1, .int x), (2, .int y), (3, .int w)] (by decide) (Nat.le_of_ble_eq_true rfl) rfl ?_
  intro p e R s m args below meth c Q C hQ
  refine j_iload_n C dX3_put_0 rfl ?_
  refine j_callSx C (c_wantSeat_x l hl E A hbx) ok_X3_wantSeat w_272 (by decide) rfl rfl (Nat.le_of_ble_eq_true rfl) ⟨Nat.le_of_ble_eq_true rfl, Nat.le_of_ble_eq_true rfl⟩ dX3_put_1 ?_
  exact j_xout C hQ ⟨Nat.le_of_ble_eq_true rfl, Nat.le_of_ble_eq_true rfl⟩ ⟨rfl, rfl⟩
set_option maxHeartbeats 4000000 in
set_option maxRecDepth 100000 in
theorem f_put_a (l : Launch) (hl : l.stackTraces = false) (E : jE) (A : Nat → Prop) {t sz sg la dk : Nat} {z g b : Nat → Int32} {cr ca cg ck : Int32} {rest : va_W} {i : Nat} (hi : i < 9) {y w : Int32} (hbw : w < 0 ∨ nI 10 ≤ w) : jMet l yX3_put cX3_put 5 (some .int) 5 1 6 E A [.ref dk, .int (nI i), .int y, .int w] (dW E t sz sg la dk z g b cr ca cg ck rest) jNv (jT jIA (dW E t sz sg la dk z g b cr ca cg ck rest)) := by
  refine jMet.intro' [(0, .ref dk), (1, .int (nI i)), (2, .int y), (3, .int w)] (by decide) (Nat.le_of_ble_eq_true rfl) rfl ?_
  intro p e R s m args below meth c Q C hQ
  refine j_iload_n C dX3_put_0 rfl ?_
  refine j_callSv C (w := (dW E t sz sg la dk z g b cr ca cg ck rest)) (c_wantSeat_r l E A (by omega)) ok_X3_wantSeat w_272 (by decide) rfl rfl (Nat.le_of_ble_eq_true rfl) ⟨Nat.le_of_ble_eq_true rfl, Nat.le_of_ble_eq_true rfl⟩ dX3_put_1 ?_
  refine j_iload_n C dX3_put_4 rfl ?_
  refine j_callSx C (c_wantSign_x l hl E A hbw) ok_X3_wantSign w_346 (by decide) rfl rfl (Nat.le_of_ble_eq_true rfl) ⟨Nat.le_of_ble_eq_true rfl, Nat.le_of_ble_eq_true rfl⟩ dX3_put_5 ?_
  exact j_xout C hQ ⟨Nat.le_of_ble_eq_true rfl, Nat.le_of_ble_eq_true rfl⟩ ⟨rfl, rfl⟩
set_option maxHeartbeats 4000000 in
set_option maxRecDepth 100000 in
theorem f_put_m (l : Launch) (hl : l.stackTraces = false) (E : jE) (A : Nat → Prop) {t sz sg la dk : Nat} {z g b : Nat → Int32} {cr ca cg ck : Int32} {rest : va_W} {i : Nat} (hi : i < 9) {y : Int32} {w : Nat} (hw : w < 10) (hz : z i = -1)  : jMet l yX3_put cX3_put 5 (some .int) 5 1 6 E A [.ref dk, .int (nI i), .int y, .int (nI w)] (dW E t sz sg la dk z g b cr ca cg ck rest) jNv (jT jIS (dW E t sz sg la dk z g b cr ca cg ck rest)) := by
  refine jMet.intro' [(0, .ref dk), (1, .int (nI i)), (2, .int y), (3, .int (nI w))] (by decide) (Nat.le_of_ble_eq_true rfl) rfl ?_
  intro p e R s m args below meth c Q C hQ
  refine j_iload_n C dX3_put_0 rfl ?_
  refine j_callSv C (w := (dW E t sz sg la dk z g b cr ca cg ck rest)) (c_wantSeat_r l E A (by omega)) ok_X3_wantSeat w_272 (by decide) rfl rfl (Nat.le_of_ble_eq_true rfl) ⟨Nat.le_of_ble_eq_true rfl, Nat.le_of_ble_eq_true rfl⟩ dX3_put_1 ?_
  refine j_iload_n C dX3_put_4 rfl ?_
  refine j_callSv C (w := (dW E t sz sg la dk z g b cr ca cg ck rest)) (c_wantSign_r l E A (by omega)) ok_X3_wantSign w_346 (by decide) rfl rfl (Nat.le_of_ble_eq_true rfl) ⟨Nat.le_of_ble_eq_true rfl, Nat.le_of_ble_eq_true rfl⟩ dX3_put_5 ?_
  refine j_aload_n C dX3_put_8 rfl ?_
  refine j_iload_n C dX3_put_9 rfl ?_
  refine j_callVx C 4 (c_wantThere_x l hl E A (by omega) hz) ok_X3_wantThere w_365 (by decide) rfl rfl (Nat.le_of_ble_eq_true rfl) rfl rfl ⟨Nat.le_of_ble_eq_true rfl, Nat.le_of_ble_eq_true rfl⟩ dX3_put_10 ?_
  exact j_xout C hQ ⟨Nat.le_of_ble_eq_true rfl, Nat.le_of_ble_eq_true rfl⟩ ⟨rfl, rfl⟩
set_option maxHeartbeats 4000000 in
set_option maxRecDepth 100000 in
theorem f_put_o (l : Launch) (E : jE) (A : Nat → Prop) {t sz sg la dk : Nat} {z g b : Nat → Int32} {cr ca cg ck : Int32} {rest : va_W} {i : Nat} (hi : i < 9) {y : Int32} {w : Nat} (hw : w < 10) {n : Nat} (hn : n ≤ 24) (hz : z i = nI n) (hout : ¬ (¬ y.toInt64 < 0 ∧ ¬ ((nI n).toInt64) ≤ y.toInt64)) : jMet l yX3_put cX3_put 5 (some .int) 5 0 0 E A [.ref dk, .int (nI i), .int y, .int (nI w)] (dW E t sz sg la dk z g b cr ca cg ck rest) (jR (some (.int (-9))) (dW E t sz sg la dk z g b (cr + nI 1) ca cg ck rest)) jNo := by
  refine jMet.intro' [(0, .ref dk), (1, .int (nI i)), (2, .int y), (3, .int (nI w))] (by decide) (Nat.le_of_ble_eq_true rfl) rfl ?_
  intro p e R s m args below meth c Q C hQ
  refine j_iload_n C dX3_put_0 rfl ?_
  refine j_callSv C (w := (dW E t sz sg la dk z g b cr ca cg ck rest)) (c_wantSeat_r l E A (by omega)) ok_X3_wantSeat w_272 (by decide) rfl rfl (Nat.le_of_ble_eq_true rfl) ⟨Nat.le_of_ble_eq_true rfl, Nat.le_of_ble_eq_true rfl⟩ dX3_put_1 ?_
  refine j_iload_n C dX3_put_4 rfl ?_
  refine j_callSv C (w := (dW E t sz sg la dk z g b cr ca cg ck rest)) (c_wantSign_r l E A (by omega)) ok_X3_wantSign w_346 (by decide) rfl rfl (Nat.le_of_ble_eq_true rfl) ⟨Nat.le_of_ble_eq_true rfl, Nat.le_of_ble_eq_true rfl⟩ dX3_put_5 ?_
  refine j_aload_n C dX3_put_8 rfl ?_
  refine j_iload_n C dX3_put_9 rfl ?_
  refine j_callVv C 4 (w := (dW E t sz sg la dk z g b cr ca cg ck rest)) (c_wantThere_r l E A (by omega) hn hz) ok_X3_wantThere w_365 (by decide) rfl rfl (Nat.le_of_ble_eq_true rfl) rfl rfl ⟨Nat.le_of_ble_eq_true rfl, Nat.le_of_ble_eq_true rfl⟩ dX3_put_10 ?_
  refine j_iload_n C dX3_put_13 rfl ?_
  refine j_i2l (v := y.toInt64) C dX3_put_14 rfl ?_
  refine j_aload_n C dX3_put_15 rfl ?_
  refine j_get C 4 rfl inj_X3 rfl 0 (by decide) w_73 rfl dX3_put_16 ?_
  refine j_iload_n C dX3_put_19 rfl ?_
  refine j_callVr C 0 (v := .int (nI n)) (w := (dW E t sz sg la dk z g b cr ca cg ck rest)) (c_size_n l E A (by omega) hz) ok_X2_size w_241 (by decide) rfl rfl (Nat.le_of_ble_eq_true rfl) rfl rfl ⟨Nat.le_of_ble_eq_true rfl, Nat.le_of_ble_eq_true rfl⟩ dX3_put_20 ?_
  refine j_i2l (v := (nI n).toInt64) C dX3_put_23 rfl ?_
  refine j_callSr C (v := .int (bI (¬ y.toInt64 < 0 ∧ ¬ ((nI n).toInt64) ≤ y.toInt64))) (w := (dW E t sz sg la dk z g b cr ca cg ck rest)) (c_holdsPlace l E A) ok_X0_holdsPlace w_93 (by decide) rfl rfl (Nat.le_of_ble_eq_true rfl) ⟨Nat.le_of_ble_eq_true rfl, Nat.le_of_ble_eq_true rfl⟩ dX3_put_24 ?_
  refine j_ifb_ne_f (tgt := 35) C dX3_put_27 (by decide) hout ?_
  refine j_aload_n C dX3_put_30 rfl ?_
  refine j_callVr C 4 (v := .int (-9)) (w := (dW E t sz sg la dk z g b (cr + nI 1) ca cg ck rest)) (c_refuse l E A) ok_X3_refuse w_96 (by decide) rfl rfl (Nat.le_of_ble_eq_true rfl) rfl rfl ⟨Nat.le_of_ble_eq_true rfl, Nat.le_of_ble_eq_true rfl⟩ dX3_put_31 ?_
  exact j_iret C hQ rfl dX3_put_34 ⟨Nat.le_of_ble_eq_true rfl, Nat.le_of_ble_eq_true rfl⟩ ⟨rfl, rfl⟩
set_option maxHeartbeats 4000000 in
set_option maxRecDepth 100000 in
theorem f_put_k (l : Launch) (E : jE) (A : Nat → Prop) {t sz sg la dk : Nat} {z g b : Nat → Int32} {cr ca cg ck : Int32} {rest : va_W} {i : Nat} (hi : i < 9) {y w : Nat} (hw : w < 10) {n : Nat} (hn : n ≤ 24) (hz : z i = nI n) (hy : y < n) : jMet l yX3_put cX3_put 5 (some .int) 5 0 0 E A [.ref dk, .int (nI i), .int (nI y), .int (nI w)] (dW E t sz sg la dk z g b cr ca cg ck rest) (jR (some (.int (g (i * 24 + y)))) (dW E t sz sg la dk z (upd g (i * 24 + y) (nI w)) b cr ca cg ck rest)) jNo := by
  refine jMet.intro' [(0, .ref dk), (1, .int (nI i)), (2, .int (nI y)), (3, .int (nI w))] (by decide) (Nat.le_of_ble_eq_true rfl) rfl ?_
  intro p e R s m args below meth c Q C hQ
  refine j_iload_n C dX3_put_0 rfl ?_
  refine j_callSv C (w := (dW E t sz sg la dk z g b cr ca cg ck rest)) (c_wantSeat_r l E A (by omega)) ok_X3_wantSeat w_272 (by decide) rfl rfl (Nat.le_of_ble_eq_true rfl) ⟨Nat.le_of_ble_eq_true rfl, Nat.le_of_ble_eq_true rfl⟩ dX3_put_1 ?_
  refine j_iload_n C dX3_put_4 rfl ?_
  refine j_callSv C (w := (dW E t sz sg la dk z g b cr ca cg ck rest)) (c_wantSign_r l E A (by omega)) ok_X3_wantSign w_346 (by decide) rfl rfl (Nat.le_of_ble_eq_true rfl) ⟨Nat.le_of_ble_eq_true rfl, Nat.le_of_ble_eq_true rfl⟩ dX3_put_5 ?_
  refine j_aload_n C dX3_put_8 rfl ?_
  refine j_iload_n C dX3_put_9 rfl ?_
  refine j_callVv C 4 (w := (dW E t sz sg la dk z g b cr ca cg ck rest)) (c_wantThere_r l E A (by omega) hn hz) ok_X3_wantThere w_365 (by decide) rfl rfl (Nat.le_of_ble_eq_true rfl) rfl rfl ⟨Nat.le_of_ble_eq_true rfl, Nat.le_of_ble_eq_true rfl⟩ dX3_put_10 ?_
  refine j_iload_n C dX3_put_13 rfl ?_
  refine j_i2l (v := (nI y).toInt64) C dX3_put_14 rfl ?_
  refine j_aload_n C dX3_put_15 rfl ?_
  refine j_get C 4 rfl inj_X3 rfl 0 (by decide) w_73 rfl dX3_put_16 ?_
  refine j_iload_n C dX3_put_19 rfl ?_
  refine j_callVr C 0 (v := .int (nI n)) (w := (dW E t sz sg la dk z g b cr ca cg ck rest)) (c_size_n l E A (by omega) hz) ok_X2_size w_241 (by decide) rfl rfl (Nat.le_of_ble_eq_true rfl) rfl rfl ⟨Nat.le_of_ble_eq_true rfl, Nat.le_of_ble_eq_true rfl⟩ dX3_put_20 ?_
  refine j_i2l (v := (nI n).toInt64) C dX3_put_23 rfl ?_
  refine j_callSr C (v := .int (bI (¬ ((nI y).toInt64) < 0 ∧ ¬ ((nI n).toInt64) ≤ ((nI y).toInt64)))) (w := (dW E t sz sg la dk z g b cr ca cg ck rest)) (c_holdsPlace l E A) ok_X0_holdsPlace w_93 (by decide) rfl rfl (Nat.le_of_ble_eq_true rfl) ⟨Nat.le_of_ble_eq_true rfl, Nat.le_of_ble_eq_true rfl⟩ dX3_put_24 ?_
  refine j_ifb_ne_t (tgt := 35) C dX3_put_27 (by decide) (place_of hy hn) ?_
  refine j_aload_n C dX3_put_35 rfl ?_
  refine j_get C 4 rfl inj_X3 rfl 0 (by decide) w_73 rfl dX3_put_36 ?_
  refine j_iload_n C dX3_put_39 rfl ?_
  refine j_iload_n C dX3_put_40 rfl ?_
  refine j_callVr C 0 (v := .int (g (i * 24 + y))) (w := (dW E t sz sg la dk z g b cr ca cg ck rest)) (c_sign l E A (by omega) (by omega)) ok_X2_sign w_440 (by decide) rfl rfl (Nat.le_of_ble_eq_true rfl) rfl rfl ⟨Nat.le_of_ble_eq_true rfl, Nat.le_of_ble_eq_true rfl⟩ dX3_put_41 ?_
  refine j_istore (lv' := [(4, .int (g (i * 24 + y))), (0, .ref dk), (1, .int (nI i)), (2, .int (nI y)), (3, .int (nI w))]) C dX3_put_44 (by decide) rfl ?_
  refine j_aload_n C dX3_put_46 rfl ?_
  refine j_get C 4 rfl inj_X3 rfl 0 (by decide) w_73 rfl dX3_put_47 ?_
  refine j_iload_n C dX3_put_50 rfl ?_
  refine j_iload_n C dX3_put_51 rfl ?_
  refine j_iload_n C dX3_put_52 rfl ?_
  refine j_callVv C 0 (w := (dW E t sz sg la dk z (upd g (i * 24 + y) (nI w)) b cr ca cg ck rest)) (c_change l E A (by omega) (by omega)) ok_X2_change w_441 (by decide) rfl rfl (Nat.le_of_ble_eq_true rfl) rfl rfl ⟨Nat.le_of_ble_eq_true rfl, Nat.le_of_ble_eq_true rfl⟩ dX3_put_53 ?_
  refine j_iload C dX3_put_56 rfl ?_
  exact j_iret C hQ rfl dX3_put_58 ⟨Nat.le_of_ble_eq_true rfl, Nat.le_of_ble_eq_true rfl⟩ ⟨rfl, rfl⟩
set_option maxHeartbeats 4000000 in
set_option maxRecDepth 100000 in
theorem f_fill_b (l : Launch) (hl : l.stackTraces = false) (E : jE) (A : Nat → Prop) {t sz sg la dk : Nat} {z g b : Nat → Int32} {cr ca cg ck : Int32} {rest : va_W} {x y w : Int32} (hbx : x < 0 ∨ nI 9 ≤ x) : jMet l yX3_fill cX3_fill 6 (some .int) 5 1 6 E A [.ref dk, .int x, .int y, .int w] (dW E t sz sg la dk z g b cr ca cg ck rest) jNv (jT jIO (dW E t sz sg la dk z g b cr ca cg ck rest)) := by
  refine jMet.intro' [(0, .ref dk), (1, .int x), (2, .int y), (3, .int w)] (by decide) (Nat.le_of_ble_eq_true rfl) rfl ?_
  intro p e R s m args below meth c Q C hQ
  refine j_iload_n C dX3_fill_0 rfl ?_
  refine j_callSx C (c_wantSeat_x l hl E A hbx) ok_X3_wantSeat w_272 (by decide) rfl rfl (Nat.le_of_ble_eq_true rfl) ⟨Nat.le_of_ble_eq_true rfl, Nat.le_of_ble_eq_true rfl⟩ dX3_fill_1 ?_
  exact j_xout C hQ ⟨Nat.le_of_ble_eq_true rfl, Nat.le_of_ble_eq_true rfl⟩ ⟨rfl, rfl⟩
set_option maxHeartbeats 4000000 in
set_option maxRecDepth 100000 in
theorem f_fill_a1 (l : Launch) (hl : l.stackTraces = false) (E : jE) (A : Nat → Prop) {t sz sg la dk : Nat} {z g b : Nat → Int32} {cr ca cg ck : Int32} {rest : va_W} {i : Nat} (hi : i < 9) {y w : Int32} (hby : y < 0 ∨ nI 10 ≤ y) : jMet l yX3_fill cX3_fill 6 (some .int) 5 1 6 E A [.ref dk, .int (nI i), .int y, .int w] (dW E t sz sg la dk z g b cr ca cg ck rest) jNv (jT jIA (dW E t sz sg la dk z g b cr ca cg ck rest)) := by
  refine jMet.intro' [(0, .ref dk), (1, .int (nI i)), (2, .int y), (3, .int w)] (by decide) (Nat.le_of_ble_eq_true rfl) rfl ?_
  intro p e R s m args below meth c Q C hQ
  refine j_iload_n C dX3_fill_0 rfl ?_
  refine j_callSv C (w := (dW E t sz sg la dk z g b cr ca cg ck rest)) (c_wantSeat_r l E A (by omega)) ok_X3_wantSeat w_272 (by decide) rfl rfl (Nat.le_of_ble_eq_true rfl) ⟨Nat.le_of_ble_eq_true rfl, Nat.le_of_ble_eq_true rfl⟩ dX3_fill_1 ?_
  refine j_iload_n C dX3_fill_4 rfl ?_
  refine j_callSx C (c_wantSign_x l hl E A hby) ok_X3_wantSign w_346 (by decide) rfl rfl (Nat.le_of_ble_eq_true rfl) ⟨Nat.le_of_ble_eq_true rfl, Nat.le_of_ble_eq_true rfl⟩ dX3_fill_5 ?_
  exact j_xout C hQ ⟨Nat.le_of_ble_eq_true rfl, Nat.le_of_ble_eq_true rfl⟩ ⟨rfl, rfl⟩
set_option maxHeartbeats 4000000 in
set_option maxRecDepth 100000 in
theorem f_fill_a2 (l : Launch) (hl : l.stackTraces = false) (E : jE) (A : Nat → Prop) {t sz sg la dk : Nat} {z g b : Nat → Int32} {cr ca cg ck : Int32} {rest : va_W} {i : Nat} (hi : i < 9) {y : Nat} {w : Int32} (hy : y < 10) (hbw : w < 0 ∨ nI 24 < w) : jMet l yX3_fill cX3_fill 6 (some .int) 5 1 6 E A [.ref dk, .int (nI i), .int (nI y), .int w] (dW E t sz sg la dk z g b cr ca cg ck rest) jNv (jT jIA (dW E t sz sg la dk z g b cr ca cg ck rest)) := by
  refine jMet.intro' [(0, .ref dk), (1, .int (nI i)), (2, .int (nI y)), (3, .int w)] (by decide) (Nat.le_of_ble_eq_true rfl) rfl ?_
  intro p e R s m args below meth c Q C hQ
  refine j_iload_n C dX3_fill_0 rfl ?_
  refine j_callSv C (w := (dW E t sz sg la dk z g b cr ca cg ck rest)) (c_wantSeat_r l E A (by omega)) ok_X3_wantSeat w_272 (by decide) rfl rfl (Nat.le_of_ble_eq_true rfl) ⟨Nat.le_of_ble_eq_true rfl, Nat.le_of_ble_eq_true rfl⟩ dX3_fill_1 ?_
  refine j_iload_n C dX3_fill_4 rfl ?_
  refine j_callSv C (w := (dW E t sz sg la dk z g b cr ca cg ck rest)) (c_wantSign_r l E A (by omega)) ok_X3_wantSign w_346 (by decide) rfl rfl (Nat.le_of_ble_eq_true rfl) ⟨Nat.le_of_ble_eq_true rfl, Nat.le_of_ble_eq_true rfl⟩ dX3_fill_5 ?_
  refine j_iload_n C dX3_fill_8 rfl ?_
  refine j_bipush (v := (nI 24)) C dX3_fill_9 rfl ?_
  refine j_callSx C (c_wantUpTo_x l hl E A hbw) ok_X3_wantUpTo w_406 (by decide) rfl rfl (Nat.le_of_ble_eq_true rfl) ⟨Nat.le_of_ble_eq_true rfl, Nat.le_of_ble_eq_true rfl⟩ dX3_fill_11 ?_
  exact j_xout C hQ ⟨Nat.le_of_ble_eq_true rfl, Nat.le_of_ble_eq_true rfl⟩ ⟨rfl, rfl⟩
set_option maxHeartbeats 4000000 in
set_option maxRecDepth 100000 in
theorem f_fill_k (l : Launch) (E : jE) (A : Nat → Prop) {t sz sg la dk : Nat} {z g b : Nat → Int32} {cr ca cg ck : Int32} {rest : va_W} {i : Nat} (hi : i < 9) {y w : Nat} (hy : y < 10) (hw : w ≤ 24) {n : Nat} (hn : n ≤ 24) (hz : z i = nI n)  : jMet l yX3_fill cX3_fill 6 (some .int) 5 0 0 E A [.ref dk, .int (nI i), .int (nI y), .int (nI w)] (dW E t sz sg la dk z g b cr ca cg ck rest) (jR (some (.int (nI n))) (dW E t sz sg la dk (upd z i (nI w)) (jput g (fun _ => nI y) (i * 24) w) b cr ca cg ck rest)) jNo := by
  refine jMet.intro' [(0, .ref dk), (1, .int (nI i)), (2, .int (nI y)), (3, .int (nI w))] (by decide) (Nat.le_of_ble_eq_true rfl) rfl ?_
  intro p e R s m args below meth c Q C hQ
  refine j_iload_n C dX3_fill_0 rfl ?_
  refine j_callSv C (w := (dW E t sz sg la dk z g b cr ca cg ck rest)) (c_wantSeat_r l E A (by omega)) ok_X3_wantSeat w_272 (by decide) rfl rfl (Nat.le_of_ble_eq_true rfl) ⟨Nat.le_of_ble_eq_true rfl, Nat.le_of_ble_eq_true rfl⟩ dX3_fill_1 ?_
  refine j_iload_n C dX3_fill_4 rfl ?_
  refine j_callSv C (w := (dW E t sz sg la dk z g b cr ca cg ck rest)) (c_wantSign_r l E A (by omega)) ok_X3_wantSign w_346 (by decide) rfl rfl (Nat.le_of_ble_eq_true rfl) ⟨Nat.le_of_ble_eq_true rfl, Nat.le_of_ble_eq_true rfl⟩ dX3_fill_5 ?_
  refine j_iload_n C dX3_fill_8 rfl ?_
  refine j_bipush (v := (nI 24)) C dX3_fill_9 rfl ?_
  refine j_callSv C (w := (dW E t sz sg la dk z g b cr ca cg ck rest)) (c_wantUpTo_r l E A (by omega) (by omega)) ok_X3_wantUpTo w_406 (by decide) rfl rfl (Nat.le_of_ble_eq_true rfl) ⟨Nat.le_of_ble_eq_true rfl, Nat.le_of_ble_eq_true rfl⟩ dX3_fill_11 ?_
  refine j_aload_n C dX3_fill_14 rfl ?_
  refine j_get C 4 rfl inj_X3 rfl 0 (by decide) w_73 rfl dX3_fill_15 ?_
  refine j_iload_n C dX3_fill_18 rfl ?_
  refine j_callVr C 0 (v := .int (nI n)) (w := (dW E t sz sg la dk z g b cr ca cg ck rest)) (c_size_n l E A (by omega) hz) ok_X2_size w_241 (by decide) rfl rfl (Nat.le_of_ble_eq_true rfl) rfl rfl ⟨Nat.le_of_ble_eq_true rfl, Nat.le_of_ble_eq_true rfl⟩ dX3_fill_19 ?_
  refine j_istore (lv' := [(4, .int (nI n)), (0, .ref dk), (1, .int (nI i)), (2, .int (nI y)), (3, .int (nI w))]) C dX3_fill_22 (by decide) rfl ?_
  refine j_aload_n C dX3_fill_24 rfl ?_
  refine j_get C 4 rfl inj_X3 rfl 0 (by decide) w_73 rfl dX3_fill_25 ?_
  refine j_iload_n C dX3_fill_28 rfl ?_
  refine j_callVv C 0 (w := (dW E t sz sg la dk (upd z i (nI 0)) g b cr ca cg ck rest)) (c_clear l E A (by omega)) ok_X2_clear w_410 (by decide) rfl rfl (Nat.le_of_ble_eq_true rfl) rfl rfl ⟨Nat.le_of_ble_eq_true rfl, Nat.le_of_ble_eq_true rfl⟩ dX3_fill_29 ?_
  refine j_iconst (v := (nI 0)) C dX3_fill_32 rfl ?_
  refine j_istore (lv' := [(5, .int (nI 0)), (4, .int (nI n)), (0, .ref dk), (1, .int (nI i)), (2, .int (nI y)), (3, .int (nI w))]) C dX3_fill_33 (by decide) rfl ?_
  have L35 : ∀ (r k : Nat), k + r = w → jJ p l e R s m args below meth c E A 6 Q 0 0 35 [(5, .int (nI k)), (4, .int (nI n)), (0, .ref dk), (1, .int (nI i)), (2, .int (nI y)), (3, .int (nI w))] [] (dW E t sz sg la dk (upd z i (nI k)) (jput g (fun _ => nI y) (i * 24) k) b cr ca cg ck rest) := by
    intro r
    induction r with
    | zero =>
      intro k  hk35 
      refine j_iload C dX3_fill_35 rfl ?_
      refine j_iload_n C dX3_fill_37 rfl ?_
      refine j_icmpn_ge_t (tgt := 56) C dX3_fill_38 (by decide) (by omega) (by omega) (by omega) ?_
      have ek : w = k := by omega
      subst ek
      refine j_iload C dX3_fill_56 rfl ?_
      exact j_iret C hQ rfl dX3_fill_58 ⟨Nat.le_of_ble_eq_true rfl, Nat.le_of_ble_eq_true rfl⟩ ⟨rfl, rfl⟩
    | succ r ih35 =>
      intro k  hk35 
      refine j_iload C dX3_fill_35 rfl ?_
      refine j_iload_n C dX3_fill_37 rfl ?_
      refine j_icmpn_ge_f (tgt := 56) C dX3_fill_38 (by decide) (by omega) (by omega) (by omega) ?_
      refine j_aload_n C dX3_fill_41 rfl ?_
      refine j_get C 4 rfl inj_X3 rfl 0 (by decide) w_73 rfl dX3_fill_42 ?_
      refine j_iload_n C dX3_fill_45 rfl ?_
      refine j_iload_n C dX3_fill_46 rfl ?_
      refine j_callVv C 0 (w := (dW E t sz sg la dk (upd (upd z i (nI k)) i (nI (k + 1))) (upd (jput g (fun _ => nI y) (i * 24) k) (i * 24 + k) (nI y)) b cr ca cg ck rest)) (c_add l E A (by omega) pk_us' (by omega)) ok_X2_add w_391 (by decide) rfl rfl (Nat.le_of_ble_eq_true rfl) rfl rfl ⟨Nat.le_of_ble_eq_true rfl, Nat.le_of_ble_eq_true rfl⟩ dX3_fill_47 ?_
      refine j_eq (ws' := (dW E t sz sg la dk (upd z i (nI (k + 1))) (jput g (fun _ => nI y) (i * 24) (k + 1)) b cr ca cg ck rest)) rfl rfl (by rw [fa_upd2, jput_s]) ?_
      refine j_iinc (lv' := [(5, .int (nI (k + 1))), (4, .int (nI n)), (0, .ref dk), (1, .int (nI i)), (2, .int (nI y)), (3, .int (nI w))]) C dX3_fill_50 rfl (nI_1 _) (by decide) rfl ?_
      refine j_goto (tgt := 35) C dX3_fill_53 (by decide) ?_
      refine j_lv (lv' := [(5, .int (nI (k + 1))), (4, .int (nI n)), (0, .ref dk), (1, .int (nI i)), (2, .int (nI y)), (3, .int (nI w))]) (by simp only [List.mem_cons, List.not_mem_nil, or_false, forall_eq_or_imp, forall_eq, true_or, or_true, and_self, Nat.add_zero]) ?_
      exact ih35 (k + 1) (by omega)
  refine j_lv (lv' := [(5, .int (nI 0)), (4, .int (nI n)), (0, .ref dk), (1, .int (nI i)), (2, .int (nI y)), (3, .int (nI w))]) (by simp only [List.mem_cons, List.not_mem_nil, or_false, forall_eq_or_imp, forall_eq, true_or, or_true, and_self, Nat.add_zero]) ?_
  refine j_eq (ws' := (dW E t sz sg la dk (upd z i (nI 0)) (jput g (fun _ => nI y) (i * 24) 0) b cr ca cg ck rest)) rfl rfl (by rw [jput_0]) ?_
  exact L35 w 0 (by omega)
set_option maxHeartbeats 4000000 in
set_option maxRecDepth 100000 in
theorem f_fill_m (l : Launch) (E : jE) (A : Nat → Prop) {t sz sg la dk : Nat} {z g b : Nat → Int32} {cr ca cg ck : Int32} {rest : va_W} {i : Nat} (hi : i < 9) {y w : Nat} (hy : y < 10) (hw : w ≤ 24) (hz : z i = -1)  : jMet l yX3_fill cX3_fill 6 (some .int) 5 0 0 E A [.ref dk, .int (nI i), .int (nI y), .int (nI w)] (dW E t sz sg la dk z g b cr ca cg ck rest) (jR (some (.int (-1))) (dW E t sz sg la dk (upd z i (nI w)) (jput g (fun _ => nI y) (i * 24) w) b cr ca cg ck rest)) jNo := by
  refine jMet.intro' [(0, .ref dk), (1, .int (nI i)), (2, .int (nI y)), (3, .int (nI w))] (by decide) (Nat.le_of_ble_eq_true rfl) rfl ?_
  intro p e R s m args below meth c Q C hQ
  refine j_iload_n C dX3_fill_0 rfl ?_
  refine j_callSv C (w := (dW E t sz sg la dk z g b cr ca cg ck rest)) (c_wantSeat_r l E A (by omega)) ok_X3_wantSeat w_272 (by decide) rfl rfl (Nat.le_of_ble_eq_true rfl) ⟨Nat.le_of_ble_eq_true rfl, Nat.le_of_ble_eq_true rfl⟩ dX3_fill_1 ?_
  refine j_iload_n C dX3_fill_4 rfl ?_
  refine j_callSv C (w := (dW E t sz sg la dk z g b cr ca cg ck rest)) (c_wantSign_r l E A (by omega)) ok_X3_wantSign w_346 (by decide) rfl rfl (Nat.le_of_ble_eq_true rfl) ⟨Nat.le_of_ble_eq_true rfl, Nat.le_of_ble_eq_true rfl⟩ dX3_fill_5 ?_
  refine j_iload_n C dX3_fill_8 rfl ?_
  refine j_bipush (v := (nI 24)) C dX3_fill_9 rfl ?_
  refine j_callSv C (w := (dW E t sz sg la dk z g b cr ca cg ck rest)) (c_wantUpTo_r l E A (by omega) (by omega)) ok_X3_wantUpTo w_406 (by decide) rfl rfl (Nat.le_of_ble_eq_true rfl) ⟨Nat.le_of_ble_eq_true rfl, Nat.le_of_ble_eq_true rfl⟩ dX3_fill_11 ?_
  refine j_aload_n C dX3_fill_14 rfl ?_
  refine j_get C 4 rfl inj_X3 rfl 0 (by decide) w_73 rfl dX3_fill_15 ?_
  refine j_iload_n C dX3_fill_18 rfl ?_
  refine j_callVr C 0 (v := .int (-1)) (w := (dW E t sz sg la dk z g b cr ca cg ck rest)) (c_size_m l E A (by omega) hz) ok_X2_size w_241 (by decide) rfl rfl (Nat.le_of_ble_eq_true rfl) rfl rfl ⟨Nat.le_of_ble_eq_true rfl, Nat.le_of_ble_eq_true rfl⟩ dX3_fill_19 ?_
  refine j_istore (lv' := [(4, .int (-1)), (0, .ref dk), (1, .int (nI i)), (2, .int (nI y)), (3, .int (nI w))]) C dX3_fill_22 (by decide) rfl ?_
  refine j_aload_n C dX3_fill_24 rfl ?_
  refine j_get C 4 rfl inj_X3 rfl 0 (by decide) w_73 rfl dX3_fill_25 ?_
  refine j_iload_n C dX3_fill_28 rfl ?_
  refine j_callVv C 0 (w := (dW E t sz sg la dk (upd z i (nI 0)) g b cr ca cg ck rest)) (c_clear l E A (by omega)) ok_X2_clear w_410 (by decide) rfl rfl (Nat.le_of_ble_eq_true rfl) rfl rfl ⟨Nat.le_of_ble_eq_true rfl, Nat.le_of_ble_eq_true rfl⟩ dX3_fill_29 ?_
  refine j_iconst (v := (nI 0)) C dX3_fill_32 rfl ?_
  refine j_istore (lv' := [(5, .int (nI 0)), (4, .int (-1)), (0, .ref dk), (1, .int (nI i)), (2, .int (nI y)), (3, .int (nI w))]) C dX3_fill_33 (by decide) rfl ?_
  have L35 : ∀ (r k : Nat), k + r = w → jJ p l e R s m args below meth c E A 6 Q 0 0 35 [(5, .int (nI k)), (4, .int (-1)), (0, .ref dk), (1, .int (nI i)), (2, .int (nI y)), (3, .int (nI w))] [] (dW E t sz sg la dk (upd z i (nI k)) (jput g (fun _ => nI y) (i * 24) k) b cr ca cg ck rest) := by
    intro r
    induction r with
    | zero =>
      intro k  hk35 
      refine j_iload C dX3_fill_35 rfl ?_
      refine j_iload_n C dX3_fill_37 rfl ?_
      refine j_icmpn_ge_t (tgt := 56) C dX3_fill_38 (by decide) (by omega) (by omega) (by omega) ?_
      have ek : w = k := by omega
      subst ek
      refine j_iload C dX3_fill_56 rfl ?_
      exact j_iret C hQ rfl dX3_fill_58 ⟨Nat.le_of_ble_eq_true rfl, Nat.le_of_ble_eq_true rfl⟩ ⟨rfl, rfl⟩
    | succ r ih35 =>
      intro k  hk35 
      refine j_iload C dX3_fill_35 rfl ?_
      refine j_iload_n C dX3_fill_37 rfl ?_
      refine j_icmpn_ge_f (tgt := 56) C dX3_fill_38 (by decide) (by omega) (by omega) (by omega) ?_
      refine j_aload_n C dX3_fill_41 rfl ?_
      refine j_get C 4 rfl inj_X3 rfl 0 (by decide) w_73 rfl dX3_fill_42 ?_
      refine j_iload_n C dX3_fill_45 rfl ?_
      refine j_iload_n C dX3_fill_46 rfl ?_
      refine j_callVv C 0 (w := (dW E t sz sg la dk (upd (upd z i (nI k)) i (nI (k + 1))) (upd (jput g (fun _ => nI y) (i * 24) k) (i * 24 + k) (nI y)) b cr ca cg ck rest)) (c_add l E A (by omega) pk_us' (by omega)) ok_X2_add w_391 (by decide) rfl rfl (Nat.le_of_ble_eq_true rfl) rfl rfl ⟨Nat.le_of_ble_eq_true rfl, Nat.le_of_ble_eq_true rfl⟩ dX3_fill_47 ?_
      refine j_eq (ws' := (dW E t sz sg la dk (upd z i (nI (k + 1))) (jput g (fun _ => nI y) (i * 24) (k + 1)) b cr ca cg ck rest)) rfl rfl (by rw [fa_upd2, jput_s]) ?_
      refine j_iinc (lv' := [(5, .int (nI (k + 1))), (4, .int (-1)), (0, .ref dk), (1, .int (nI i)), (2, .int (nI y)), (3, .int (nI w))]) C dX3_fill_50 rfl (nI_1 _) (by decide) rfl ?_
      refine j_goto (tgt := 35) C dX3_fill_53 (by decide) ?_
      refine j_lv (lv' := [(5, .int (nI (k + 1))), (4, .int (-1)), (0, .ref dk), (1, .int (nI i)), (2, .int (nI y)), (3, .int (nI w))]) (by simp only [List.mem_cons, List.not_mem_nil, or_false, forall_eq_or_imp, forall_eq, true_or, or_true, and_self, Nat.add_zero]) ?_
      exact ih35 (k + 1) (by omega)
  refine j_lv (lv' := [(5, .int (nI 0)), (4, .int (-1)), (0, .ref dk), (1, .int (nI i)), (2, .int (nI y)), (3, .int (nI w))]) (by simp only [List.mem_cons, List.not_mem_nil, or_false, forall_eq_or_imp, forall_eq, true_or, or_true, and_self, Nat.add_zero]) ?_
  refine j_eq (ws' := (dW E t sz sg la dk (upd z i (nI 0)) (jput g (fun _ => nI y) (i * 24) 0) b cr ca cg ck rest)) rfl rfl (by rw [jput_0]) ?_
  exact L35 w 0 (by omega)
set_option maxHeartbeats 4000000 in
set_option maxRecDepth 100000 in
theorem f_copy_b1 (l : Launch) (hl : l.stackTraces = false) (E : jE) (A : Nat → Prop) {t sz sg la dk : Nat} {z g b : Nat → Int32} {cr ca cg ck : Int32} {rest : va_W} {x y : Int32} (hbx : x < 0 ∨ nI 9 ≤ x) : jMet l yX3_copy cX3_copy 3 (some .int) 5 1 6 E A [.ref dk, .int x, .int y] (dW E t sz sg la dk z g b cr ca cg ck rest) jNv (jT jIO (dW E t sz sg la dk z g b cr ca cg ck rest)) := by
  refine jMet.intro' [(0, .ref dk), (1, .int x), (2, .int y)] (by decide) (Nat.le_of_ble_eq_true rfl) rfl ?_
  intro p e R s m args below meth c Q C hQ
  refine j_iload_n C dX3_copy_0 rfl ?_
  refine j_callSx C (c_wantSeat_x l hl E A hbx) ok_X3_wantSeat w_272 (by decide) rfl rfl (Nat.le_of_ble_eq_true rfl) ⟨Nat.le_of_ble_eq_true rfl, Nat.le_of_ble_eq_true rfl⟩ dX3_copy_1 ?_
  exact j_xout C hQ ⟨Nat.le_of_ble_eq_true rfl, Nat.le_of_ble_eq_true rfl⟩ ⟨rfl, rfl⟩
set_option maxHeartbeats 4000000 in
set_option maxRecDepth 100000 in
theorem f_copy_b2 (l : Launch) (hl : l.stackTraces = false) (E : jE) (A : Nat → Prop) {t sz sg la dk : Nat} {z g b : Nat → Int32} {cr ca cg ck : Int32} {rest : va_W} {i : Nat} (hi : i < 9) {y : Int32} (hby : y < 0 ∨ nI 9 ≤ y) : jMet l yX3_copy cX3_copy 3 (some .int) 5 1 6 E A [.ref dk, .int (nI i), .int y] (dW E t sz sg la dk z g b cr ca cg ck rest) jNv (jT jIO (dW E t sz sg la dk z g b cr ca cg ck rest)) := by
  refine jMet.intro' [(0, .ref dk), (1, .int (nI i)), (2, .int y)] (by decide) (Nat.le_of_ble_eq_true rfl) rfl ?_
  intro p e R s m args below meth c Q C hQ
  refine j_iload_n C dX3_copy_0 rfl ?_
  refine j_callSv C (w := (dW E t sz sg la dk z g b cr ca cg ck rest)) (c_wantSeat_r l E A (by omega)) ok_X3_wantSeat w_272 (by decide) rfl rfl (Nat.le_of_ble_eq_true rfl) ⟨Nat.le_of_ble_eq_true rfl, Nat.le_of_ble_eq_true rfl⟩ dX3_copy_1 ?_
  refine j_iload_n C dX3_copy_4 rfl ?_
  refine j_callSx C (c_wantSeat_x l hl E A hby) ok_X3_wantSeat w_272 (by decide) rfl rfl (Nat.le_of_ble_eq_true rfl) ⟨Nat.le_of_ble_eq_true rfl, Nat.le_of_ble_eq_true rfl⟩ dX3_copy_5 ?_
  exact j_xout C hQ ⟨Nat.le_of_ble_eq_true rfl, Nat.le_of_ble_eq_true rfl⟩ ⟨rfl, rfl⟩
set_option maxHeartbeats 4000000 in
set_option maxRecDepth 100000 in
theorem f_copy_k (l : Launch) (E : jE) (A : Nat → Prop) {t sz sg la dk : Nat} {z g b : Nat → Int32} {cr ca cg ck : Int32} {rest : va_W} {i : Nat} (hi : i < 9) {j n : Nat} (hj : j < 9) (hn : n ≤ 24) (hz : z j = nI n) : jMet l yX3_copy cX3_copy 3 (some .int) 5 0 0 E A [.ref dk, .int (nI i), .int (nI j)] (dW E t sz sg la dk z g b cr ca cg ck rest) (jR (some (.int (nI n))) (dW E t sz sg la dk (upd z i (z j)) (jput g (fun q => g (j * 24 + q)) (i * 24) n) b cr ca cg ck rest)) jNo := by
  refine jMet.intro' [(0, .ref dk), (1, .int (nI i)), (2, .int (nI j))] (by decide) (Nat.le_of_ble_eq_true rfl) rfl ?_
  intro p e R s m args below meth c Q C hQ
  refine j_iload_n C dX3_copy_0 rfl ?_
  refine j_callSv C (w := (dW E t sz sg la dk z g b cr ca cg ck rest)) (c_wantSeat_r l E A (by omega)) ok_X3_wantSeat w_272 (by decide) rfl rfl (Nat.le_of_ble_eq_true rfl) ⟨Nat.le_of_ble_eq_true rfl, Nat.le_of_ble_eq_true rfl⟩ dX3_copy_1 ?_
  refine j_iload_n C dX3_copy_4 rfl ?_
  refine j_callSv C (w := (dW E t sz sg la dk z g b cr ca cg ck rest)) (c_wantSeat_r l E A (by omega)) ok_X3_wantSeat w_272 (by decide) rfl rfl (Nat.le_of_ble_eq_true rfl) ⟨Nat.le_of_ble_eq_true rfl, Nat.le_of_ble_eq_true rfl⟩ dX3_copy_5 ?_
  refine j_aload_n C dX3_copy_8 rfl ?_
  refine j_get C 4 rfl inj_X3 rfl 0 (by decide) w_73 rfl dX3_copy_9 ?_
  refine j_iload_n C dX3_copy_12 rfl ?_
  refine j_iload_n C dX3_copy_13 rfl ?_
  refine j_callVv C 0 (w := (dW E t sz sg la dk (upd z i (z j)) (jput g (fun q => g (j * 24 + q)) (i * 24) n) b cr ca cg ck rest)) (c_become_n l E A hi hj hz hn) ok_X2_become w_449 (by decide) rfl rfl (Nat.le_of_ble_eq_true rfl) rfl rfl ⟨Nat.le_of_ble_eq_true rfl, Nat.le_of_ble_eq_true rfl⟩ dX3_copy_14 ?_
  refine j_aload_n C dX3_copy_17 rfl ?_
  refine j_get C 4 rfl inj_X3 rfl 0 (by decide) w_73 rfl dX3_copy_18 ?_
  refine j_iload_n C dX3_copy_21 rfl ?_
  refine j_callVr C 0 (v := .int (nI n)) (w := (dW E t sz sg la dk (upd z i (z j)) (jput g (fun q => g (j * 24 + q)) (i * 24) n) b cr ca cg ck rest)) (c_size_n l E A hi (pk_us'.trans hz)) ok_X2_size w_241 (by decide) rfl rfl (Nat.le_of_ble_eq_true rfl) rfl rfl ⟨Nat.le_of_ble_eq_true rfl, Nat.le_of_ble_eq_true rfl⟩ dX3_copy_22 ?_
  exact j_iret C hQ rfl dX3_copy_25 ⟨Nat.le_of_ble_eq_true rfl, Nat.le_of_ble_eq_true rfl⟩ ⟨rfl, rfl⟩
set_option maxHeartbeats 4000000 in
set_option maxRecDepth 100000 in
theorem f_copy_m (l : Launch) (E : jE) (A : Nat → Prop) {t sz sg la dk : Nat} {z g b : Nat → Int32} {cr ca cg ck : Int32} {rest : va_W} {i : Nat} (hi : i < 9) {j : Nat} (hj : j < 9) (hz : z j = -1) : jMet l yX3_copy cX3_copy 3 (some .int) 5 0 0 E A [.ref dk, .int (nI i), .int (nI j)] (dW E t sz sg la dk z g b cr ca cg ck rest) (jR (some (.int (-1))) (dW E t sz sg la dk (upd z i (z j)) g b cr ca cg ck rest)) jNo := by
  refine jMet.intro' [(0, .ref dk), (1, .int (nI i)), (2, .int (nI j))] (by decide) (Nat.le_of_ble_eq_true rfl) rfl ?_
  intro p e R s m args below meth c Q C hQ
  refine j_iload_n C dX3_copy_0 rfl ?_
  refine j_callSv C (w := (dW E t sz sg la dk z g b cr ca cg ck rest)) (c_wantSeat_r l E A (by omega)) ok_X3_wantSeat w_272 (by decide) rfl rfl (Nat.le_of_ble_eq_true rfl) ⟨Nat.le_of_ble_eq_true rfl, Nat.le_of_ble_eq_true rfl⟩ dX3_copy_1 ?_
  refine j_iload_n C dX3_copy_4 rfl ?_
  refine j_callSv C (w := (dW E t sz sg la dk z g b cr ca cg ck rest)) (c_wantSeat_r l E A (by omega)) ok_X3_wantSeat w_272 (by decide) rfl rfl (Nat.le_of_ble_eq_true rfl) ⟨Nat.le_of_ble_eq_true rfl, Nat.le_of_ble_eq_true rfl⟩ dX3_copy_5 ?_
  refine j_aload_n C dX3_copy_8 rfl ?_
  refine j_get C 4 rfl inj_X3 rfl 0 (by decide) w_73 rfl dX3_copy_9 ?_
  refine j_iload_n C dX3_copy_12 rfl ?_
  refine j_iload_n C dX3_copy_13 rfl ?_
  refine j_callVv C 0 (w := (dW E t sz sg la dk (upd z i (z j)) g b cr ca cg ck rest)) (c_become_m l E A hi hj hz) ok_X2_become w_449 (by decide) rfl rfl (Nat.le_of_ble_eq_true rfl) rfl rfl ⟨Nat.le_of_ble_eq_true rfl, Nat.le_of_ble_eq_true rfl⟩ dX3_copy_14 ?_
  refine j_aload_n C dX3_copy_17 rfl ?_
  refine j_get C 4 rfl inj_X3 rfl 0 (by decide) w_73 rfl dX3_copy_18 ?_
  refine j_iload_n C dX3_copy_21 rfl ?_
  refine j_callVr C 0 (v := .int (-1)) (w := (dW E t sz sg la dk (upd z i (z j)) g b cr ca cg ck rest)) (c_size_m l E A hi (pk_us'.trans hz)) ok_X2_size w_241 (by decide) rfl rfl (Nat.le_of_ble_eq_true rfl) rfl rfl ⟨Nat.le_of_ble_eq_true rfl, Nat.le_of_ble_eq_true rfl⟩ dX3_copy_22 ?_
  exact j_iret C hQ rfl dX3_copy_25 ⟨Nat.le_of_ble_eq_true rfl, Nat.le_of_ble_eq_true rfl⟩ ⟨rfl, rfl⟩
set_option maxHeartbeats 4000000 in
set_option maxRecDepth 100000 in
theorem f_leave_b (l : Launch) (hl : l.stackTraces = false) (E : jE) (A : Nat → Prop) {t sz sg la dk : Nat} {z g b : Nat → Int32} {cr ca cg ck : Int32} {rest : va_W} {x : Int32} (hbx : x < 0 ∨ nI 9 ≤ x) : jMet l yX3_leave cX3_leave 3 (some .int) 5 1 6 E A [.ref dk, .int x] (dW E t sz sg la dk z g b cr ca cg ck rest) jNv (jT jIO (dW E t sz sg la dk z g b cr ca cg ck rest)) := by
  refine jMet.intro' [(0, .ref dk), (1, .int x)] (by decide) (Nat.le_of_ble_eq_true rfl) rfl ?_
  intro p e R s m args below meth c Q C hQ
  refine j_iload_n C dX3_leave_0 rfl ?_
  refine j_callSx C (c_wantSeat_x l hl E A hbx) ok_X3_wantSeat w_272 (by decide) rfl rfl (Nat.le_of_ble_eq_true rfl) ⟨Nat.le_of_ble_eq_true rfl, Nat.le_of_ble_eq_true rfl⟩ dX3_leave_1 ?_
  exact j_xout C hQ ⟨Nat.le_of_ble_eq_true rfl, Nat.le_of_ble_eq_true rfl⟩ ⟨rfl, rfl⟩
set_option maxHeartbeats 4000000 in
set_option maxRecDepth 100000 in
theorem f_leave_k (l : Launch) (E : jE) (A : Nat → Prop) {t sz sg la dk : Nat} {z g b : Nat → Int32} {cr ca cg ck : Int32} {rest : va_W} {i : Nat} (hi : i < 9)  : jMet l yX3_leave cX3_leave 3 (some .int) 5 0 0 E A [.ref dk, .int (nI i)] (dW E t sz sg la dk z g b cr ca cg ck rest) (jR (some (.int (z i))) (dW E t sz sg la dk (upd z i (-1)) g b cr ca cg ck rest)) jNo := by
  refine jMet.intro' [(0, .ref dk), (1, .int (nI i))] (by decide) (Nat.le_of_ble_eq_true rfl) rfl ?_
  intro p e R s m args below meth c Q C hQ
  refine j_iload_n C dX3_leave_0 rfl ?_
  refine j_callSv C (w := (dW E t sz sg la dk z g b cr ca cg ck rest)) (c_wantSeat_r l E A (by omega)) ok_X3_wantSeat w_272 (by decide) rfl rfl (Nat.le_of_ble_eq_true rfl) ⟨Nat.le_of_ble_eq_true rfl, Nat.le_of_ble_eq_true rfl⟩ dX3_leave_1 ?_
  refine j_aload_n C dX3_leave_4 rfl ?_
  refine j_get C 4 rfl inj_X3 rfl 0 (by decide) w_73 rfl dX3_leave_5 ?_
  refine j_iload_n C dX3_leave_8 rfl ?_
  refine j_callVr C 0 (v := .int (z i)) (w := (dW E t sz sg la dk z g b cr ca cg ck rest)) (c_size l E A (by omega)) ok_X2_size w_241 (by decide) rfl rfl (Nat.le_of_ble_eq_true rfl) rfl rfl ⟨Nat.le_of_ble_eq_true rfl, Nat.le_of_ble_eq_true rfl⟩ dX3_leave_9 ?_
  refine j_istore_n (lv' := [(2, .int (z i)), (0, .ref dk), (1, .int (nI i))]) C dX3_leave_12 (by decide) rfl ?_
  refine j_aload_n C dX3_leave_13 rfl ?_
  refine j_get C 4 rfl inj_X3 rfl 0 (by decide) w_73 rfl dX3_leave_14 ?_
  refine j_iload_n C dX3_leave_17 rfl ?_
  refine j_callVv C 0 (w := (dW E t sz sg la dk (upd z i (-1)) g b cr ca cg ck rest)) (c_remove l E A (by omega)) ok_X2_remove w_460 (by decide) rfl rfl (Nat.le_of_ble_eq_true rfl) rfl rfl ⟨Nat.le_of_ble_eq_true rfl, Nat.le_of_ble_eq_true rfl⟩ dX3_leave_18 ?_
  refine j_iload_n C dX3_leave_21 rfl ?_
  exact j_iret C hQ rfl dX3_leave_22 ⟨Nat.le_of_ble_eq_true rfl, Nat.le_of_ble_eq_true rfl⟩ ⟨rfl, rfl⟩
set_option maxHeartbeats 4000000 in
set_option maxRecDepth 100000 in
theorem f_place_k (l : Launch) (E : jE) (A : Nat → Prop) {t sz sg la dk : Nat} {z g b : Nat → Int32} {cr ca cg ck : Int32} {rest : va_W} {x y : Int32} (hin : ¬ x.toInt64 < 0 ∧ ¬ y.toInt64 ≤ x.toInt64) : jMet l yX3_place cX3_place 3 (some .int) 5 0 0 E A [.ref dk, .int x, .int y] (dW E t sz sg la dk z g b cr ca cg ck rest) (jR (some (.int x)) (dW E t sz sg la dk z g b cr ca cg ck rest)) jNo := by
  refine jMet.intro' [(0, .ref dk), (1, .int x), (2, .int y)] (by decide) (Nat.le_of_ble_eq_true rfl) rfl ?_
  intro p e R s m args below meth c Q C hQ
  refine j_iload_n C dX3_place_0 rfl ?_
  refine j_i2l (v := x.toInt64) C dX3_place_1 rfl ?_
  refine j_iload_n C dX3_place_2 rfl ?_
  refine j_i2l (v := y.toInt64) C dX3_place_3 rfl ?_
  refine j_callSr C (v := .int (bI (¬ x.toInt64 < 0 ∧ ¬ y.toInt64 ≤ x.toInt64))) (w := (dW E t sz sg la dk z g b cr ca cg ck rest)) (c_holdsPlace l E A) ok_X0_holdsPlace w_93 (by decide) rfl rfl (Nat.le_of_ble_eq_true rfl) ⟨Nat.le_of_ble_eq_true rfl, Nat.le_of_ble_eq_true rfl⟩ dX3_place_4 ?_
  refine j_ifb_eq_f (tgt := 14) C dX3_place_7 (by decide) hin ?_
  refine j_iload_n C dX3_place_10 rfl ?_
  refine j_goto (tgt := 18) C dX3_place_11 (by decide) ?_
  exact j_iret C hQ rfl dX3_place_18 ⟨Nat.le_of_ble_eq_true rfl, Nat.le_of_ble_eq_true rfl⟩ ⟨rfl, rfl⟩
set_option maxHeartbeats 4000000 in
set_option maxRecDepth 100000 in
theorem f_place_o (l : Launch) (E : jE) (A : Nat → Prop) {t sz sg la dk : Nat} {z g b : Nat → Int32} {cr ca cg ck : Int32} {rest : va_W} {x y : Int32} (hout : ¬ (¬ x.toInt64 < 0 ∧ ¬ y.toInt64 ≤ x.toInt64)) : jMet l yX3_place cX3_place 3 (some .int) 5 0 0 E A [.ref dk, .int x, .int y] (dW E t sz sg la dk z g b cr ca cg ck rest) (jR (some (.int (-9))) (dW E t sz sg la dk z g b (cr + nI 1) ca cg ck rest)) jNo := by
  refine jMet.intro' [(0, .ref dk), (1, .int x), (2, .int y)] (by decide) (Nat.le_of_ble_eq_true rfl) rfl ?_
  intro p e R s m args below meth c Q C hQ
  refine j_iload_n C dX3_place_0 rfl ?_
  refine j_i2l (v := x.toInt64) C dX3_place_1 rfl ?_
  refine j_iload_n C dX3_place_2 rfl ?_
  refine j_i2l (v := y.toInt64) C dX3_place_3 rfl ?_
  refine j_callSr C (v := .int (bI (¬ x.toInt64 < 0 ∧ ¬ y.toInt64 ≤ x.toInt64))) (w := (dW E t sz sg la dk z g b cr ca cg ck rest)) (c_holdsPlace l E A) ok_X0_holdsPlace w_93 (by decide) rfl rfl (Nat.le_of_ble_eq_true rfl) ⟨Nat.le_of_ble_eq_true rfl, Nat.le_of_ble_eq_true rfl⟩ dX3_place_4 ?_
  refine j_ifb_eq_t (tgt := 14) C dX3_place_7 (by decide) hout ?_
  refine j_aload_n C dX3_place_14 rfl ?_
  refine j_callVr C 4 (v := .int (-9)) (w := (dW E t sz sg la dk z g b (cr + nI 1) ca cg ck rest)) (c_refuse l E A) ok_X3_refuse w_96 (by decide) rfl rfl (Nat.le_of_ble_eq_true rfl) rfl rfl ⟨Nat.le_of_ble_eq_true rfl, Nat.le_of_ble_eq_true rfl⟩ dX3_place_15 ?_
  exact j_iret C hQ rfl dX3_place_18 ⟨Nat.le_of_ble_eq_true rfl, Nat.le_of_ble_eq_true rfl⟩ ⟨rfl, rfl⟩
set_option maxHeartbeats 4000000 in
set_option maxRecDepth 100000 in
theorem f_isFarPlace_k (l : Launch) (E : jE) (A : Nat → Prop) {t sz sg la dk : Nat} {z g b : Nat → Int32} {cr ca cg ck : Int32} {rest : va_W} {x y : Int32}  : jMet l yX3_isFarPlace cX3_isFarPlace 3 (some .boolean) 5 0 0 E A [.ref dk, .int x, .int y] (dW E t sz sg la dk z g b cr ca cg ck rest) (jR (some (.int (bI (¬ (x.toInt64 * 4294967296) < 0 ∧ ¬ (y.toInt64 * 4294967296) ≤ (x.toInt64 * 4294967296))))) (dW E t sz sg la dk z g b cr ca cg ck rest)) jNo := by
  refine jMet.intro' [(0, .ref dk), (1, .int x), (2, .int y)] (by decide) (Nat.le_of_ble_eq_true rfl) rfl ?_
  intro p e R s m args below meth c Q C hQ
  refine j_iload_n C dX3_isFarPlace_0 rfl ?_
  refine j_callSr C (v := .long (x.toInt64 * 4294967296)) (w := (dW E t sz sg la dk z g b cr ca cg ck rest)) (c_far l E A) ok_X0_far w_118 (by decide) rfl rfl (Nat.le_of_ble_eq_true rfl) ⟨Nat.le_of_ble_eq_true rfl, Nat.le_of_ble_eq_true rfl⟩ dX3_isFarPlace_1 ?_
  refine j_iload_n C dX3_isFarPlace_4 rfl ?_
  refine j_callSr C (v := .long (y.toInt64 * 4294967296)) (w := (dW E t sz sg la dk z g b cr ca cg ck rest)) (c_far l E A) ok_X0_far w_118 (by decide) rfl rfl (Nat.le_of_ble_eq_true rfl) ⟨Nat.le_of_ble_eq_true rfl, Nat.le_of_ble_eq_true rfl⟩ dX3_isFarPlace_5 ?_
  refine j_callSr C (v := .int (bI (¬ (x.toInt64 * 4294967296) < 0 ∧ ¬ (y.toInt64 * 4294967296) ≤ (x.toInt64 * 4294967296)))) (w := (dW E t sz sg la dk z g b cr ca cg ck rest)) (c_holdsPlace l E A) ok_X0_holdsPlace w_93 (by decide) rfl rfl (Nat.le_of_ble_eq_true rfl) ⟨Nat.le_of_ble_eq_true rfl, Nat.le_of_ble_eq_true rfl⟩ dX3_isFarPlace_8 ?_
  exact j_zret C hQ rfl (bI_nar _) dX3_isFarPlace_11 ⟨Nat.le_of_ble_eq_true rfl, Nat.le_of_ble_eq_true rfl⟩ ⟨rfl, rfl⟩
set_option maxHeartbeats 4000000 in
set_option maxRecDepth 100000 in
theorem f_span_k (l : Launch) (E : jE) (A : Nat → Prop) {t sz sg la dk : Nat} {z g b : Nat → Int32} {cr ca cg ck : Int32} {rest : va_W} {x y w : Int32} (hin : ¬ x.toInt64 < 0 ∧ ¬ y.toInt64 < x.toInt64 ∧ ¬ w.toInt64 < y.toInt64) : jMet l yX3_span cX3_span 4 (some .int) 5 0 0 E A [.ref dk, .int x, .int y, .int w] (dW E t sz sg la dk z g b cr ca cg ck rest) (jR (some (.int x)) (dW E t sz sg la dk z g b cr ca cg ck rest)) jNo := by
  refine jMet.intro' [(0, .ref dk), (1, .int x), (2, .int y), (3, .int w)] (by decide) (Nat.le_of_ble_eq_true rfl) rfl ?_
  intro p e R s m args below meth c Q C hQ
  refine j_iload_n C dX3_span_0 rfl ?_
  refine j_i2l (v := x.toInt64) C dX3_span_1 rfl ?_
  refine j_iload_n C dX3_span_2 rfl ?_
  refine j_i2l (v := y.toInt64) C dX3_span_3 rfl ?_
  refine j_iload_n C dX3_span_4 rfl ?_
  refine j_i2l (v := w.toInt64) C dX3_span_5 rfl ?_
  refine j_callSr C (v := .int (bI (¬ x.toInt64 < 0 ∧ ¬ y.toInt64 < x.toInt64 ∧ ¬ w.toInt64 < y.toInt64))) (w := (dW E t sz sg la dk z g b cr ca cg ck rest)) (c_holdsSpan l E A) ok_X0_holdsSpan w_104 (by decide) rfl rfl (Nat.le_of_ble_eq_true rfl) ⟨Nat.le_of_ble_eq_true rfl, Nat.le_of_ble_eq_true rfl⟩ dX3_span_6 ?_
  refine j_ifb_eq_f (tgt := 16) C dX3_span_9 (by decide) hin ?_
  refine j_iload_n C dX3_span_12 rfl ?_
  refine j_goto (tgt := 20) C dX3_span_13 (by decide) ?_
  exact j_iret C hQ rfl dX3_span_20 ⟨Nat.le_of_ble_eq_true rfl, Nat.le_of_ble_eq_true rfl⟩ ⟨rfl, rfl⟩
set_option maxHeartbeats 4000000 in
set_option maxRecDepth 100000 in
theorem f_span_o (l : Launch) (E : jE) (A : Nat → Prop) {t sz sg la dk : Nat} {z g b : Nat → Int32} {cr ca cg ck : Int32} {rest : va_W} {x y w : Int32} (hout : ¬ (¬ x.toInt64 < 0 ∧ ¬ y.toInt64 < x.toInt64 ∧ ¬ w.toInt64 < y.toInt64)) : jMet l yX3_span cX3_span 4 (some .int) 5 0 0 E A [.ref dk, .int x, .int y, .int w] (dW E t sz sg la dk z g b cr ca cg ck rest) (jR (some (.int (-9))) (dW E t sz sg la dk z g b (cr + nI 1) ca cg ck rest)) jNo := by
  refine jMet.intro' [(0, .ref dk), (1, .int x), (2, .int y), (3, .int w)] (by decide) (Nat.le_of_ble_eq_true rfl) rfl ?_
  intro p e R s m args below meth c Q C hQ
  refine j_iload_n C dX3_span_0 rfl ?_
  refine j_i2l (v := x.toInt64) C dX3_span_1 rfl ?_
  refine j_iload_n C dX3_span_2 rfl ?_
  refine j_i2l (v := y.toInt64) C dX3_span_3 rfl ?_
  refine j_iload_n C dX3_span_4 rfl ?_
  refine j_i2l (v := w.toInt64) C dX3_span_5 rfl ?_
  refine j_callSr C (v := .int (bI (¬ x.toInt64 < 0 ∧ ¬ y.toInt64 < x.toInt64 ∧ ¬ w.toInt64 < y.toInt64))) (w := (dW E t sz sg la dk z g b cr ca cg ck rest)) (c_holdsSpan l E A) ok_X0_holdsSpan w_104 (by decide) rfl rfl (Nat.le_of_ble_eq_true rfl) ⟨Nat.le_of_ble_eq_true rfl, Nat.le_of_ble_eq_true rfl⟩ dX3_span_6 ?_
  refine j_ifb_eq_t (tgt := 16) C dX3_span_9 (by decide) hout ?_
  refine j_aload_n C dX3_span_16 rfl ?_
  refine j_callVr C 4 (v := .int (-9)) (w := (dW E t sz sg la dk z g b (cr + nI 1) ca cg ck rest)) (c_refuse l E A) ok_X3_refuse w_96 (by decide) rfl rfl (Nat.le_of_ble_eq_true rfl) rfl rfl ⟨Nat.le_of_ble_eq_true rfl, Nat.le_of_ble_eq_true rfl⟩ dX3_span_17 ?_
  exact j_iret C hQ rfl dX3_span_20 ⟨Nat.le_of_ble_eq_true rfl, Nat.le_of_ble_eq_true rfl⟩ ⟨rfl, rfl⟩
set_option maxHeartbeats 4000000 in
set_option maxRecDepth 100000 in
theorem f_isFarSpan_k (l : Launch) (E : jE) (A : Nat → Prop) {t sz sg la dk : Nat} {z g b : Nat → Int32} {cr ca cg ck : Int32} {rest : va_W} {x y w : Int32}  : jMet l yX3_isFarSpan cX3_isFarSpan 4 (some .boolean) 5 0 0 E A [.ref dk, .int x, .int y, .int w] (dW E t sz sg la dk z g b cr ca cg ck rest) (jR (some (.int (bI (¬ (x.toInt64 * 4294967296) < 0 ∧ ¬ (y.toInt64 * 4294967296) < (x.toInt64 * 4294967296) ∧ ¬ (w.toInt64 * 4294967296) < (y.toInt64 * 4294967296))))) (dW E t sz sg la dk z g b cr ca cg ck rest)) jNo := by
  refine jMet.intro' [(0, .ref dk), (1, .int x), (2, .int y), (3, .int w)] (by decide) (Nat.le_of_ble_eq_true rfl) rfl ?_
  intro p e R s m args below meth c Q C hQ
  refine j_iload_n C dX3_isFarSpan_0 rfl ?_
  refine j_callSr C (v := .long (x.toInt64 * 4294967296)) (w := (dW E t sz sg la dk z g b cr ca cg ck rest)) (c_far l E A) ok_X0_far w_118 (by decide) rfl rfl (Nat.le_of_ble_eq_true rfl) ⟨Nat.le_of_ble_eq_true rfl, Nat.le_of_ble_eq_true rfl⟩ dX3_isFarSpan_1 ?_
  refine j_iload_n C dX3_isFarSpan_4 rfl ?_
  refine j_callSr C (v := .long (y.toInt64 * 4294967296)) (w := (dW E t sz sg la dk z g b cr ca cg ck rest)) (c_far l E A) ok_X0_far w_118 (by decide) rfl rfl (Nat.le_of_ble_eq_true rfl) ⟨Nat.le_of_ble_eq_true rfl, Nat.le_of_ble_eq_true rfl⟩ dX3_isFarSpan_5 ?_
  refine j_iload_n C dX3_isFarSpan_8 rfl ?_
  refine j_callSr C (v := .long (w.toInt64 * 4294967296)) (w := (dW E t sz sg la dk z g b cr ca cg ck rest)) (c_far l E A) ok_X0_far w_118 (by decide) rfl rfl (Nat.le_of_ble_eq_true rfl) ⟨Nat.le_of_ble_eq_true rfl, Nat.le_of_ble_eq_true rfl⟩ dX3_isFarSpan_9 ?_
  refine j_callSr C (v := .int (bI (¬ (x.toInt64 * 4294967296) < 0 ∧ ¬ (y.toInt64 * 4294967296) < (x.toInt64 * 4294967296) ∧ ¬ (w.toInt64 * 4294967296) < (y.toInt64 * 4294967296)))) (w := (dW E t sz sg la dk z g b cr ca cg ck rest)) (c_holdsSpan l E A) ok_X0_holdsSpan w_104 (by decide) rfl rfl (Nat.le_of_ble_eq_true rfl) ⟨Nat.le_of_ble_eq_true rfl, Nat.le_of_ble_eq_true rfl⟩ dX3_isFarSpan_12 ?_
  exact j_zret C hQ rfl (bI_nar _) dX3_isFarSpan_15 ⟨Nat.le_of_ble_eq_true rfl, Nat.le_of_ble_eq_true rfl⟩ ⟨rfl, rfl⟩
set_option maxHeartbeats 4000000 in
set_option maxRecDepth 100000 in
theorem f_stretch_k (l : Launch) (E : jE) (A : Nat → Prop) {t sz sg la dk : Nat} {z g b : Nat → Int32} {cr ca cg ck : Int32} {rest : va_W} {x y w : Int32} (hin : ¬ x.toInt64 < 0 ∧ ¬ y.toInt64 < 0 ∧ ¬ w.toInt64 < 0 ∧ ¬ w.toInt64 - y.toInt64 < x.toInt64) : jMet l yX3_stretch cX3_stretch 4 (some .int) 5 0 0 E A [.ref dk, .int x, .int y, .int w] (dW E t sz sg la dk z g b cr ca cg ck rest) (jR (some (.int x)) (dW E t sz sg la dk z g b cr ca cg ck rest)) jNo := by
  refine jMet.intro' [(0, .ref dk), (1, .int x), (2, .int y), (3, .int w)] (by decide) (Nat.le_of_ble_eq_true rfl) rfl ?_
  intro p e R s m args below meth c Q C hQ
  refine j_iload_n C dX3_stretch_0 rfl ?_
  refine j_i2l (v := x.toInt64) C dX3_stretch_1 rfl ?_
  refine j_iload_n C dX3_stretch_2 rfl ?_
  refine j_i2l (v := y.toInt64) C dX3_stretch_3 rfl ?_
  refine j_iload_n C dX3_stretch_4 rfl ?_
  refine j_i2l (v := w.toInt64) C dX3_stretch_5 rfl ?_
  refine j_callSr C (v := .int (bI (¬ x.toInt64 < 0 ∧ ¬ y.toInt64 < 0 ∧ ¬ w.toInt64 < 0 ∧ ¬ w.toInt64 - y.toInt64 < x.toInt64))) (w := (dW E t sz sg la dk z g b cr ca cg ck rest)) (c_holdsStretch l E A) ok_X0_holdsStretch w_111 (by decide) rfl rfl (Nat.le_of_ble_eq_true rfl) ⟨Nat.le_of_ble_eq_true rfl, Nat.le_of_ble_eq_true rfl⟩ dX3_stretch_6 ?_
  refine j_ifb_eq_f (tgt := 16) C dX3_stretch_9 (by decide) hin ?_
  refine j_iload_n C dX3_stretch_12 rfl ?_
  refine j_goto (tgt := 20) C dX3_stretch_13 (by decide) ?_
  exact j_iret C hQ rfl dX3_stretch_20 ⟨Nat.le_of_ble_eq_true rfl, Nat.le_of_ble_eq_true rfl⟩ ⟨rfl, rfl⟩
set_option maxHeartbeats 4000000 in
set_option maxRecDepth 100000 in
theorem f_stretch_o (l : Launch) (E : jE) (A : Nat → Prop) {t sz sg la dk : Nat} {z g b : Nat → Int32} {cr ca cg ck : Int32} {rest : va_W} {x y w : Int32} (hout : ¬ (¬ x.toInt64 < 0 ∧ ¬ y.toInt64 < 0 ∧ ¬ w.toInt64 < 0 ∧ ¬ w.toInt64 - y.toInt64 < x.toInt64)) : jMet l yX3_stretch cX3_stretch 4 (some .int) 5 0 0 E A [.ref dk, .int x, .int y, .int w] (dW E t sz sg la dk z g b cr ca cg ck rest) (jR (some (.int (-9))) (dW E t sz sg la dk z g b (cr + nI 1) ca cg ck rest)) jNo := by
  refine jMet.intro' [(0, .ref dk), (1, .int x), (2, .int y), (3, .int w)] (by decide) (Nat.le_of_ble_eq_true rfl) rfl ?_
  intro p e R s m args below meth c Q C hQ
  refine j_iload_n C dX3_stretch_0 rfl ?_
  refine j_i2l (v := x.toInt64) C dX3_stretch_1 rfl ?_
  refine j_iload_n C dX3_stretch_2 rfl ?_
  refine j_i2l (v := y.toInt64) C dX3_stretch_3 rfl ?_
  refine j_iload_n C dX3_stretch_4 rfl ?_
  refine j_i2l (v := w.toInt64) C dX3_stretch_5 rfl ?_
  refine j_callSr C (v := .int (bI (¬ x.toInt64 < 0 ∧ ¬ y.toInt64 < 0 ∧ ¬ w.toInt64 < 0 ∧ ¬ w.toInt64 - y.toInt64 < x.toInt64))) (w := (dW E t sz sg la dk z g b cr ca cg ck rest)) (c_holdsStretch l E A) ok_X0_holdsStretch w_111 (by decide) rfl rfl (Nat.le_of_ble_eq_true rfl) ⟨Nat.le_of_ble_eq_true rfl, Nat.le_of_ble_eq_true rfl⟩ dX3_stretch_6 ?_
  refine j_ifb_eq_t (tgt := 16) C dX3_stretch_9 (by decide) hout ?_
  refine j_aload_n C dX3_stretch_16 rfl ?_
  refine j_callVr C 4 (v := .int (-9)) (w := (dW E t sz sg la dk z g b (cr + nI 1) ca cg ck rest)) (c_refuse l E A) ok_X3_refuse w_96 (by decide) rfl rfl (Nat.le_of_ble_eq_true rfl) rfl rfl ⟨Nat.le_of_ble_eq_true rfl, Nat.le_of_ble_eq_true rfl⟩ dX3_stretch_17 ?_
  exact j_iret C hQ rfl dX3_stretch_20 ⟨Nat.le_of_ble_eq_true rfl, Nat.le_of_ble_eq_true rfl⟩ ⟨rfl, rfl⟩
set_option maxHeartbeats 4000000 in
set_option maxRecDepth 100000 in
theorem f_isFarStretch_k (l : Launch) (E : jE) (A : Nat → Prop) {t sz sg la dk : Nat} {z g b : Nat → Int32} {cr ca cg ck : Int32} {rest : va_W} {x y w : Int32}  : jMet l yX3_isFarStretch cX3_isFarStretch 4 (some .boolean) 5 0 0 E A [.ref dk, .int x, .int y, .int w] (dW E t sz sg la dk z g b cr ca cg ck rest) (jR (some (.int (bI (¬ (x.toInt64 * 4294967296) < 0 ∧ ¬ (y.toInt64 * 4294967296) < 0 ∧ ¬ (w.toInt64 * 4294967296) < 0 ∧ ¬ (w.toInt64 * 4294967296) - (y.toInt64 * 4294967296) < (x.toInt64 * 4294967296))))) (dW E t sz sg la dk z g b cr ca cg ck rest)) jNo := by
  refine jMet.intro' [(0, .ref dk), (1, .int x), (2, .int y), (3, .int w)] (by decide) (Nat.le_of_ble_eq_true rfl) rfl ?_
  intro p e R s m args below meth c Q C hQ
  refine j_iload_n C dX3_isFarStretch_0 rfl ?_
  refine j_callSr C (v := .long (x.toInt64 * 4294967296)) (w := (dW E t sz sg la dk z g b cr ca cg ck rest)) (c_far l E A) ok_X0_far w_118 (by decide) rfl rfl (Nat.le_of_ble_eq_true rfl) ⟨Nat.le_of_ble_eq_true rfl, Nat.le_of_ble_eq_true rfl⟩ dX3_isFarStretch_1 ?_
  refine j_iload_n C dX3_isFarStretch_4 rfl ?_
  refine j_callSr C (v := .long (y.toInt64 * 4294967296)) (w := (dW E t sz sg la dk z g b cr ca cg ck rest)) (c_far l E A) ok_X0_far w_118 (by decide) rfl rfl (Nat.le_of_ble_eq_true rfl) ⟨Nat.le_of_ble_eq_true rfl, Nat.le_of_ble_eq_true rfl⟩ dX3_isFarStretch_5 ?_
  refine j_iload_n C dX3_isFarStretch_8 rfl ?_
  refine j_callSr C (v := .long (w.toInt64 * 4294967296)) (w := (dW E t sz sg la dk z g b cr ca cg ck rest)) (c_far l E A) ok_X0_far w_118 (by decide) rfl rfl (Nat.le_of_ble_eq_true rfl) ⟨Nat.le_of_ble_eq_true rfl, Nat.le_of_ble_eq_true rfl⟩ dX3_isFarStretch_9 ?_
  refine j_callSr C (v := .int (bI (¬ (x.toInt64 * 4294967296) < 0 ∧ ¬ (y.toInt64 * 4294967296) < 0 ∧ ¬ (w.toInt64 * 4294967296) < 0 ∧ ¬ (w.toInt64 * 4294967296) - (y.toInt64 * 4294967296) < (x.toInt64 * 4294967296)))) (w := (dW E t sz sg la dk z g b cr ca cg ck rest)) (c_holdsStretch l E A) ok_X0_holdsStretch w_111 (by decide) rfl rfl (Nat.le_of_ble_eq_true rfl) ⟨Nat.le_of_ble_eq_true rfl, Nat.le_of_ble_eq_true rfl⟩ dX3_isFarStretch_12 ?_
  exact j_zret C hQ rfl (bI_nar _) dX3_isFarStretch_15 ⟨Nat.le_of_ble_eq_true rfl, Nat.le_of_ble_eq_true rfl⟩ ⟨rfl, rfl⟩
set_option maxHeartbeats 4000000 in
set_option maxRecDepth 100000 in
theorem f_length_b (l : Launch) (hl : l.stackTraces = false) (E : jE) (A : Nat → Prop) {t sz sg la dk : Nat} {z g b : Nat → Int32} {cr ca cg ck : Int32} {rest : va_W} {x : Int32} (hbx : x < 0 ∨ nI 9 ≤ x) : jMet l yX3_length cX3_length 2 (some .int) 5 1 6 E A [.ref dk, .int x] (dW E t sz sg la dk z g b cr ca cg ck rest) jNv (jT jIO (dW E t sz sg la dk z g b cr ca cg ck rest)) := by
  refine jMet.intro' [(0, .ref dk), (1, .int x)] (by decide) (Nat.le_of_ble_eq_true rfl) rfl ?_
  intro p e R s m args below meth c Q C hQ
  refine j_iload_n C dX3_length_0 rfl ?_
  refine j_callSx C (c_wantSeat_x l hl E A hbx) ok_X3_wantSeat w_272 (by decide) rfl rfl (Nat.le_of_ble_eq_true rfl) ⟨Nat.le_of_ble_eq_true rfl, Nat.le_of_ble_eq_true rfl⟩ dX3_length_1 ?_
  exact j_xout C hQ ⟨Nat.le_of_ble_eq_true rfl, Nat.le_of_ble_eq_true rfl⟩ ⟨rfl, rfl⟩
set_option maxHeartbeats 4000000 in
set_option maxRecDepth 100000 in
theorem f_length_k (l : Launch) (E : jE) (A : Nat → Prop) {t sz sg la dk : Nat} {z g b : Nat → Int32} {cr ca cg ck : Int32} {rest : va_W} {i : Nat} (hi : i < 9)  : jMet l yX3_length cX3_length 2 (some .int) 5 0 0 E A [.ref dk, .int (nI i)] (dW E t sz sg la dk z g b cr ca cg ck rest) (jR (some (.int (z i))) (dW E t sz sg la dk z g b cr ca cg ck rest)) jNo := by
  refine jMet.intro' [(0, .ref dk), (1, .int (nI i))] (by decide) (Nat.le_of_ble_eq_true rfl) rfl ?_
  intro p e R s m args below meth c Q C hQ
  refine j_iload_n C dX3_length_0 rfl ?_
  refine j_callSv C (w := (dW E t sz sg la dk z g b cr ca cg ck rest)) (c_wantSeat_r l E A (by omega)) ok_X3_wantSeat w_272 (by decide) rfl rfl (Nat.le_of_ble_eq_true rfl) ⟨Nat.le_of_ble_eq_true rfl, Nat.le_of_ble_eq_true rfl⟩ dX3_length_1 ?_
  refine j_aload_n C dX3_length_4 rfl ?_
  refine j_get C 4 rfl inj_X3 rfl 0 (by decide) w_73 rfl dX3_length_5 ?_
  refine j_iload_n C dX3_length_8 rfl ?_
  refine j_callVr C 0 (v := .int (z i)) (w := (dW E t sz sg la dk z g b cr ca cg ck rest)) (c_size l E A (by omega)) ok_X2_size w_241 (by decide) rfl rfl (Nat.le_of_ble_eq_true rfl) rfl rfl ⟨Nat.le_of_ble_eq_true rfl, Nat.le_of_ble_eq_true rfl⟩ dX3_length_9 ?_
  exact j_iret C hQ rfl dX3_length_12 ⟨Nat.le_of_ble_eq_true rfl, Nat.le_of_ble_eq_true rfl⟩ ⟨rfl, rfl⟩
set_option maxHeartbeats 4000000 in
set_option maxRecDepth 100000 in
theorem f_signAt_b (l : Launch) (hl : l.stackTraces = false) (E : jE) (A : Nat → Prop) {t sz sg la dk : Nat} {z g b : Nat → Int32} {cr ca cg ck : Int32} {rest : va_W} {x y : Int32} (hbx : x < 0 ∨ nI 9 ≤ x) : jMet l yX3_signAt cX3_signAt 3 (some .int) 5 1 6 E A [.ref dk, .int x, .int y] (dW E t sz sg la dk z g b cr ca cg ck rest) jNv (jT jIO (dW E t sz sg la dk z g b cr ca cg ck rest)) := by
  refine jMet.intro' [(0, .ref dk), (1, .int x), (2, .int y)] (by decide) (Nat.le_of_ble_eq_true rfl) rfl ?_
  intro p e R s m args below meth c Q C hQ
  refine j_iload_n C dX3_signAt_0 rfl ?_
  refine j_callSx C (c_wantSeat_x l hl E A hbx) ok_X3_wantSeat w_272 (by decide) rfl rfl (Nat.le_of_ble_eq_true rfl) ⟨Nat.le_of_ble_eq_true rfl, Nat.le_of_ble_eq_true rfl⟩ dX3_signAt_1 ?_
  exact j_xout C hQ ⟨Nat.le_of_ble_eq_true rfl, Nat.le_of_ble_eq_true rfl⟩ ⟨rfl, rfl⟩
set_option maxHeartbeats 4000000 in
set_option maxRecDepth 100000 in
theorem f_signAt_m (l : Launch) (E : jE) (A : Nat → Prop) {t sz sg la dk : Nat} {z g b : Nat → Int32} {cr ca cg ck : Int32} {rest : va_W} {i : Nat} (hi : i < 9) {y : Int32} (hz : z i = -1)  : jMet l yX3_signAt cX3_signAt 3 (some .int) 5 0 0 E A [.ref dk, .int (nI i), .int y] (dW E t sz sg la dk z g b cr ca cg ck rest) (jR (some (.int (-9))) (dW E t sz sg la dk z g b (cr + nI 1) ca cg ck rest)) jNo := by
  refine jMet.intro' [(0, .ref dk), (1, .int (nI i)), (2, .int y)] (by decide) (Nat.le_of_ble_eq_true rfl) rfl ?_
  intro p e R s m args below meth c Q C hQ
  refine j_iload_n C dX3_signAt_0 rfl ?_
  refine j_callSv C (w := (dW E t sz sg la dk z g b cr ca cg ck rest)) (c_wantSeat_r l E A (by omega)) ok_X3_wantSeat w_272 (by decide) rfl rfl (Nat.le_of_ble_eq_true rfl) ⟨Nat.le_of_ble_eq_true rfl, Nat.le_of_ble_eq_true rfl⟩ dX3_signAt_1 ?_
  refine j_aload_n C dX3_signAt_4 rfl ?_
  refine j_get C 4 rfl inj_X3 rfl 0 (by decide) w_73 rfl dX3_signAt_5 ?_
  refine j_iload_n C dX3_signAt_8 rfl ?_
  refine j_callVr C 0 (v := .int (bI (z i = -1))) (w := (dW E t sz sg la dk z g b cr ca cg ck rest)) (c_isAway l E A (by omega)) ok_X2_isAway w_369 (by decide) rfl rfl (Nat.le_of_ble_eq_true rfl) rfl rfl ⟨Nat.le_of_ble_eq_true rfl, Nat.le_of_ble_eq_true rfl⟩ dX3_signAt_9 ?_
  refine j_ifb_ne_t (tgt := 32) C dX3_signAt_12 (by decide) hz ?_
  refine j_aload_n C dX3_signAt_32 rfl ?_
  refine j_callVr C 4 (v := .int (-9)) (w := (dW E t sz sg la dk z g b (cr + nI 1) ca cg ck rest)) (c_refuse l E A) ok_X3_refuse w_96 (by decide) rfl rfl (Nat.le_of_ble_eq_true rfl) rfl rfl ⟨Nat.le_of_ble_eq_true rfl, Nat.le_of_ble_eq_true rfl⟩ dX3_signAt_33 ?_
  exact j_iret C hQ rfl dX3_signAt_36 ⟨Nat.le_of_ble_eq_true rfl, Nat.le_of_ble_eq_true rfl⟩ ⟨rfl, rfl⟩
set_option maxHeartbeats 4000000 in
set_option maxRecDepth 100000 in
theorem f_signAt_o (l : Launch) (E : jE) (A : Nat → Prop) {t sz sg la dk : Nat} {z g b : Nat → Int32} {cr ca cg ck : Int32} {rest : va_W} {i : Nat} (hi : i < 9) {y : Int32} {n : Nat} (hn : n ≤ 24) (hz : z i = nI n) (hout : ¬ (¬ y.toInt64 < 0 ∧ ¬ ((nI n).toInt64) ≤ y.toInt64)) : jMet l yX3_signAt cX3_signAt 3 (some .int) 5 0 0 E A [.ref dk, .int (nI i), .int y] (dW E t sz sg la dk z g b cr ca cg ck rest) (jR (some (.int (-9))) (dW E t sz sg la dk z g b (cr + nI 1) ca cg ck rest)) jNo := by
  refine jMet.intro' [(0, .ref dk), (1, .int (nI i)), (2, .int y)] (by decide) (Nat.le_of_ble_eq_true rfl) rfl ?_
  intro p e R s m args below meth c Q C hQ
  refine j_iload_n C dX3_signAt_0 rfl ?_
  refine j_callSv C (w := (dW E t sz sg la dk z g b cr ca cg ck rest)) (c_wantSeat_r l E A (by omega)) ok_X3_wantSeat w_272 (by decide) rfl rfl (Nat.le_of_ble_eq_true rfl) ⟨Nat.le_of_ble_eq_true rfl, Nat.le_of_ble_eq_true rfl⟩ dX3_signAt_1 ?_
  refine j_aload_n C dX3_signAt_4 rfl ?_
  refine j_get C 4 rfl inj_X3 rfl 0 (by decide) w_73 rfl dX3_signAt_5 ?_
  refine j_iload_n C dX3_signAt_8 rfl ?_
  refine j_callVr C 0 (v := .int (bI (z i = -1))) (w := (dW E t sz sg la dk z g b cr ca cg ck rest)) (c_isAway l E A (by omega)) ok_X2_isAway w_369 (by decide) rfl rfl (Nat.le_of_ble_eq_true rfl) rfl rfl ⟨Nat.le_of_ble_eq_true rfl, Nat.le_of_ble_eq_true rfl⟩ dX3_signAt_9 ?_
  refine j_ifb_ne_f (tgt := 32) C dX3_signAt_12 (by decide) (by rw [hz]; exact nI_ne_m (by omega)) ?_
  refine j_iload_n C dX3_signAt_15 rfl ?_
  refine j_i2l (v := y.toInt64) C dX3_signAt_16 rfl ?_
  refine j_aload_n C dX3_signAt_17 rfl ?_
  refine j_get C 4 rfl inj_X3 rfl 0 (by decide) w_73 rfl dX3_signAt_18 ?_
  refine j_iload_n C dX3_signAt_21 rfl ?_
  refine j_callVr C 0 (v := .int (nI n)) (w := (dW E t sz sg la dk z g b cr ca cg ck rest)) (c_size_n l E A (by omega) hz) ok_X2_size w_241 (by decide) rfl rfl (Nat.le_of_ble_eq_true rfl) rfl rfl ⟨Nat.le_of_ble_eq_true rfl, Nat.le_of_ble_eq_true rfl⟩ dX3_signAt_22 ?_
  refine j_i2l (v := (nI n).toInt64) C dX3_signAt_25 rfl ?_
  refine j_callSr C (v := .int (bI (¬ y.toInt64 < 0 ∧ ¬ ((nI n).toInt64) ≤ y.toInt64))) (w := (dW E t sz sg la dk z g b cr ca cg ck rest)) (c_holdsPlace l E A) ok_X0_holdsPlace w_93 (by decide) rfl rfl (Nat.le_of_ble_eq_true rfl) ⟨Nat.le_of_ble_eq_true rfl, Nat.le_of_ble_eq_true rfl⟩ dX3_signAt_26 ?_
  refine j_ifb_ne_f (tgt := 37) C dX3_signAt_29 (by decide) hout ?_
  refine j_aload_n C dX3_signAt_32 rfl ?_
  refine j_callVr C 4 (v := .int (-9)) (w := (dW E t sz sg la dk z g b (cr + nI 1) ca cg ck rest)) (c_refuse l E A) ok_X3_refuse w_96 (by decide) rfl rfl (Nat.le_of_ble_eq_true rfl) rfl rfl ⟨Nat.le_of_ble_eq_true rfl, Nat.le_of_ble_eq_true rfl⟩ dX3_signAt_33 ?_
  exact j_iret C hQ rfl dX3_signAt_36 ⟨Nat.le_of_ble_eq_true rfl, Nat.le_of_ble_eq_true rfl⟩ ⟨rfl, rfl⟩
set_option maxHeartbeats 4000000 in
set_option maxRecDepth 100000 in
theorem f_signAt_k (l : Launch) (E : jE) (A : Nat → Prop) {t sz sg la dk : Nat} {z g b : Nat → Int32} {cr ca cg ck : Int32} {rest : va_W} {i : Nat} (hi : i < 9) {y : Nat} {n : Nat} (hn : n ≤ 24) (hz : z i = nI n) (hy : y < n) : jMet l yX3_signAt cX3_signAt 3 (some .int) 5 0 0 E A [.ref dk, .int (nI i), .int (nI y)] (dW E t sz sg la dk z g b cr ca cg ck rest) (jR (some (.int (g (i * 24 + y)))) (dW E t sz sg la dk z g b cr ca cg ck rest)) jNo := by
  refine jMet.intro' [(0, .ref dk), (1, .int (nI i)), (2, .int (nI y))] (by decide) (Nat.le_of_ble_eq_true rfl) rfl ?_
  intro p e R s m args below meth c Q C hQ
  refine j_iload_n C dX3_signAt_0 rfl ?_
  refine j_callSv C (w := (dW E t sz sg la dk z g b cr ca cg ck rest)) (c_wantSeat_r l E A (by omega)) ok_X3_wantSeat w_272 (by decide) rfl rfl (Nat.le_of_ble_eq_true rfl) ⟨Nat.le_of_ble_eq_true rfl, Nat.le_of_ble_eq_true rfl⟩ dX3_signAt_1 ?_
  refine j_aload_n C dX3_signAt_4 rfl ?_
  refine j_get C 4 rfl inj_X3 rfl 0 (by decide) w_73 rfl dX3_signAt_5 ?_
  refine j_iload_n C dX3_signAt_8 rfl ?_
  refine j_callVr C 0 (v := .int (bI (z i = -1))) (w := (dW E t sz sg la dk z g b cr ca cg ck rest)) (c_isAway l E A (by omega)) ok_X2_isAway w_369 (by decide) rfl rfl (Nat.le_of_ble_eq_true rfl) rfl rfl ⟨Nat.le_of_ble_eq_true rfl, Nat.le_of_ble_eq_true rfl⟩ dX3_signAt_9 ?_
  refine j_ifb_ne_f (tgt := 32) C dX3_signAt_12 (by decide) (by rw [hz]; exact nI_ne_m (by omega)) ?_
  refine j_iload_n C dX3_signAt_15 rfl ?_
  refine j_i2l (v := (nI y).toInt64) C dX3_signAt_16 rfl ?_
  refine j_aload_n C dX3_signAt_17 rfl ?_
  refine j_get C 4 rfl inj_X3 rfl 0 (by decide) w_73 rfl dX3_signAt_18 ?_
  refine j_iload_n C dX3_signAt_21 rfl ?_
  refine j_callVr C 0 (v := .int (nI n)) (w := (dW E t sz sg la dk z g b cr ca cg ck rest)) (c_size_n l E A (by omega) hz) ok_X2_size w_241 (by decide) rfl rfl (Nat.le_of_ble_eq_true rfl) rfl rfl ⟨Nat.le_of_ble_eq_true rfl, Nat.le_of_ble_eq_true rfl⟩ dX3_signAt_22 ?_
  refine j_i2l (v := (nI n).toInt64) C dX3_signAt_25 rfl ?_
  refine j_callSr C (v := .int (bI (¬ ((nI y).toInt64) < 0 ∧ ¬ ((nI n).toInt64) ≤ ((nI y).toInt64)))) (w := (dW E t sz sg la dk z g b cr ca cg ck rest)) (c_holdsPlace l E A) ok_X0_holdsPlace w_93 (by decide) rfl rfl (Nat.le_of_ble_eq_true rfl) ⟨Nat.le_of_ble_eq_true rfl, Nat.le_of_ble_eq_true rfl⟩ dX3_signAt_26 ?_
  refine j_ifb_ne_t (tgt := 37) C dX3_signAt_29 (by decide) (place_of hy hn) ?_
  refine j_aload_n C dX3_signAt_37 rfl ?_
  refine j_get C 4 rfl inj_X3 rfl 0 (by decide) w_73 rfl dX3_signAt_38 ?_
  refine j_iload_n C dX3_signAt_41 rfl ?_
  refine j_iload_n C dX3_signAt_42 rfl ?_
  refine j_callVr C 0 (v := .int (g (i * 24 + y))) (w := (dW E t sz sg la dk z g b cr ca cg ck rest)) (c_sign l E A (by omega) (by omega)) ok_X2_sign w_440 (by decide) rfl rfl (Nat.le_of_ble_eq_true rfl) rfl rfl ⟨Nat.le_of_ble_eq_true rfl, Nat.le_of_ble_eq_true rfl⟩ dX3_signAt_43 ?_
  exact j_iret C hQ rfl dX3_signAt_46 ⟨Nat.le_of_ble_eq_true rfl, Nat.le_of_ble_eq_true rfl⟩ ⟨rfl, rfl⟩
set_option maxHeartbeats 4000000 in
set_option maxRecDepth 100000 in
theorem f_isEmpty_b (l : Launch) (hl : l.stackTraces = false) (E : jE) (A : Nat → Prop) {t sz sg la dk : Nat} {z g b : Nat → Int32} {cr ca cg ck : Int32} {rest : va_W} {x : Int32} (hbx : x < 0 ∨ nI 9 ≤ x) : jMet l yX3_isEmpty cX3_isEmpty 2 (some .boolean) 5 1 6 E A [.ref dk, .int x] (dW E t sz sg la dk z g b cr ca cg ck rest) jNv (jT jIO (dW E t sz sg la dk z g b cr ca cg ck rest)) := by
  refine jMet.intro' [(0, .ref dk), (1, .int x)] (by decide) (Nat.le_of_ble_eq_true rfl) rfl ?_
  intro p e R s m args below meth c Q C hQ
  refine j_iload_n C dX3_isEmpty_0 rfl ?_
  refine j_callSx C (c_wantSeat_x l hl E A hbx) ok_X3_wantSeat w_272 (by decide) rfl rfl (Nat.le_of_ble_eq_true rfl) ⟨Nat.le_of_ble_eq_true rfl, Nat.le_of_ble_eq_true rfl⟩ dX3_isEmpty_1 ?_
  exact j_xout C hQ ⟨Nat.le_of_ble_eq_true rfl, Nat.le_of_ble_eq_true rfl⟩ ⟨rfl, rfl⟩
set_option maxHeartbeats 4000000 in
set_option maxRecDepth 100000 in
theorem f_isEmpty_m (l : Launch) (hl : l.stackTraces = false) (E : jE) (A : Nat → Prop) {t sz sg la dk : Nat} {z g b : Nat → Int32} {cr ca cg ck : Int32} {rest : va_W} {i : Nat} (hi : i < 9) (hz : z i = -1)  : jMet l yX3_isEmpty cX3_isEmpty 2 (some .boolean) 5 1 6 E A [.ref dk, .int (nI i)] (dW E t sz sg la dk z g b cr ca cg ck rest) jNv (jT jIS (dW E t sz sg la dk z g b cr ca cg ck rest)) := by
  refine jMet.intro' [(0, .ref dk), (1, .int (nI i))] (by decide) (Nat.le_of_ble_eq_true rfl) rfl ?_
  intro p e R s m args below meth c Q C hQ
  refine j_iload_n C dX3_isEmpty_0 rfl ?_
  refine j_callSv C (w := (dW E t sz sg la dk z g b cr ca cg ck rest)) (c_wantSeat_r l E A (by omega)) ok_X3_wantSeat w_272 (by decide) rfl rfl (Nat.le_of_ble_eq_true rfl) ⟨Nat.le_of_ble_eq_true rfl, Nat.le_of_ble_eq_true rfl⟩ dX3_isEmpty_1 ?_
  refine j_aload_n C dX3_isEmpty_4 rfl ?_
  refine j_iload_n C dX3_isEmpty_5 rfl ?_
  refine j_callVx C 4 (c_wantThere_x l hl E A (by omega) hz) ok_X3_wantThere w_365 (by decide) rfl rfl (Nat.le_of_ble_eq_true rfl) rfl rfl ⟨Nat.le_of_ble_eq_true rfl, Nat.le_of_ble_eq_true rfl⟩ dX3_isEmpty_6 ?_
  exact j_xout C hQ ⟨Nat.le_of_ble_eq_true rfl, Nat.le_of_ble_eq_true rfl⟩ ⟨rfl, rfl⟩
set_option maxHeartbeats 4000000 in
set_option maxRecDepth 100000 in
theorem f_isEmpty_k (l : Launch) (E : jE) (A : Nat → Prop) {t sz sg la dk : Nat} {z g b : Nat → Int32} {cr ca cg ck : Int32} {rest : va_W} {i : Nat} (hi : i < 9) {n : Nat} (hn : n ≤ 24) (hz : z i = nI n)  : jMet l yX3_isEmpty cX3_isEmpty 2 (some .boolean) 5 0 0 E A [.ref dk, .int (nI i)] (dW E t sz sg la dk z g b cr ca cg ck rest) (jR (some (.int (bI (n = 0)))) (dW E t sz sg la dk z g b cr ca cg ck rest)) jNo := by
  refine jMet.intro' [(0, .ref dk), (1, .int (nI i))] (by decide) (Nat.le_of_ble_eq_true rfl) rfl ?_
  intro p e R s m args below meth c Q C hQ
  refine j_iload_n C dX3_isEmpty_0 rfl ?_
  refine j_callSv C (w := (dW E t sz sg la dk z g b cr ca cg ck rest)) (c_wantSeat_r l E A (by omega)) ok_X3_wantSeat w_272 (by decide) rfl rfl (Nat.le_of_ble_eq_true rfl) ⟨Nat.le_of_ble_eq_true rfl, Nat.le_of_ble_eq_true rfl⟩ dX3_isEmpty_1 ?_
  refine j_aload_n C dX3_isEmpty_4 rfl ?_
  refine j_iload_n C dX3_isEmpty_5 rfl ?_
  refine j_callVv C 4 (w := (dW E t sz sg la dk z g b cr ca cg ck rest)) (c_wantThere_r l E A (by omega) hn hz) ok_X3_wantThere w_365 (by decide) rfl rfl (Nat.le_of_ble_eq_true rfl) rfl rfl ⟨Nat.le_of_ble_eq_true rfl, Nat.le_of_ble_eq_true rfl⟩ dX3_isEmpty_6 ?_
  refine j_aload_n C dX3_isEmpty_9 rfl ?_
  refine j_get C 4 rfl inj_X3 rfl 0 (by decide) w_73 rfl dX3_isEmpty_10 ?_
  refine j_iload_n C dX3_isEmpty_13 rfl ?_
  refine j_callVr C 0 (v := .int (nI n)) (w := (dW E t sz sg la dk z g b cr ca cg ck rest)) (c_size_n l E A (by omega) hz) ok_X2_size w_241 (by decide) rfl rfl (Nat.le_of_ble_eq_true rfl) rfl rfl ⟨Nat.le_of_ble_eq_true rfl, Nat.le_of_ble_eq_true rfl⟩ dX3_isEmpty_14 ?_
  refine j_ifn_ne (tgt := 24) C dX3_isEmpty_17 (by decide) (by omega) (fun h17 => ?_) (fun h17 => ?_)
  · skip
    refine j_iconst (v := (nI 0)) C dX3_isEmpty_24 rfl ?_
    exact j_zret C hQ rfl rfl dX3_isEmpty_25 ⟨Nat.le_of_ble_eq_true rfl, Nat.le_of_ble_eq_true rfl⟩ ⟨by rw [bI_f (by simp only [*, not_true_eq_false, not_false_eq_true, false_and, and_false, and_self])]; rfl, rfl⟩
  · skip
    refine j_iconst (v := (nI 1)) C dX3_isEmpty_20 rfl ?_
    refine j_goto (tgt := 25) C dX3_isEmpty_21 (by decide) ?_
    exact j_zret C hQ rfl rfl dX3_isEmpty_25 ⟨Nat.le_of_ble_eq_true rfl, Nat.le_of_ble_eq_true rfl⟩ ⟨by rw [bI_t (by simp only [*, not_false_eq_true, and_self])]; rfl, rfl⟩
set_option maxHeartbeats 4000000 in
set_option maxRecDepth 100000 in
theorem f_isMissing_b (l : Launch) (hl : l.stackTraces = false) (E : jE) (A : Nat → Prop) {t sz sg la dk : Nat} {z g b : Nat → Int32} {cr ca cg ck : Int32} {rest : va_W} {x : Int32} (hbx : x < 0 ∨ nI 9 ≤ x) : jMet l yX3_isMissing cX3_isMissing 2 (some .boolean) 5 1 6 E A [.ref dk, .int x] (dW E t sz sg la dk z g b cr ca cg ck rest) jNv (jT jIO (dW E t sz sg la dk z g b cr ca cg ck rest)) := by
  refine jMet.intro' [(0, .ref dk), (1, .int x)] (by decide) (Nat.le_of_ble_eq_true rfl) rfl ?_
  intro p e R s m args below meth c Q C hQ
  refine j_iload_n C dX3_isMissing_0 rfl ?_
  refine j_callSx C (c_wantSeat_x l hl E A hbx) ok_X3_wantSeat w_272 (by decide) rfl rfl (Nat.le_of_ble_eq_true rfl) ⟨Nat.le_of_ble_eq_true rfl, Nat.le_of_ble_eq_true rfl⟩ dX3_isMissing_1 ?_
  exact j_xout C hQ ⟨Nat.le_of_ble_eq_true rfl, Nat.le_of_ble_eq_true rfl⟩ ⟨rfl, rfl⟩
set_option maxHeartbeats 4000000 in
set_option maxRecDepth 100000 in
theorem f_isMissing_k (l : Launch) (E : jE) (A : Nat → Prop) {t sz sg la dk : Nat} {z g b : Nat → Int32} {cr ca cg ck : Int32} {rest : va_W} {i : Nat} (hi : i < 9)  : jMet l yX3_isMissing cX3_isMissing 2 (some .boolean) 5 0 0 E A [.ref dk, .int (nI i)] (dW E t sz sg la dk z g b cr ca cg ck rest) (jR (some (.int (bI (z i = -1)))) (dW E t sz sg la dk z g b cr ca cg ck rest)) jNo := by
  refine jMet.intro' [(0, .ref dk), (1, .int (nI i))] (by decide) (Nat.le_of_ble_eq_true rfl) rfl ?_
  intro p e R s m args below meth c Q C hQ
  refine j_iload_n C dX3_isMissing_0 rfl ?_
  refine j_callSv C (w := (dW E t sz sg la dk z g b cr ca cg ck rest)) (c_wantSeat_r l E A (by omega)) ok_X3_wantSeat w_272 (by decide) rfl rfl (Nat.le_of_ble_eq_true rfl) ⟨Nat.le_of_ble_eq_true rfl, Nat.le_of_ble_eq_true rfl⟩ dX3_isMissing_1 ?_
  refine j_aload_n C dX3_isMissing_4 rfl ?_
  refine j_get C 4 rfl inj_X3 rfl 0 (by decide) w_73 rfl dX3_isMissing_5 ?_
  refine j_iload_n C dX3_isMissing_8 rfl ?_
  refine j_callVr C 0 (v := .int (bI (z i = -1))) (w := (dW E t sz sg la dk z g b cr ca cg ck rest)) (c_isAway l E A (by omega)) ok_X2_isAway w_369 (by decide) rfl rfl (Nat.le_of_ble_eq_true rfl) rfl rfl ⟨Nat.le_of_ble_eq_true rfl, Nat.le_of_ble_eq_true rfl⟩ dX3_isMissing_9 ?_
  exact j_zret C hQ rfl (bI_nar _) dX3_isMissing_12 ⟨Nat.le_of_ble_eq_true rfl, Nat.le_of_ble_eq_true rfl⟩ ⟨rfl, rfl⟩
set_option maxHeartbeats 4000000 in
set_option maxRecDepth 100000 in
theorem f_isThere_b (l : Launch) (hl : l.stackTraces = false) (E : jE) (A : Nat → Prop) {t sz sg la dk : Nat} {z g b : Nat → Int32} {cr ca cg ck : Int32} {rest : va_W} {x : Int32} (hbx : x < 0 ∨ nI 9 ≤ x) : jMet l yX3_isThere cX3_isThere 2 (some .boolean) 5 1 6 E A [.ref dk, .int x] (dW E t sz sg la dk z g b cr ca cg ck rest) jNv (jT jIO (dW E t sz sg la dk z g b cr ca cg ck rest)) := by
  refine jMet.intro' [(0, .ref dk), (1, .int x)] (by decide) (Nat.le_of_ble_eq_true rfl) rfl ?_
  intro p e R s m args below meth c Q C hQ
  refine j_iload_n C dX3_isThere_0 rfl ?_
  refine j_callSx C (c_wantSeat_x l hl E A hbx) ok_X3_wantSeat w_272 (by decide) rfl rfl (Nat.le_of_ble_eq_true rfl) ⟨Nat.le_of_ble_eq_true rfl, Nat.le_of_ble_eq_true rfl⟩ dX3_isThere_1 ?_
  exact j_xout C hQ ⟨Nat.le_of_ble_eq_true rfl, Nat.le_of_ble_eq_true rfl⟩ ⟨rfl, rfl⟩
set_option maxHeartbeats 4000000 in
set_option maxRecDepth 100000 in
theorem f_isThere_k (l : Launch) (E : jE) (A : Nat → Prop) {t sz sg la dk : Nat} {z g b : Nat → Int32} {cr ca cg ck : Int32} {rest : va_W} {i : Nat} (hi : i < 9)  : jMet l yX3_isThere cX3_isThere 2 (some .boolean) 5 0 0 E A [.ref dk, .int (nI i)] (dW E t sz sg la dk z g b cr ca cg ck rest) (jR (some (.int (bI (¬ z i = -1)))) (dW E t sz sg la dk z g b cr ca cg ck rest)) jNo := by
  refine jMet.intro' [(0, .ref dk), (1, .int (nI i))] (by decide) (Nat.le_of_ble_eq_true rfl) rfl ?_
  intro p e R s m args below meth c Q C hQ
  refine j_iload_n C dX3_isThere_0 rfl ?_
  refine j_callSv C (w := (dW E t sz sg la dk z g b cr ca cg ck rest)) (c_wantSeat_r l E A (by omega)) ok_X3_wantSeat w_272 (by decide) rfl rfl (Nat.le_of_ble_eq_true rfl) ⟨Nat.le_of_ble_eq_true rfl, Nat.le_of_ble_eq_true rfl⟩ dX3_isThere_1 ?_
  refine j_aload_n C dX3_isThere_4 rfl ?_
  refine j_get C 4 rfl inj_X3 rfl 0 (by decide) w_73 rfl dX3_isThere_5 ?_
  refine j_iload_n C dX3_isThere_8 rfl ?_
  refine j_callVr C 0 (v := .int (bI (z i = -1))) (w := (dW E t sz sg la dk z g b cr ca cg ck rest)) (c_isAway l E A (by omega)) ok_X2_isAway w_369 (by decide) rfl rfl (Nat.le_of_ble_eq_true rfl) rfl rfl ⟨Nat.le_of_ble_eq_true rfl, Nat.le_of_ble_eq_true rfl⟩ dX3_isThere_9 ?_
  refine j_ifb_ne (tgt := 19) C dX3_isThere_12 (by decide) (fun h12 => ?_) (fun h12 => ?_)
  · skip
    refine j_iconst (v := (nI 0)) C dX3_isThere_19 rfl ?_
    exact j_zret C hQ rfl rfl dX3_isThere_20 ⟨Nat.le_of_ble_eq_true rfl, Nat.le_of_ble_eq_true rfl⟩ ⟨by rw [bI_f (by simp only [*, not_true_eq_false, not_false_eq_true, false_and, and_false, and_self])]; rfl, rfl⟩
  · skip
    refine j_iconst (v := (nI 1)) C dX3_isThere_15 rfl ?_
    refine j_goto (tgt := 20) C dX3_isThere_16 (by decide) ?_
    exact j_zret C hQ rfl rfl dX3_isThere_20 ⟨Nat.le_of_ble_eq_true rfl, Nat.le_of_ble_eq_true rfl⟩ ⟨by rw [bI_t (by simp only [*, not_false_eq_true, and_self])]; rfl, rfl⟩
set_option maxHeartbeats 4000000 in
set_option maxRecDepth 100000 in
theorem f_must_b (l : Launch) (hl : l.stackTraces = false) (E : jE) (A : Nat → Prop) {t sz sg la dk : Nat} {z g b : Nat → Int32} {cr ca cg ck : Int32} {rest : va_W} {x : Int32} (hbx : x < 0 ∨ nI 9 ≤ x) : jMet l yX3_must cX3_must 2 (some .int) 5 1 6 E A [.ref dk, .int x] (dW E t sz sg la dk z g b cr ca cg ck rest) jNv (jT jIO (dW E t sz sg la dk z g b cr ca cg ck rest)) := by
  refine jMet.intro' [(0, .ref dk), (1, .int x)] (by decide) (Nat.le_of_ble_eq_true rfl) rfl ?_
  intro p e R s m args below meth c Q C hQ
  refine j_iload_n C dX3_must_0 rfl ?_
  refine j_callSx C (c_wantSeat_x l hl E A hbx) ok_X3_wantSeat w_272 (by decide) rfl rfl (Nat.le_of_ble_eq_true rfl) ⟨Nat.le_of_ble_eq_true rfl, Nat.le_of_ble_eq_true rfl⟩ dX3_must_1 ?_
  exact j_xout C hQ ⟨Nat.le_of_ble_eq_true rfl, Nat.le_of_ble_eq_true rfl⟩ ⟨rfl, rfl⟩
set_option maxHeartbeats 4000000 in
set_option maxRecDepth 100000 in
theorem f_must_m (l : Launch) (E : jE) (A : Nat → Prop) {t sz sg la dk : Nat} {z g b : Nat → Int32} {cr ca cg ck : Int32} {rest : va_W} {i : Nat} (hi : i < 9) (hz : z i = -1)  : jMet l yX3_must cX3_must 2 (some .int) 5 0 0 E A [.ref dk, .int (nI i)] (dW E t sz sg la dk z g b cr ca cg ck rest) (jR (some (.int (-9))) (dW E t sz sg la dk z g b (cr + nI 1) ca cg ck rest)) jNo := by
  refine jMet.intro' [(0, .ref dk), (1, .int (nI i))] (by decide) (Nat.le_of_ble_eq_true rfl) rfl ?_
  intro p e R s m args below meth c Q C hQ
  refine j_iload_n C dX3_must_0 rfl ?_
  refine j_callSv C (w := (dW E t sz sg la dk z g b cr ca cg ck rest)) (c_wantSeat_r l E A (by omega)) ok_X3_wantSeat w_272 (by decide) rfl rfl (Nat.le_of_ble_eq_true rfl) ⟨Nat.le_of_ble_eq_true rfl, Nat.le_of_ble_eq_true rfl⟩ dX3_must_1 ?_
  refine j_aload_n C dX3_must_4 rfl ?_
  refine j_get C 4 rfl inj_X3 rfl 0 (by decide) w_73 rfl dX3_must_5 ?_
  refine j_iload_n C dX3_must_8 rfl ?_
  refine j_callVr C 0 (v := .int (bI (z i = -1))) (w := (dW E t sz sg la dk z g b cr ca cg ck rest)) (c_isAway l E A (by omega)) ok_X2_isAway w_369 (by decide) rfl rfl (Nat.le_of_ble_eq_true rfl) rfl rfl ⟨Nat.le_of_ble_eq_true rfl, Nat.le_of_ble_eq_true rfl⟩ dX3_must_9 ?_
  refine j_ifb_eq_f (tgt := 22) C dX3_must_12 (by decide) hz ?_
  refine j_aload_n C dX3_must_15 rfl ?_
  refine j_callVr C 4 (v := .int (-9)) (w := (dW E t sz sg la dk z g b (cr + nI 1) ca cg ck rest)) (c_refuse l E A) ok_X3_refuse w_96 (by decide) rfl rfl (Nat.le_of_ble_eq_true rfl) rfl rfl ⟨Nat.le_of_ble_eq_true rfl, Nat.le_of_ble_eq_true rfl⟩ dX3_must_16 ?_
  refine j_goto (tgt := 30) C dX3_must_19 (by decide) ?_
  exact j_iret C hQ rfl dX3_must_30 ⟨Nat.le_of_ble_eq_true rfl, Nat.le_of_ble_eq_true rfl⟩ ⟨rfl, rfl⟩
set_option maxHeartbeats 4000000 in
set_option maxRecDepth 100000 in
theorem f_must_k (l : Launch) (E : jE) (A : Nat → Prop) {t sz sg la dk : Nat} {z g b : Nat → Int32} {cr ca cg ck : Int32} {rest : va_W} {i : Nat} (hi : i < 9) {n : Nat} (hn : n ≤ 24) (hz : z i = nI n)  : jMet l yX3_must cX3_must 2 (some .int) 5 0 0 E A [.ref dk, .int (nI i)] (dW E t sz sg la dk z g b cr ca cg ck rest) (jR (some (.int (nI n))) (dW E t sz sg la dk z g b cr ca cg ck rest)) jNo := by
  refine jMet.intro' [(0, .ref dk), (1, .int (nI i))] (by decide) (Nat.le_of_ble_eq_true rfl) rfl ?_
  intro p e R s m args below meth c Q C hQ
  refine j_iload_n C dX3_must_0 rfl ?_
  refine j_callSv C (w := (dW E t sz sg la dk z g b cr ca cg ck rest)) (c_wantSeat_r l E A (by omega)) ok_X3_wantSeat w_272 (by decide) rfl rfl (Nat.le_of_ble_eq_true rfl) ⟨Nat.le_of_ble_eq_true rfl, Nat.le_of_ble_eq_true rfl⟩ dX3_must_1 ?_
  refine j_aload_n C dX3_must_4 rfl ?_
  refine j_get C 4 rfl inj_X3 rfl 0 (by decide) w_73 rfl dX3_must_5 ?_
  refine j_iload_n C dX3_must_8 rfl ?_
  refine j_callVr C 0 (v := .int (bI (z i = -1))) (w := (dW E t sz sg la dk z g b cr ca cg ck rest)) (c_isAway l E A (by omega)) ok_X2_isAway w_369 (by decide) rfl rfl (Nat.le_of_ble_eq_true rfl) rfl rfl ⟨Nat.le_of_ble_eq_true rfl, Nat.le_of_ble_eq_true rfl⟩ dX3_must_9 ?_
  refine j_ifb_eq_t (tgt := 22) C dX3_must_12 (by decide) (by rw [hz]; exact nI_ne_m (by omega)) ?_
  refine j_aload_n C dX3_must_22 rfl ?_
  refine j_get C 4 rfl inj_X3 rfl 0 (by decide) w_73 rfl dX3_must_23 ?_
  refine j_iload_n C dX3_must_26 rfl ?_
  refine j_callVr C 0 (v := .int (nI n)) (w := (dW E t sz sg la dk z g b cr ca cg ck rest)) (c_size_n l E A (by omega) hz) ok_X2_size w_241 (by decide) rfl rfl (Nat.le_of_ble_eq_true rfl) rfl rfl ⟨Nat.le_of_ble_eq_true rfl, Nat.le_of_ble_eq_true rfl⟩ dX3_must_27 ?_
  exact j_iret C hQ rfl dX3_must_30 ⟨Nat.le_of_ble_eq_true rfl, Nat.le_of_ble_eq_true rfl⟩ ⟨rfl, rfl⟩
set_option maxHeartbeats 4000000 in
set_option maxRecDepth 100000 in
theorem f_mustSaying_b (l : Launch) (hl : l.stackTraces = false) (E : jE) (A : Nat → Prop) {t sz sg la dk : Nat} {z g b : Nat → Int32} {cr ca cg ck : Int32} {rest : va_W} {x : Int32} (hbx : x < 0 ∨ nI 9 ≤ x) : jMet l yX3_mustSaying cX3_mustSaying 2 (some .int) 5 1 6 E A [.ref dk, .int x] (dW E t sz sg la dk z g b cr ca cg ck rest) jNv (jT jIO (dW E t sz sg la dk z g b cr ca cg ck rest)) := by
  refine jMet.intro' [(0, .ref dk), (1, .int x)] (by decide) (Nat.le_of_ble_eq_true rfl) rfl ?_
  intro p e R s m args below meth c Q C hQ
  refine j_iload_n C dX3_mustSaying_0 rfl ?_
  refine j_callSx C (c_wantSeat_x l hl E A hbx) ok_X3_wantSeat w_272 (by decide) rfl rfl (Nat.le_of_ble_eq_true rfl) ⟨Nat.le_of_ble_eq_true rfl, Nat.le_of_ble_eq_true rfl⟩ dX3_mustSaying_1 ?_
  exact j_xout C hQ ⟨Nat.le_of_ble_eq_true rfl, Nat.le_of_ble_eq_true rfl⟩ ⟨rfl, rfl⟩
set_option maxHeartbeats 4000000 in
set_option maxRecDepth 100000 in
theorem f_mustSaying_m (l : Launch) (E : jE) (A : Nat → Prop) {t sz sg la dk : Nat} {z g b : Nat → Int32} {cr ca cg ck : Int32} {rest : va_W} {i : Nat} (hi : i < 9) (hz : z i = -1)  : jMet l yX3_mustSaying cX3_mustSaying 2 (some .int) 5 0 0 E A [.ref dk, .int (nI i)] (dW E t sz sg la dk z g b cr ca cg ck rest) (jR (some (.int (-9))) (dW E t sz sg la dk z g b (cr + nI 1) ca (cg + nI 1) ck rest)) jNo := by
  refine jMet.intro' [(0, .ref dk), (1, .int (nI i))] (by decide) (Nat.le_of_ble_eq_true rfl) rfl ?_
  intro p e R s m args below meth c Q C hQ
  refine j_iload_n C dX3_mustSaying_0 rfl ?_
  refine j_callSv C (w := (dW E t sz sg la dk z g b cr ca cg ck rest)) (c_wantSeat_r l E A (by omega)) ok_X3_wantSeat w_272 (by decide) rfl rfl (Nat.le_of_ble_eq_true rfl) ⟨Nat.le_of_ble_eq_true rfl, Nat.le_of_ble_eq_true rfl⟩ dX3_mustSaying_1 ?_
  refine j_aload_n C dX3_mustSaying_4 rfl ?_
  refine j_get C 4 rfl inj_X3 rfl 0 (by decide) w_73 rfl dX3_mustSaying_5 ?_
  refine j_iload_n C dX3_mustSaying_8 rfl ?_
  refine j_callVr C 0 (v := .int (bI (z i = -1))) (w := (dW E t sz sg la dk z g b cr ca cg ck rest)) (c_isAway l E A (by omega)) ok_X2_isAway w_369 (by decide) rfl rfl (Nat.le_of_ble_eq_true rfl) rfl rfl ⟨Nat.le_of_ble_eq_true rfl, Nat.le_of_ble_eq_true rfl⟩ dX3_mustSaying_9 ?_
  refine j_ifb_eq_f (tgt := 30) C dX3_mustSaying_12 (by decide) hz ?_
  refine j_aload_n C dX3_mustSaying_15 rfl ?_
  refine j_dup C dX3_mustSaying_16 rfl ?_
  refine j_get C 4 rfl inj_X3 rfl 3 (by decide) w_76 rfl dX3_mustSaying_17 ?_
  refine j_iconst (v := (nI 1)) C dX3_mustSaying_20 rfl ?_
  refine j_iadd (z := (cg + (nI 1))) C dX3_mustSaying_21 rfl ?_
  refine j_put (ws' := (dW E t sz sg la dk z g b cr ca (cg + (nI 1)) ck rest)) C 4 rfl inj_X3 tyX3 tyX3_ok nmX3 rfl 3 (by decide) w_76 rfl (tyX3_ok 3 (by decide)) rfl rfl (Nat.le_of_ble_eq_true rfl) dX3_mustSaying_22 rfl ?_
  refine j_aload_n C dX3_mustSaying_25 rfl ?_
  refine j_callVr C 4 (v := .int (-9)) (w := (dW E t sz sg la dk z g b (cr + nI 1) ca (cg + (nI 1)) ck rest)) (c_refuse l E A) ok_X3_refuse w_96 (by decide) rfl rfl (Nat.le_of_ble_eq_true rfl) rfl rfl ⟨Nat.le_of_ble_eq_true rfl, Nat.le_of_ble_eq_true rfl⟩ dX3_mustSaying_26 ?_
  exact j_iret C hQ rfl dX3_mustSaying_29 ⟨Nat.le_of_ble_eq_true rfl, Nat.le_of_ble_eq_true rfl⟩ ⟨rfl, rfl⟩
set_option maxHeartbeats 4000000 in
set_option maxRecDepth 100000 in
theorem f_mustSaying_k (l : Launch) (E : jE) (A : Nat → Prop) {t sz sg la dk : Nat} {z g b : Nat → Int32} {cr ca cg ck : Int32} {rest : va_W} {i : Nat} (hi : i < 9) {n : Nat} (hn : n ≤ 24) (hz : z i = nI n)  : jMet l yX3_mustSaying cX3_mustSaying 2 (some .int) 5 0 0 E A [.ref dk, .int (nI i)] (dW E t sz sg la dk z g b cr ca cg ck rest) (jR (some (.int (nI n))) (dW E t sz sg la dk z g b cr ca cg ck rest)) jNo := by
  refine jMet.intro' [(0, .ref dk), (1, .int (nI i))] (by decide) (Nat.le_of_ble_eq_true rfl) rfl ?_
  intro p e R s m args below meth c Q C hQ
  refine j_iload_n C dX3_mustSaying_0 rfl ?_
  refine j_callSv C (w := (dW E t sz sg la dk z g b cr ca cg ck rest)) (c_wantSeat_r l E A (by omega)) ok_X3_wantSeat w_272 (by decide) rfl rfl (Nat.le_of_ble_eq_true rfl) ⟨Nat.le_of_ble_eq_true rfl, Nat.le_of_ble_eq_true rfl⟩ dX3_mustSaying_1 ?_
  refine j_aload_n C dX3_mustSaying_4 rfl ?_
  refine j_get C 4 rfl inj_X3 rfl 0 (by decide) w_73 rfl dX3_mustSaying_5 ?_
  refine j_iload_n C dX3_mustSaying_8 rfl ?_
  refine j_callVr C 0 (v := .int (bI (z i = -1))) (w := (dW E t sz sg la dk z g b cr ca cg ck rest)) (c_isAway l E A (by omega)) ok_X2_isAway w_369 (by decide) rfl rfl (Nat.le_of_ble_eq_true rfl) rfl rfl ⟨Nat.le_of_ble_eq_true rfl, Nat.le_of_ble_eq_true rfl⟩ dX3_mustSaying_9 ?_
  refine j_ifb_eq_t (tgt := 30) C dX3_mustSaying_12 (by decide) (by rw [hz]; exact nI_ne_m (by omega)) ?_
  refine j_aload_n C dX3_mustSaying_30 rfl ?_
  refine j_get C 4 rfl inj_X3 rfl 0 (by decide) w_73 rfl dX3_mustSaying_31 ?_
  refine j_iload_n C dX3_mustSaying_34 rfl ?_
  refine j_callVr C 0 (v := .int (nI n)) (w := (dW E t sz sg la dk z g b cr ca cg ck rest)) (c_size_n l E A (by omega) hz) ok_X2_size w_241 (by decide) rfl rfl (Nat.le_of_ble_eq_true rfl) rfl rfl ⟨Nat.le_of_ble_eq_true rfl, Nat.le_of_ble_eq_true rfl⟩ dX3_mustSaying_35 ?_
  exact j_iret C hQ rfl dX3_mustSaying_38 ⟨Nat.le_of_ble_eq_true rfl, Nat.le_of_ble_eq_true rfl⟩ ⟨rfl, rfl⟩
set_option maxHeartbeats 4000000 in
set_option maxRecDepth 100000 in
theorem f_knock_k (l : Launch) (E : jE) (A : Nat → Prop) {t sz sg la dk : Nat} {z g b : Nat → Int32} {cr ca cg ck : Int32} {rest : va_W}  : jMet l yX3_knock cX3_knock 1 (some .int) 5 0 0 E A [.ref dk] (dW E t sz sg la dk z g b cr ca cg ck rest) (jR (some (.int (ck + nI 1))) (dW E t sz sg la dk z g b cr ca cg (ck + nI 1) rest)) jNo := by
  refine jMet.intro' [(0, .ref dk)] (by decide) (Nat.le_of_ble_eq_true rfl) rfl ?_
  intro p e R s m args below meth c Q C hQ
  refine j_aload_n C dX3_knock_0 rfl ?_
  refine j_dup C dX3_knock_1 rfl ?_
  refine j_get C 4 rfl inj_X3 rfl 4 (by decide) w_77 rfl dX3_knock_2 ?_
  refine j_iconst (v := (nI 1)) C dX3_knock_5 rfl ?_
  refine j_iadd (z := (ck + (nI 1))) C dX3_knock_6 rfl ?_
  refine j_put (ws' := (dW E t sz sg la dk z g b cr ca cg (ck + (nI 1)) rest)) C 4 rfl inj_X3 tyX3 tyX3_ok nmX3 rfl 4 (by decide) w_77 rfl (tyX3_ok 4 (by decide)) rfl rfl (Nat.le_of_ble_eq_true rfl) dX3_knock_7 rfl ?_
  refine j_aload_n C dX3_knock_10 rfl ?_
  refine j_get C 4 rfl inj_X3 rfl 4 (by decide) w_77 rfl dX3_knock_11 ?_
  exact j_iret C hQ rfl dX3_knock_14 ⟨Nat.le_of_ble_eq_true rfl, Nat.le_of_ble_eq_true rfl⟩ ⟨rfl, rfl⟩
set_option maxHeartbeats 4000000 in
set_option maxRecDepth 100000 in
theorem f_house_b (l : Launch) (hl : l.stackTraces = false) (E : jE) (A : Nat → Prop) {t sz sg la dk : Nat} {z g b : Nat → Int32} {cr ca cg ck : Int32} {rest : va_W} {x : Int32} (hbx : x < 0 ∨ nI 5 < x) : jMet l yX3_house cX3_house 2 (some .int) 5 1 6 E A [.ref dk, .int x] (dW E t sz sg la dk z g b cr ca cg ck rest) jNv (jT jIA (dW E t sz sg la dk z g b cr ca cg ck rest)) := by
  refine jMet.intro' [(0, .ref dk), (1, .int x)] (by decide) (Nat.le_of_ble_eq_true rfl) rfl ?_
  intro p e R s m args below meth c Q C hQ
  refine j_iload_n C dX3_house_0 rfl ?_
  refine j_iconst (v := (nI 5)) C dX3_house_1 rfl ?_
  refine j_callSx C (c_wantUpTo_x l hl E A hbx) ok_X3_wantUpTo w_406 (by decide) rfl rfl (Nat.le_of_ble_eq_true rfl) ⟨Nat.le_of_ble_eq_true rfl, Nat.le_of_ble_eq_true rfl⟩ dX3_house_2 ?_
  exact j_xout C hQ ⟨Nat.le_of_ble_eq_true rfl, Nat.le_of_ble_eq_true rfl⟩ ⟨rfl, rfl⟩
set_option maxHeartbeats 4000000 in
set_option maxRecDepth 100000 in
theorem f_house_k (l : Launch) (E : jE) (A : Nat → Prop) {t sz sg la dk : Nat} {z g b : Nat → Int32} {cr ca cg ck : Int32} {rest : va_W} {i : Nat} (hi : i ≤ 5) (hT : ∀ i, i < 9 → txOk z g i)  : jMet l yX3_house cX3_house 2 (some .int) 5 0 0 E A [.ref dk, .int (nI i)] (dW E t sz sg la dk z g b cr ca cg ck rest) (jR (some (.int (telV z cr ca cg ck i))) (dW E t sz sg la dk z g b cr ca cg ck rest)) jNo := by
  refine jMet.intro' [(0, .ref dk), (1, .int (nI i))] (by decide) (Nat.le_of_ble_eq_true rfl) rfl ?_
  intro p e R s m args below meth c Q C hQ
  refine j_iload_n C dX3_house_0 rfl ?_
  refine j_iconst (v := (nI 5)) C dX3_house_1 rfl ?_
  refine j_callSv C (w := (dW E t sz sg la dk z g b cr ca cg ck rest)) (c_wantUpTo_r l E A (by omega) (by omega)) ok_X3_wantUpTo w_406 (by decide) rfl rfl (Nat.le_of_ble_eq_true rfl) ⟨Nat.le_of_ble_eq_true rfl, Nat.le_of_ble_eq_true rfl⟩ dX3_house_2 ?_
  refine j_aload_n C dX3_house_5 rfl ?_
  refine j_iload_n C dX3_house_6 rfl ?_
  refine j_callVr C 4 (v := .int (telV z cr ca cg ck i)) (w := (dW E t sz sg la dk z g b cr ca cg ck rest)) (c_tell l E A (by omega) hT) ok_X3_tell w_226 (by decide) rfl rfl (Nat.le_of_ble_eq_true rfl) rfl rfl ⟨Nat.le_of_ble_eq_true rfl, Nat.le_of_ble_eq_true rfl⟩ dX3_house_7 ?_
  exact j_iret C hQ rfl dX3_house_10 ⟨Nat.le_of_ble_eq_true rfl, Nat.le_of_ble_eq_true rfl⟩ ⟨rfl, rfl⟩
set_option maxHeartbeats 4000000 in
set_option maxRecDepth 100000 in
theorem f_code_b (l : Launch) (hl : l.stackTraces = false) (E : jE) (A : Nat → Prop) {t sz sg la dk : Nat} {z g b : Nat → Int32} {cr ca cg ck : Int32} {rest : va_W} {x : Int32} (hbx : x < 0 ∨ nI 9 ≤ x) : jMet l yX3_code cX3_code 2 (some .int) 5 1 6 E A [.ref dk, .int x] (dW E t sz sg la dk z g b cr ca cg ck rest) jNv (jT jIO (dW E t sz sg la dk z g b cr ca cg ck rest)) := by
  refine jMet.intro' [(0, .ref dk), (1, .int x)] (by decide) (Nat.le_of_ble_eq_true rfl) rfl ?_
  intro p e R s m args below meth c Q C hQ
  refine j_iload_n C dX3_code_0 rfl ?_
  refine j_callSx C (c_wantSeat_x l hl E A hbx) ok_X3_wantSeat w_272 (by decide) rfl rfl (Nat.le_of_ble_eq_true rfl) ⟨Nat.le_of_ble_eq_true rfl, Nat.le_of_ble_eq_true rfl⟩ dX3_code_1 ?_
  exact j_xout C hQ ⟨Nat.le_of_ble_eq_true rfl, Nat.le_of_ble_eq_true rfl⟩ ⟨rfl, rfl⟩
set_option maxHeartbeats 4000000 in
set_option maxRecDepth 100000 in
theorem f_code_k (l : Launch) (E : jE) (A : Nat → Prop) {t sz sg la dk : Nat} {z g b : Nat → Int32} {cr ca cg ck : Int32} {rest : va_W} {i : Nat} (hi : i < 9) (hT : ∀ i, i < 9 → txOk z g i)  : jMet l yX3_code cX3_code 2 (some .int) 5 0 0 E A [.ref dk, .int (nI i)] (dW E t sz sg la dk z g b cr ca cg ck rest) (jR (some (.int (codS z g i))) (dW E t sz sg la dk z g b cr ca cg ck rest)) jNo := by
  refine jMet.intro' [(0, .ref dk), (1, .int (nI i))] (by decide) (Nat.le_of_ble_eq_true rfl) rfl ?_
  intro p e R s m args below meth c Q C hQ
  refine j_iload_n C dX3_code_0 rfl ?_
  refine j_callSv C (w := (dW E t sz sg la dk z g b cr ca cg ck rest)) (c_wantSeat_r l E A (by omega)) ok_X3_wantSeat w_272 (by decide) rfl rfl (Nat.le_of_ble_eq_true rfl) ⟨Nat.le_of_ble_eq_true rfl, Nat.le_of_ble_eq_true rfl⟩ dX3_code_1 ?_
  refine j_aload_n C dX3_code_4 rfl ?_
  refine j_get C 4 rfl inj_X3 rfl 0 (by decide) w_73 rfl dX3_code_5 ?_
  refine j_iload_n C dX3_code_8 rfl ?_
  refine j_callVr C 0 (v := .int (codS z g i)) (w := (dW E t sz sg la dk z g b cr ca cg ck rest)) (c_codeOf l E A (by omega) (hT _ (by omega))) ok_X2_codeOf w_242 (by decide) rfl rfl (Nat.le_of_ble_eq_true rfl) rfl rfl ⟨Nat.le_of_ble_eq_true rfl, Nat.le_of_ble_eq_true rfl⟩ dX3_code_9 ?_
  exact j_iret C hQ rfl dX3_code_12 ⟨Nat.le_of_ble_eq_true rfl, Nat.le_of_ble_eq_true rfl⟩ ⟨rfl, rfl⟩
set_option maxHeartbeats 4000000 in
set_option maxRecDepth 100000 in
theorem f_codes_b1 (l : Launch) (hl : l.stackTraces = false) (E : jE) (A : Nat → Prop) {t sz sg la dk : Nat} {z g b : Nat → Int32} {cr ca cg ck : Int32} {rest : va_W} {x y w : Int32} (hbx : x < 0 ∨ nI 9 ≤ x) : jMet l yX3_codes cX3_codes 4 (some .int) 5 1 6 E A [.ref dk, .int x, .int y, .int w] (dW E t sz sg la dk z g b cr ca cg ck rest) jNv (jT jIO (dW E t sz sg la dk z g b cr ca cg ck rest)) := by
  refine jMet.intro' [(0, .ref dk), (1, .int x), (2, .int y), (3, .int w)] (by decide) (Nat.le_of_ble_eq_true rfl) rfl ?_
  intro p e R s m args below meth c Q C hQ
  refine j_iload_n C dX3_codes_0 rfl ?_
  refine j_callSx C (c_wantSeat_x l hl E A hbx) ok_X3_wantSeat w_272 (by decide) rfl rfl (Nat.le_of_ble_eq_true rfl) ⟨Nat.le_of_ble_eq_true rfl, Nat.le_of_ble_eq_true rfl⟩ dX3_codes_1 ?_
  exact j_xout C hQ ⟨Nat.le_of_ble_eq_true rfl, Nat.le_of_ble_eq_true rfl⟩ ⟨rfl, rfl⟩
set_option maxHeartbeats 4000000 in
set_option maxRecDepth 100000 in
theorem f_codes_b2 (l : Launch) (hl : l.stackTraces = false) (E : jE) (A : Nat → Prop) {t sz sg la dk : Nat} {z g b : Nat → Int32} {cr ca cg ck : Int32} {rest : va_W} {i : Nat} (hi : i < 9) {y w : Int32} (hby : y < 0 ∨ nI 9 ≤ y) : jMet l yX3_codes cX3_codes 4 (some .int) 5 1 6 E A [.ref dk, .int (nI i), .int y, .int w] (dW E t sz sg la dk z g b cr ca cg ck rest) jNv (jT jIO (dW E t sz sg la dk z g b cr ca cg ck rest)) := by
  refine jMet.intro' [(0, .ref dk), (1, .int (nI i)), (2, .int y), (3, .int w)] (by decide) (Nat.le_of_ble_eq_true rfl) rfl ?_
  intro p e R s m args below meth c Q C hQ
  refine j_iload_n C dX3_codes_0 rfl ?_
  refine j_callSv C (w := (dW E t sz sg la dk z g b cr ca cg ck rest)) (c_wantSeat_r l E A (by omega)) ok_X3_wantSeat w_272 (by decide) rfl rfl (Nat.le_of_ble_eq_true rfl) ⟨Nat.le_of_ble_eq_true rfl, Nat.le_of_ble_eq_true rfl⟩ dX3_codes_1 ?_
  refine j_iload_n C dX3_codes_4 rfl ?_
  refine j_callSx C (c_wantSeat_x l hl E A hby) ok_X3_wantSeat w_272 (by decide) rfl rfl (Nat.le_of_ble_eq_true rfl) ⟨Nat.le_of_ble_eq_true rfl, Nat.le_of_ble_eq_true rfl⟩ dX3_codes_5 ?_
  exact j_xout C hQ ⟨Nat.le_of_ble_eq_true rfl, Nat.le_of_ble_eq_true rfl⟩ ⟨rfl, rfl⟩
set_option maxHeartbeats 4000000 in
set_option maxRecDepth 100000 in
theorem f_codes_b3 (l : Launch) (hl : l.stackTraces = false) (E : jE) (A : Nat → Prop) {t sz sg la dk : Nat} {z g b : Nat → Int32} {cr ca cg ck : Int32} {rest : va_W} {i : Nat} (hi : i < 9) {j : Nat} {w : Int32} (hj : j < 9) (hbw : w < 0 ∨ nI 9 ≤ w) : jMet l yX3_codes cX3_codes 4 (some .int) 5 1 6 E A [.ref dk, .int (nI i), .int (nI j), .int w] (dW E t sz sg la dk z g b cr ca cg ck rest) jNv (jT jIO (dW E t sz sg la dk z g b cr ca cg ck rest)) := by
  refine jMet.intro' [(0, .ref dk), (1, .int (nI i)), (2, .int (nI j)), (3, .int w)] (by decide) (Nat.le_of_ble_eq_true rfl) rfl ?_
  intro p e R s m args below meth c Q C hQ
  refine j_iload_n C dX3_codes_0 rfl ?_
  refine j_callSv C (w := (dW E t sz sg la dk z g b cr ca cg ck rest)) (c_wantSeat_r l E A (by omega)) ok_X3_wantSeat w_272 (by decide) rfl rfl (Nat.le_of_ble_eq_true rfl) ⟨Nat.le_of_ble_eq_true rfl, Nat.le_of_ble_eq_true rfl⟩ dX3_codes_1 ?_
  refine j_iload_n C dX3_codes_4 rfl ?_
  refine j_callSv C (w := (dW E t sz sg la dk z g b cr ca cg ck rest)) (c_wantSeat_r l E A (by omega)) ok_X3_wantSeat w_272 (by decide) rfl rfl (Nat.le_of_ble_eq_true rfl) ⟨Nat.le_of_ble_eq_true rfl, Nat.le_of_ble_eq_true rfl⟩ dX3_codes_5 ?_
  refine j_iload_n C dX3_codes_8 rfl ?_
  refine j_callSx C (c_wantSeat_x l hl E A hbw) ok_X3_wantSeat w_272 (by decide) rfl rfl (Nat.le_of_ble_eq_true rfl) ⟨Nat.le_of_ble_eq_true rfl, Nat.le_of_ble_eq_true rfl⟩ dX3_codes_9 ?_
  exact j_xout C hQ ⟨Nat.le_of_ble_eq_true rfl, Nat.le_of_ble_eq_true rfl⟩ ⟨rfl, rfl⟩
set_option maxHeartbeats 4000000 in
set_option maxRecDepth 100000 in
theorem f_codes_k (l : Launch) (E : jE) (A : Nat → Prop) {t sz sg la dk : Nat} {z g b : Nat → Int32} {cr ca cg ck : Int32} {rest : va_W} {i : Nat} (hi : i < 9) {j k : Nat} (hj : j < 9) (hk : k < 9) (hT : ∀ i, i < 9 → txOk z g i)  : jMet l yX3_codes cX3_codes 4 (some .int) 5 0 0 E A [.ref dk, .int (nI i), .int (nI j), .int (nI k)] (dW E t sz sg la dk z g b cr ca cg ck rest) (jR (some (.int (cod3 (codS z g i) (codS z g j) (codS z g k)))) (dW E t sz sg la dk z g b cr ca cg ck rest)) jNo := by
  refine jMet.intro' [(0, .ref dk), (1, .int (nI i)), (2, .int (nI j)), (3, .int (nI k))] (by decide) (Nat.le_of_ble_eq_true rfl) rfl ?_
  intro p e R s m args below meth c Q C hQ
  refine j_iload_n C dX3_codes_0 rfl ?_
  refine j_callSv C (w := (dW E t sz sg la dk z g b cr ca cg ck rest)) (c_wantSeat_r l E A (by omega)) ok_X3_wantSeat w_272 (by decide) rfl rfl (Nat.le_of_ble_eq_true rfl) ⟨Nat.le_of_ble_eq_true rfl, Nat.le_of_ble_eq_true rfl⟩ dX3_codes_1 ?_
  refine j_iload_n C dX3_codes_4 rfl ?_
  refine j_callSv C (w := (dW E t sz sg la dk z g b cr ca cg ck rest)) (c_wantSeat_r l E A (by omega)) ok_X3_wantSeat w_272 (by decide) rfl rfl (Nat.le_of_ble_eq_true rfl) ⟨Nat.le_of_ble_eq_true rfl, Nat.le_of_ble_eq_true rfl⟩ dX3_codes_5 ?_
  refine j_iload_n C dX3_codes_8 rfl ?_
  refine j_callSv C (w := (dW E t sz sg la dk z g b cr ca cg ck rest)) (c_wantSeat_r l E A (by omega)) ok_X3_wantSeat w_272 (by decide) rfl rfl (Nat.le_of_ble_eq_true rfl) ⟨Nat.le_of_ble_eq_true rfl, Nat.le_of_ble_eq_true rfl⟩ dX3_codes_9 ?_
  refine j_aload_n C dX3_codes_12 rfl ?_
  refine j_get C 4 rfl inj_X3 rfl 0 (by decide) w_73 rfl dX3_codes_13 ?_
  refine j_iload_n C dX3_codes_16 rfl ?_
  refine j_iload_n C dX3_codes_17 rfl ?_
  refine j_iload_n C dX3_codes_18 rfl ?_
  refine j_callVr C 0 (v := .int (cod3 (codS z g i) (codS z g j) (codS z g k))) (w := (dW E t sz sg la dk z g b cr ca cg ck rest)) (c_codeOfThree l E A (by omega) (by omega) (by omega) hT) ok_X2_codeOfThree w_244 (by decide) rfl rfl (Nat.le_of_ble_eq_true rfl) rfl rfl ⟨Nat.le_of_ble_eq_true rfl, Nat.le_of_ble_eq_true rfl⟩ dX3_codes_19 ?_
  exact j_iret C hQ rfl dX3_codes_22 ⟨Nat.le_of_ble_eq_true rfl, Nat.le_of_ble_eq_true rfl⟩ ⟨rfl, rfl⟩
set_option maxHeartbeats 4000000 in
set_option maxRecDepth 100000 in
theorem f_compare_b1 (l : Launch) (hl : l.stackTraces = false) (E : jE) (A : Nat → Prop) {t sz sg la dk : Nat} {z g b : Nat → Int32} {cr ca cg ck : Int32} {rest : va_W} {x y : Int32} (hbx : x < 0 ∨ nI 9 ≤ x) : jMet l yX3_compare cX3_compare 3 (some .int) 5 1 6 E A [.ref dk, .int x, .int y] (dW E t sz sg la dk z g b cr ca cg ck rest) jNv (jT jIO (dW E t sz sg la dk z g b cr ca cg ck rest)) := by
  refine jMet.intro' [(0, .ref dk), (1, .int x), (2, .int y)] (by decide) (Nat.le_of_ble_eq_true rfl) rfl ?_
  intro p e R s m args below meth c Q C hQ
  refine j_iload_n C dX3_compare_0 rfl ?_
  refine j_callSx C (c_wantSeat_x l hl E A hbx) ok_X3_wantSeat w_272 (by decide) rfl rfl (Nat.le_of_ble_eq_true rfl) ⟨Nat.le_of_ble_eq_true rfl, Nat.le_of_ble_eq_true rfl⟩ dX3_compare_1 ?_
  exact j_xout C hQ ⟨Nat.le_of_ble_eq_true rfl, Nat.le_of_ble_eq_true rfl⟩ ⟨rfl, rfl⟩
set_option maxHeartbeats 4000000 in
set_option maxRecDepth 100000 in
theorem f_compare_b2 (l : Launch) (hl : l.stackTraces = false) (E : jE) (A : Nat → Prop) {t sz sg la dk : Nat} {z g b : Nat → Int32} {cr ca cg ck : Int32} {rest : va_W} {i : Nat} (hi : i < 9) {y : Int32} (hby : y < 0 ∨ nI 9 ≤ y) : jMet l yX3_compare cX3_compare 3 (some .int) 5 1 6 E A [.ref dk, .int (nI i), .int y] (dW E t sz sg la dk z g b cr ca cg ck rest) jNv (jT jIO (dW E t sz sg la dk z g b cr ca cg ck rest)) := by
  refine jMet.intro' [(0, .ref dk), (1, .int (nI i)), (2, .int y)] (by decide) (Nat.le_of_ble_eq_true rfl) rfl ?_
  intro p e R s m args below meth c Q C hQ
  refine j_iload_n C dX3_compare_0 rfl ?_
  refine j_callSv C (w := (dW E t sz sg la dk z g b cr ca cg ck rest)) (c_wantSeat_r l E A (by omega)) ok_X3_wantSeat w_272 (by decide) rfl rfl (Nat.le_of_ble_eq_true rfl) ⟨Nat.le_of_ble_eq_true rfl, Nat.le_of_ble_eq_true rfl⟩ dX3_compare_1 ?_
  refine j_iload_n C dX3_compare_4 rfl ?_
  refine j_callSx C (c_wantSeat_x l hl E A hby) ok_X3_wantSeat w_272 (by decide) rfl rfl (Nat.le_of_ble_eq_true rfl) ⟨Nat.le_of_ble_eq_true rfl, Nat.le_of_ble_eq_true rfl⟩ dX3_compare_5 ?_
  exact j_xout C hQ ⟨Nat.le_of_ble_eq_true rfl, Nat.le_of_ble_eq_true rfl⟩ ⟨rfl, rfl⟩
set_option maxHeartbeats 4000000 in
set_option maxRecDepth 100000 in
theorem f_areSame_b1 (l : Launch) (hl : l.stackTraces = false) (E : jE) (A : Nat → Prop) {t sz sg la dk : Nat} {z g b : Nat → Int32} {cr ca cg ck : Int32} {rest : va_W} {x y : Int32} (hbx : x < 0 ∨ nI 9 ≤ x) : jMet l yX3_areSame cX3_areSame 3 (some .boolean) 5 1 6 E A [.ref dk, .int x, .int y] (dW E t sz sg la dk z g b cr ca cg ck rest) jNv (jT jIO (dW E t sz sg la dk z g b cr ca cg ck rest)) := by
  refine jMet.intro' [(0, .ref dk), (1, .int x), (2, .int y)] (by decide) (Nat.le_of_ble_eq_true rfl) rfl ?_
  intro p e R s m args below meth c Q C hQ
  refine j_iload_n C dX3_areSame_0 rfl ?_
  refine j_callSx C (c_wantSeat_x l hl E A hbx) ok_X3_wantSeat w_272 (by decide) rfl rfl (Nat.le_of_ble_eq_true rfl) ⟨Nat.le_of_ble_eq_true rfl, Nat.le_of_ble_eq_true rfl⟩ dX3_areSame_1 ?_
  exact j_xout C hQ ⟨Nat.le_of_ble_eq_true rfl, Nat.le_of_ble_eq_true rfl⟩ ⟨rfl, rfl⟩
set_option maxHeartbeats 4000000 in
set_option maxRecDepth 100000 in
theorem f_areSame_b2 (l : Launch) (hl : l.stackTraces = false) (E : jE) (A : Nat → Prop) {t sz sg la dk : Nat} {z g b : Nat → Int32} {cr ca cg ck : Int32} {rest : va_W} {i : Nat} (hi : i < 9) {y : Int32} (hby : y < 0 ∨ nI 9 ≤ y) : jMet l yX3_areSame cX3_areSame 3 (some .boolean) 5 1 6 E A [.ref dk, .int (nI i), .int y] (dW E t sz sg la dk z g b cr ca cg ck rest) jNv (jT jIO (dW E t sz sg la dk z g b cr ca cg ck rest)) := by
  refine jMet.intro' [(0, .ref dk), (1, .int (nI i)), (2, .int y)] (by decide) (Nat.le_of_ble_eq_true rfl) rfl ?_
  intro p e R s m args below meth c Q C hQ
  refine j_iload_n C dX3_areSame_0 rfl ?_
  refine j_callSv C (w := (dW E t sz sg la dk z g b cr ca cg ck rest)) (c_wantSeat_r l E A (by omega)) ok_X3_wantSeat w_272 (by decide) rfl rfl (Nat.le_of_ble_eq_true rfl) ⟨Nat.le_of_ble_eq_true rfl, Nat.le_of_ble_eq_true rfl⟩ dX3_areSame_1 ?_
  refine j_iload_n C dX3_areSame_4 rfl ?_
  refine j_callSx C (c_wantSeat_x l hl E A hby) ok_X3_wantSeat w_272 (by decide) rfl rfl (Nat.le_of_ble_eq_true rfl) ⟨Nat.le_of_ble_eq_true rfl, Nat.le_of_ble_eq_true rfl⟩ dX3_areSame_5 ?_
  exact j_xout C hQ ⟨Nat.le_of_ble_eq_true rfl, Nat.le_of_ble_eq_true rfl⟩ ⟨rfl, rfl⟩
set_option maxHeartbeats 4000000 in
set_option maxRecDepth 100000 in
theorem f_compare_m1 (l : Launch) (E : jE) (A : Nat → Prop) {t sz sg la dk : Nat} {z g b : Nat → Int32} {cr ca cg ck : Int32} {rest : va_W} {i : Nat} (hi : i < 9) {j : Nat} (hj : j < 9) (hz : z i = -1)  : jMet l yX3_compare cX3_compare 3 (some .int) 5 0 0 E A [.ref dk, .int (nI i), .int (nI j)] (dW E t sz sg la dk z g b cr ca cg ck rest) (jR (some (.int (-9))) (dW E t sz sg la dk z g b (cr + nI 1) ca cg ck rest)) jNo := by
  refine jMet.intro' [(0, .ref dk), (1, .int (nI i)), (2, .int (nI j))] (by decide) (Nat.le_of_ble_eq_true rfl) rfl ?_
  intro p e R s m args below meth c Q C hQ
  refine j_iload_n C dX3_compare_0 rfl ?_
  refine j_callSv C (w := (dW E t sz sg la dk z g b cr ca cg ck rest)) (c_wantSeat_r l E A (by omega)) ok_X3_wantSeat w_272 (by decide) rfl rfl (Nat.le_of_ble_eq_true rfl) ⟨Nat.le_of_ble_eq_true rfl, Nat.le_of_ble_eq_true rfl⟩ dX3_compare_1 ?_
  refine j_iload_n C dX3_compare_4 rfl ?_
  refine j_callSv C (w := (dW E t sz sg la dk z g b cr ca cg ck rest)) (c_wantSeat_r l E A (by omega)) ok_X3_wantSeat w_272 (by decide) rfl rfl (Nat.le_of_ble_eq_true rfl) ⟨Nat.le_of_ble_eq_true rfl, Nat.le_of_ble_eq_true rfl⟩ dX3_compare_5 ?_
  refine j_aload_n C dX3_compare_8 rfl ?_
  refine j_get C 4 rfl inj_X3 rfl 0 (by decide) w_73 rfl dX3_compare_9 ?_
  refine j_iload_n C dX3_compare_12 rfl ?_
  refine j_callVr C 0 (v := .int (bI (z i = -1))) (w := (dW E t sz sg la dk z g b cr ca cg ck rest)) (c_isAway l E A (by omega)) ok_X2_isAway w_369 (by decide) rfl rfl (Nat.le_of_ble_eq_true rfl) rfl rfl ⟨Nat.le_of_ble_eq_true rfl, Nat.le_of_ble_eq_true rfl⟩ dX3_compare_13 ?_
  refine j_ifb_ne_t (tgt := 30) C dX3_compare_16 (by decide) hz ?_
  refine j_aload_n C dX3_compare_30 rfl ?_
  refine j_callVr C 4 (v := .int (-9)) (w := (dW E t sz sg la dk z g b (cr + nI 1) ca cg ck rest)) (c_refuse l E A) ok_X3_refuse w_96 (by decide) rfl rfl (Nat.le_of_ble_eq_true rfl) rfl rfl ⟨Nat.le_of_ble_eq_true rfl, Nat.le_of_ble_eq_true rfl⟩ dX3_compare_31 ?_
  exact j_iret C hQ rfl dX3_compare_34 ⟨Nat.le_of_ble_eq_true rfl, Nat.le_of_ble_eq_true rfl⟩ ⟨rfl, rfl⟩
set_option maxHeartbeats 4000000 in
set_option maxRecDepth 100000 in
theorem f_compare_m2 (l : Launch) (E : jE) (A : Nat → Prop) {t sz sg la dk : Nat} {z g b : Nat → Int32} {cr ca cg ck : Int32} {rest : va_W} {i : Nat} (hi : i < 9) {j : Nat} (hj : j < 9) {n : Nat} (hn : n ≤ 24) (hz : z i = nI n) (hzj : z j = -1) : jMet l yX3_compare cX3_compare 3 (some .int) 5 0 0 E A [.ref dk, .int (nI i), .int (nI j)] (dW E t sz sg la dk z g b cr ca cg ck rest) (jR (some (.int (-9))) (dW E t sz sg la dk z g b (cr + nI 1) ca cg ck rest)) jNo := by
  refine jMet.intro' [(0, .ref dk), (1, .int (nI i)), (2, .int (nI j))] (by decide) (Nat.le_of_ble_eq_true rfl) rfl ?_
  intro p e R s m args below meth c Q C hQ
  refine j_iload_n C dX3_compare_0 rfl ?_
  refine j_callSv C (w := (dW E t sz sg la dk z g b cr ca cg ck rest)) (c_wantSeat_r l E A (by omega)) ok_X3_wantSeat w_272 (by decide) rfl rfl (Nat.le_of_ble_eq_true rfl) ⟨Nat.le_of_ble_eq_true rfl, Nat.le_of_ble_eq_true rfl⟩ dX3_compare_1 ?_
  refine j_iload_n C dX3_compare_4 rfl ?_
  refine j_callSv C (w := (dW E t sz sg la dk z g b cr ca cg ck rest)) (c_wantSeat_r l E A (by omega)) ok_X3_wantSeat w_272 (by decide) rfl rfl (Nat.le_of_ble_eq_true rfl) ⟨Nat.le_of_ble_eq_true rfl, Nat.le_of_ble_eq_true rfl⟩ dX3_compare_5 ?_
  refine j_aload_n C dX3_compare_8 rfl ?_
  refine j_get C 4 rfl inj_X3 rfl 0 (by decide) w_73 rfl dX3_compare_9 ?_
  refine j_iload_n C dX3_compare_12 rfl ?_
  refine j_callVr C 0 (v := .int (bI (z i = -1))) (w := (dW E t sz sg la dk z g b cr ca cg ck rest)) (c_isAway l E A (by omega)) ok_X2_isAway w_369 (by decide) rfl rfl (Nat.le_of_ble_eq_true rfl) rfl rfl ⟨Nat.le_of_ble_eq_true rfl, Nat.le_of_ble_eq_true rfl⟩ dX3_compare_13 ?_
  refine j_ifb_ne_f (tgt := 30) C dX3_compare_16 (by decide) (by rw [hz]; exact nI_ne_m (by omega)) ?_
  refine j_aload_n C dX3_compare_19 rfl ?_
  refine j_get C 4 rfl inj_X3 rfl 0 (by decide) w_73 rfl dX3_compare_20 ?_
  refine j_iload_n C dX3_compare_23 rfl ?_
  refine j_callVr C 0 (v := .int (bI (z j = -1))) (w := (dW E t sz sg la dk z g b cr ca cg ck rest)) (c_isAway l E A (by omega)) ok_X2_isAway w_369 (by decide) rfl rfl (Nat.le_of_ble_eq_true rfl) rfl rfl ⟨Nat.le_of_ble_eq_true rfl, Nat.le_of_ble_eq_true rfl⟩ dX3_compare_24 ?_
  refine j_ifb_eq_f (tgt := 35) C dX3_compare_27 (by decide) hzj ?_
  refine j_aload_n C dX3_compare_30 rfl ?_
  refine j_callVr C 4 (v := .int (-9)) (w := (dW E t sz sg la dk z g b (cr + nI 1) ca cg ck rest)) (c_refuse l E A) ok_X3_refuse w_96 (by decide) rfl rfl (Nat.le_of_ble_eq_true rfl) rfl rfl ⟨Nat.le_of_ble_eq_true rfl, Nat.le_of_ble_eq_true rfl⟩ dX3_compare_31 ?_
  exact j_iret C hQ rfl dX3_compare_34 ⟨Nat.le_of_ble_eq_true rfl, Nat.le_of_ble_eq_true rfl⟩ ⟨rfl, rfl⟩
set_option maxHeartbeats 4000000 in
set_option maxRecDepth 100000 in
theorem f_compare_k (l : Launch) (E : jE) (A : Nat → Prop) {t sz sg la dk : Nat} {z g b : Nat → Int32} {cr ca cg ck : Int32} {rest : va_W} {i : Nat} (hi : i < 9) {j : Nat} (hj : j < 9) (hT : ∀ i, i < 9 → txOk z g i) {n : Nat} (hn : n ≤ 24) (hz : z i = nI n) {o : Nat} (ho : o ≤ 24) (hzj : z j = nI o) : jMet l yX3_compare cX3_compare 3 (some .int) 5 0 0 E A [.ref dk, .int (nI i), .int (nI j)] (dW E t sz sg la dk z g b cr ca cg ck rest) (jR (some (.int (cmpS z g i j))) (dW E t sz sg la dk z g b cr ca cg ck rest)) jNo := by
  refine jMet.intro' [(0, .ref dk), (1, .int (nI i)), (2, .int (nI j))] (by decide) (Nat.le_of_ble_eq_true rfl) rfl ?_
  intro p e R s m args below meth c Q C hQ
  refine j_iload_n C dX3_compare_0 rfl ?_
  refine j_callSv C (w := (dW E t sz sg la dk z g b cr ca cg ck rest)) (c_wantSeat_r l E A (by omega)) ok_X3_wantSeat w_272 (by decide) rfl rfl (Nat.le_of_ble_eq_true rfl) ⟨Nat.le_of_ble_eq_true rfl, Nat.le_of_ble_eq_true rfl⟩ dX3_compare_1 ?_
  refine j_iload_n C dX3_compare_4 rfl ?_
  refine j_callSv C (w := (dW E t sz sg la dk z g b cr ca cg ck rest)) (c_wantSeat_r l E A (by omega)) ok_X3_wantSeat w_272 (by decide) rfl rfl (Nat.le_of_ble_eq_true rfl) ⟨Nat.le_of_ble_eq_true rfl, Nat.le_of_ble_eq_true rfl⟩ dX3_compare_5 ?_
  refine j_aload_n C dX3_compare_8 rfl ?_
  refine j_get C 4 rfl inj_X3 rfl 0 (by decide) w_73 rfl dX3_compare_9 ?_
  refine j_iload_n C dX3_compare_12 rfl ?_
  refine j_callVr C 0 (v := .int (bI (z i = -1))) (w := (dW E t sz sg la dk z g b cr ca cg ck rest)) (c_isAway l E A (by omega)) ok_X2_isAway w_369 (by decide) rfl rfl (Nat.le_of_ble_eq_true rfl) rfl rfl ⟨Nat.le_of_ble_eq_true rfl, Nat.le_of_ble_eq_true rfl⟩ dX3_compare_13 ?_
  refine j_ifb_ne_f (tgt := 30) C dX3_compare_16 (by decide) (by rw [hz]; exact nI_ne_m (by omega)) ?_
  refine j_aload_n C dX3_compare_19 rfl ?_
  refine j_get C 4 rfl inj_X3 rfl 0 (by decide) w_73 rfl dX3_compare_20 ?_
  refine j_iload_n C dX3_compare_23 rfl ?_
  refine j_callVr C 0 (v := .int (bI (z j = -1))) (w := (dW E t sz sg la dk z g b cr ca cg ck rest)) (c_isAway l E A (by omega)) ok_X2_isAway w_369 (by decide) rfl rfl (Nat.le_of_ble_eq_true rfl) rfl rfl ⟨Nat.le_of_ble_eq_true rfl, Nat.le_of_ble_eq_true rfl⟩ dX3_compare_24 ?_
  refine j_ifb_eq_t (tgt := 35) C dX3_compare_27 (by decide) (by rw [hzj]; exact nI_ne_m (by omega)) ?_
  refine j_aload_n C dX3_compare_35 rfl ?_
  refine j_get C 4 rfl inj_X3 rfl 0 (by decide) w_73 rfl dX3_compare_36 ?_
  refine j_iload_n C dX3_compare_39 rfl ?_
  refine j_iload_n C dX3_compare_40 rfl ?_
  refine j_callVr C 0 (v := .int (cmpS z g i j)) (w := (dW E t sz sg la dk z g b cr ca cg ck rest)) (c_cmpS l E A hi hj hT (by rw [hz]; exact nI_ne_m (by omega)) (by rw [hzj]; exact nI_ne_m (by omega))) ok_X2_compared w_800 (by decide) rfl rfl (Nat.le_of_ble_eq_true rfl) rfl rfl ⟨Nat.le_of_ble_eq_true rfl, Nat.le_of_ble_eq_true rfl⟩ dX3_compare_41 ?_
  exact j_iret C hQ rfl dX3_compare_44 ⟨Nat.le_of_ble_eq_true rfl, Nat.le_of_ble_eq_true rfl⟩ ⟨rfl, rfl⟩
set_option maxHeartbeats 4000000 in
set_option maxRecDepth 100000 in
theorem f_areSame_k (l : Launch) (E : jE) (A : Nat → Prop) {t sz sg la dk : Nat} {z g b : Nat → Int32} {cr ca cg ck : Int32} {rest : va_W} {i : Nat} (hi : i < 9) {j : Nat} (hj : j < 9) (hT : ∀ i, i < 9 → txOk z g i)  : jMet l yX3_areSame cX3_areSame 3 (some .boolean) 5 0 0 E A [.ref dk, .int (nI i), .int (nI j)] (dW E t sz sg la dk z g b cr ca cg ck rest) (jR (some (.int (samS z g i j))) (dW E t sz sg la dk z g b cr ca cg ck rest)) jNo := by
  refine jMet.intro' [(0, .ref dk), (1, .int (nI i)), (2, .int (nI j))] (by decide) (Nat.le_of_ble_eq_true rfl) rfl ?_
  intro p e R s m args below meth c Q C hQ
  refine j_iload_n C dX3_areSame_0 rfl ?_
  refine j_callSv C (w := (dW E t sz sg la dk z g b cr ca cg ck rest)) (c_wantSeat_r l E A (by omega)) ok_X3_wantSeat w_272 (by decide) rfl rfl (Nat.le_of_ble_eq_true rfl) ⟨Nat.le_of_ble_eq_true rfl, Nat.le_of_ble_eq_true rfl⟩ dX3_areSame_1 ?_
  refine j_iload_n C dX3_areSame_4 rfl ?_
  refine j_callSv C (w := (dW E t sz sg la dk z g b cr ca cg ck rest)) (c_wantSeat_r l E A (by omega)) ok_X3_wantSeat w_272 (by decide) rfl rfl (Nat.le_of_ble_eq_true rfl) ⟨Nat.le_of_ble_eq_true rfl, Nat.le_of_ble_eq_true rfl⟩ dX3_areSame_5 ?_
  refine j_aload_n C dX3_areSame_8 rfl ?_
  refine j_get C 4 rfl inj_X3 rfl 0 (by decide) w_73 rfl dX3_areSame_9 ?_
  refine j_iload_n C dX3_areSame_12 rfl ?_
  refine j_iload_n C dX3_areSame_13 rfl ?_
  refine j_callVr C 0 (v := .int (samS z g i j)) (w := (dW E t sz sg la dk z g b cr ca cg ck rest)) (c_samS l E A (by omega) (by omega) hT) ok_X2_haveSameSigns w_820 (by decide) rfl rfl (Nat.le_of_ble_eq_true rfl) rfl rfl ⟨Nat.le_of_ble_eq_true rfl, Nat.le_of_ble_eq_true rfl⟩ dX3_areSame_14 ?_
  exact j_zret C hQ rfl (samS_nar _ _ _ _) dX3_areSame_17 ⟨Nat.le_of_ble_eq_true rfl, Nat.le_of_ble_eq_true rfl⟩ ⟨rfl, rfl⟩
set_option maxHeartbeats 4000000 in
set_option maxRecDepth 100000 in
theorem f_compareParts_b1 (l : Launch) (hl : l.stackTraces = false) (E : jE) (A : Nat → Prop) {t sz sg la dk : Nat} {z g b : Nat → Int32} {cr ca cg ck : Int32} {rest : va_W} {x y u w : Int32} (hbx : x < 0 ∨ nI 9 ≤ x) : jMet l yX3_compareParts cX3_compareParts 5 (some .int) 5 1 6 E A [.ref dk, .int x, .int y, .int u, .int w] (dW E t sz sg la dk z g b cr ca cg ck rest) jNv (jT jIO (dW E t sz sg la dk z g b cr ca cg ck rest)) := by
  refine jMet.intro' [(0, .ref dk), (1, .int x), (2, .int y), (3, .int u), (4, .int w)] (by decide) (Nat.le_of_ble_eq_true rfl) rfl ?_
  intro p e R s m args below meth c Q C hQ
  refine j_iload_n C dX3_compareParts_0 rfl ?_
  refine j_callSx C (c_wantSeat_x l hl E A hbx) ok_X3_wantSeat w_272 (by decide) rfl rfl (Nat.le_of_ble_eq_true rfl) ⟨Nat.le_of_ble_eq_true rfl, Nat.le_of_ble_eq_true rfl⟩ dX3_compareParts_1 ?_
  exact j_xout C hQ ⟨Nat.le_of_ble_eq_true rfl, Nat.le_of_ble_eq_true rfl⟩ ⟨rfl, rfl⟩
set_option maxHeartbeats 4000000 in
set_option maxRecDepth 100000 in
theorem f_compareParts_b2 (l : Launch) (hl : l.stackTraces = false) (E : jE) (A : Nat → Prop) {t sz sg la dk : Nat} {z g b : Nat → Int32} {cr ca cg ck : Int32} {rest : va_W} {i : Nat} (hi : i < 9) {y u w : Int32} (hby : y < 0 ∨ nI 9 ≤ y) : jMet l yX3_compareParts cX3_compareParts 5 (some .int) 5 1 6 E A [.ref dk, .int (nI i), .int y, .int u, .int w] (dW E t sz sg la dk z g b cr ca cg ck rest) jNv (jT jIO (dW E t sz sg la dk z g b cr ca cg ck rest)) := by
  refine jMet.intro' [(0, .ref dk), (1, .int (nI i)), (2, .int y), (3, .int u), (4, .int w)] (by decide) (Nat.le_of_ble_eq_true rfl) rfl ?_
  intro p e R s m args below meth c Q C hQ
  refine j_iload_n C dX3_compareParts_0 rfl ?_
  refine j_callSv C (w := (dW E t sz sg la dk z g b cr ca cg ck rest)) (c_wantSeat_r l E A (by omega)) ok_X3_wantSeat w_272 (by decide) rfl rfl (Nat.le_of_ble_eq_true rfl) ⟨Nat.le_of_ble_eq_true rfl, Nat.le_of_ble_eq_true rfl⟩ dX3_compareParts_1 ?_
  refine j_iload_n C dX3_compareParts_4 rfl ?_
  refine j_callSx C (c_wantSeat_x l hl E A hby) ok_X3_wantSeat w_272 (by decide) rfl rfl (Nat.le_of_ble_eq_true rfl) ⟨Nat.le_of_ble_eq_true rfl, Nat.le_of_ble_eq_true rfl⟩ dX3_compareParts_5 ?_
  exact j_xout C hQ ⟨Nat.le_of_ble_eq_true rfl, Nat.le_of_ble_eq_true rfl⟩ ⟨rfl, rfl⟩
set_option maxHeartbeats 4000000 in
set_option maxRecDepth 100000 in
theorem f_compareParts_m1 (l : Launch) (E : jE) (A : Nat → Prop) {t sz sg la dk : Nat} {z g b : Nat → Int32} {cr ca cg ck : Int32} {rest : va_W} {i : Nat} (hi : i < 9) {j : Nat} (hj : j < 9) {u w : Int32} (hz : z i = -1)  : jMet l yX3_compareParts cX3_compareParts 5 (some .int) 5 0 0 E A [.ref dk, .int (nI i), .int (nI j), .int u, .int w] (dW E t sz sg la dk z g b cr ca cg ck rest) (jR (some (.int (-9))) (dW E t sz sg la dk z g b (cr + nI 1) ca cg ck rest)) jNo := by
  refine jMet.intro' [(0, .ref dk), (1, .int (nI i)), (2, .int (nI j)), (3, .int u), (4, .int w)] (by decide) (Nat.le_of_ble_eq_true rfl) rfl ?_
  intro p e R s m args below meth c Q C hQ
  refine j_iload_n C dX3_compareParts_0 rfl ?_
  refine j_callSv C (w := (dW E t sz sg la dk z g b cr ca cg ck rest)) (c_wantSeat_r l E A (by omega)) ok_X3_wantSeat w_272 (by decide) rfl rfl (Nat.le_of_ble_eq_true rfl) ⟨Nat.le_of_ble_eq_true rfl, Nat.le_of_ble_eq_true rfl⟩ dX3_compareParts_1 ?_
  refine j_iload_n C dX3_compareParts_4 rfl ?_
  refine j_callSv C (w := (dW E t sz sg la dk z g b cr ca cg ck rest)) (c_wantSeat_r l E A (by omega)) ok_X3_wantSeat w_272 (by decide) rfl rfl (Nat.le_of_ble_eq_true rfl) ⟨Nat.le_of_ble_eq_true rfl, Nat.le_of_ble_eq_true rfl⟩ dX3_compareParts_5 ?_
  refine j_aload_n C dX3_compareParts_8 rfl ?_
  refine j_get C 4 rfl inj_X3 rfl 0 (by decide) w_73 rfl dX3_compareParts_9 ?_
  refine j_iload_n C dX3_compareParts_12 rfl ?_
  refine j_callVr C 0 (v := .int (bI (z i = -1))) (w := (dW E t sz sg la dk z g b cr ca cg ck rest)) (c_isAway l E A (by omega)) ok_X2_isAway w_369 (by decide) rfl rfl (Nat.le_of_ble_eq_true rfl) rfl rfl ⟨Nat.le_of_ble_eq_true rfl, Nat.le_of_ble_eq_true rfl⟩ dX3_compareParts_13 ?_
  refine j_ifb_ne_t (tgt := 30) C dX3_compareParts_16 (by decide) hz ?_
  refine j_aload_n C dX3_compareParts_30 rfl ?_
  refine j_callVr C 4 (v := .int (-9)) (w := (dW E t sz sg la dk z g b (cr + nI 1) ca cg ck rest)) (c_refuse l E A) ok_X3_refuse w_96 (by decide) rfl rfl (Nat.le_of_ble_eq_true rfl) rfl rfl ⟨Nat.le_of_ble_eq_true rfl, Nat.le_of_ble_eq_true rfl⟩ dX3_compareParts_31 ?_
  exact j_iret C hQ rfl dX3_compareParts_34 ⟨Nat.le_of_ble_eq_true rfl, Nat.le_of_ble_eq_true rfl⟩ ⟨rfl, rfl⟩
set_option maxHeartbeats 4000000 in
set_option maxRecDepth 100000 in
theorem f_compareParts_m2 (l : Launch) (E : jE) (A : Nat → Prop) {t sz sg la dk : Nat} {z g b : Nat → Int32} {cr ca cg ck : Int32} {rest : va_W} {i : Nat} (hi : i < 9) {j : Nat} (hj : j < 9) {u w : Int32} {n : Nat} (hn : n ≤ 24) (hz : z i = nI n) (hzj : z j = -1) : jMet l yX3_compareParts cX3_compareParts 5 (some .int) 5 0 0 E A [.ref dk, .int (nI i), .int (nI j), .int u, .int w] (dW E t sz sg la dk z g b cr ca cg ck rest) (jR (some (.int (-9))) (dW E t sz sg la dk z g b (cr + nI 1) ca cg ck rest)) jNo := by
  refine jMet.intro' [(0, .ref dk), (1, .int (nI i)), (2, .int (nI j)), (3, .int u), (4, .int w)] (by decide) (Nat.le_of_ble_eq_true rfl) rfl ?_
  intro p e R s m args below meth c Q C hQ
  refine j_iload_n C dX3_compareParts_0 rfl ?_
  refine j_callSv C (w := (dW E t sz sg la dk z g b cr ca cg ck rest)) (c_wantSeat_r l E A (by omega)) ok_X3_wantSeat w_272 (by decide) rfl rfl (Nat.le_of_ble_eq_true rfl) ⟨Nat.le_of_ble_eq_true rfl, Nat.le_of_ble_eq_true rfl⟩ dX3_compareParts_1 ?_
  refine j_iload_n C dX3_compareParts_4 rfl ?_
  refine j_callSv C (w := (dW E t sz sg la dk z g b cr ca cg ck rest)) (c_wantSeat_r l E A (by omega)) ok_X3_wantSeat w_272 (by decide) rfl rfl (Nat.le_of_ble_eq_true rfl) ⟨Nat.le_of_ble_eq_true rfl, Nat.le_of_ble_eq_true rfl⟩ dX3_compareParts_5 ?_
  refine j_aload_n C dX3_compareParts_8 rfl ?_
  refine j_get C 4 rfl inj_X3 rfl 0 (by decide) w_73 rfl dX3_compareParts_9 ?_
  refine j_iload_n C dX3_compareParts_12 rfl ?_
  refine j_callVr C 0 (v := .int (bI (z i = -1))) (w := (dW E t sz sg la dk z g b cr ca cg ck rest)) (c_isAway l E A (by omega)) ok_X2_isAway w_369 (by decide) rfl rfl (Nat.le_of_ble_eq_true rfl) rfl rfl ⟨Nat.le_of_ble_eq_true rfl, Nat.le_of_ble_eq_true rfl⟩ dX3_compareParts_13 ?_
  refine j_ifb_ne_f (tgt := 30) C dX3_compareParts_16 (by decide) (by rw [hz]; exact nI_ne_m (by omega)) ?_
  refine j_aload_n C dX3_compareParts_19 rfl ?_
  refine j_get C 4 rfl inj_X3 rfl 0 (by decide) w_73 rfl dX3_compareParts_20 ?_
  refine j_iload_n C dX3_compareParts_23 rfl ?_
  refine j_callVr C 0 (v := .int (bI (z j = -1))) (w := (dW E t sz sg la dk z g b cr ca cg ck rest)) (c_isAway l E A (by omega)) ok_X2_isAway w_369 (by decide) rfl rfl (Nat.le_of_ble_eq_true rfl) rfl rfl ⟨Nat.le_of_ble_eq_true rfl, Nat.le_of_ble_eq_true rfl⟩ dX3_compareParts_24 ?_
  refine j_ifb_eq_f (tgt := 35) C dX3_compareParts_27 (by decide) hzj ?_
  refine j_aload_n C dX3_compareParts_30 rfl ?_
  refine j_callVr C 4 (v := .int (-9)) (w := (dW E t sz sg la dk z g b (cr + nI 1) ca cg ck rest)) (c_refuse l E A) ok_X3_refuse w_96 (by decide) rfl rfl (Nat.le_of_ble_eq_true rfl) rfl rfl ⟨Nat.le_of_ble_eq_true rfl, Nat.le_of_ble_eq_true rfl⟩ dX3_compareParts_31 ?_
  exact j_iret C hQ rfl dX3_compareParts_34 ⟨Nat.le_of_ble_eq_true rfl, Nat.le_of_ble_eq_true rfl⟩ ⟨rfl, rfl⟩
set_option maxHeartbeats 4000000 in
set_option maxRecDepth 100000 in
theorem f_compareParts_o1 (l : Launch) (E : jE) (A : Nat → Prop) {t sz sg la dk : Nat} {z g b : Nat → Int32} {cr ca cg ck : Int32} {rest : va_W} {i : Nat} (hi : i < 9) {j : Nat} (hj : j < 9) {u w : Int32} {n : Nat} (hn : n ≤ 24) (hz : z i = nI n) {o : Nat} (ho : o ≤ 24) (hzj : z j = nI o) (hout : ¬ (¬ u.toInt64 < 0 ∧ ¬ w.toInt64 < u.toInt64 ∧ ¬ ((nI n).toInt64) < w.toInt64)) : jMet l yX3_compareParts cX3_compareParts 5 (some .int) 5 0 0 E A [.ref dk, .int (nI i), .int (nI j), .int u, .int w] (dW E t sz sg la dk z g b cr ca cg ck rest) (jR (some (.int (-9))) (dW E t sz sg la dk z g b (cr + nI 1) ca cg ck rest)) jNo := by
  refine jMet.intro' [(0, .ref dk), (1, .int (nI i)), (2, .int (nI j)), (3, .int u), (4, .int w)] (by decide) (Nat.le_of_ble_eq_true rfl) rfl ?_
  intro p e R s m args below meth c Q C hQ
  refine j_iload_n C dX3_compareParts_0 rfl ?_
  refine j_callSv C (w := (dW E t sz sg la dk z g b cr ca cg ck rest)) (c_wantSeat_r l E A (by omega)) ok_X3_wantSeat w_272 (by decide) rfl rfl (Nat.le_of_ble_eq_true rfl) ⟨Nat.le_of_ble_eq_true rfl, Nat.le_of_ble_eq_true rfl⟩ dX3_compareParts_1 ?_
  refine j_iload_n C dX3_compareParts_4 rfl ?_
  refine j_callSv C (w := (dW E t sz sg la dk z g b cr ca cg ck rest)) (c_wantSeat_r l E A (by omega)) ok_X3_wantSeat w_272 (by decide) rfl rfl (Nat.le_of_ble_eq_true rfl) ⟨Nat.le_of_ble_eq_true rfl, Nat.le_of_ble_eq_true rfl⟩ dX3_compareParts_5 ?_
  refine j_aload_n C dX3_compareParts_8 rfl ?_
  refine j_get C 4 rfl inj_X3 rfl 0 (by decide) w_73 rfl dX3_compareParts_9 ?_
  refine j_iload_n C dX3_compareParts_12 rfl ?_
  refine j_callVr C 0 (v := .int (bI (z i = -1))) (w := (dW E t sz sg la dk z g b cr ca cg ck rest)) (c_isAway l E A (by omega)) ok_X2_isAway w_369 (by decide) rfl rfl (Nat.le_of_ble_eq_true rfl) rfl rfl ⟨Nat.le_of_ble_eq_true rfl, Nat.le_of_ble_eq_true rfl⟩ dX3_compareParts_13 ?_
  refine j_ifb_ne_f (tgt := 30) C dX3_compareParts_16 (by decide) (by rw [hz]; exact nI_ne_m (by omega)) ?_
  refine j_aload_n C dX3_compareParts_19 rfl ?_
  refine j_get C 4 rfl inj_X3 rfl 0 (by decide) w_73 rfl dX3_compareParts_20 ?_
  refine j_iload_n C dX3_compareParts_23 rfl ?_
  refine j_callVr C 0 (v := .int (bI (z j = -1))) (w := (dW E t sz sg la dk z g b cr ca cg ck rest)) (c_isAway l E A (by omega)) ok_X2_isAway w_369 (by decide) rfl rfl (Nat.le_of_ble_eq_true rfl) rfl rfl ⟨Nat.le_of_ble_eq_true rfl, Nat.le_of_ble_eq_true rfl⟩ dX3_compareParts_24 ?_
  refine j_ifb_eq_t (tgt := 35) C dX3_compareParts_27 (by decide) (by rw [hzj]; exact nI_ne_m (by omega)) ?_
  refine j_iload_n C dX3_compareParts_35 rfl ?_
  refine j_i2l (v := u.toInt64) C dX3_compareParts_36 rfl ?_
  refine j_iload C dX3_compareParts_37 rfl ?_
  refine j_i2l (v := w.toInt64) C dX3_compareParts_39 rfl ?_
  refine j_aload_n C dX3_compareParts_40 rfl ?_
  refine j_get C 4 rfl inj_X3 rfl 0 (by decide) w_73 rfl dX3_compareParts_41 ?_
  refine j_iload_n C dX3_compareParts_44 rfl ?_
  refine j_callVr C 0 (v := .int (nI n)) (w := (dW E t sz sg la dk z g b cr ca cg ck rest)) (c_size_n l E A (by omega) hz) ok_X2_size w_241 (by decide) rfl rfl (Nat.le_of_ble_eq_true rfl) rfl rfl ⟨Nat.le_of_ble_eq_true rfl, Nat.le_of_ble_eq_true rfl⟩ dX3_compareParts_45 ?_
  refine j_i2l (v := (nI n).toInt64) C dX3_compareParts_48 rfl ?_
  refine j_callSr C (v := .int (bI (¬ u.toInt64 < 0 ∧ ¬ w.toInt64 < u.toInt64 ∧ ¬ ((nI n).toInt64) < w.toInt64))) (w := (dW E t sz sg la dk z g b cr ca cg ck rest)) (c_holdsSpan l E A) ok_X0_holdsSpan w_104 (by decide) rfl rfl (Nat.le_of_ble_eq_true rfl) ⟨Nat.le_of_ble_eq_true rfl, Nat.le_of_ble_eq_true rfl⟩ dX3_compareParts_49 ?_
  refine j_ifb_eq_t (tgt := 75) C dX3_compareParts_52 (by decide) hout ?_
  refine j_aload_n C dX3_compareParts_75 rfl ?_
  refine j_callVr C 4 (v := .int (-9)) (w := (dW E t sz sg la dk z g b (cr + nI 1) ca cg ck rest)) (c_refuse l E A) ok_X3_refuse w_96 (by decide) rfl rfl (Nat.le_of_ble_eq_true rfl) rfl rfl ⟨Nat.le_of_ble_eq_true rfl, Nat.le_of_ble_eq_true rfl⟩ dX3_compareParts_76 ?_
  exact j_iret C hQ rfl dX3_compareParts_79 ⟨Nat.le_of_ble_eq_true rfl, Nat.le_of_ble_eq_true rfl⟩ ⟨rfl, rfl⟩
set_option maxHeartbeats 4000000 in
set_option maxRecDepth 100000 in
theorem f_compareParts_o2 (l : Launch) (E : jE) (A : Nat → Prop) {t sz sg la dk : Nat} {z g b : Nat → Int32} {cr ca cg ck : Int32} {rest : va_W} {i : Nat} (hi : i < 9) {j : Nat} (hj : j < 9) {u w : Int32} {n : Nat} (hn : n ≤ 24) (hz : z i = nI n) {o : Nat} (ho : o ≤ 24) (hzj : z j = nI o) (hin : ¬ u.toInt64 < 0 ∧ ¬ w.toInt64 < u.toInt64 ∧ ¬ ((nI n).toInt64) < w.toInt64) (hout : ¬ (¬ u.toInt64 < 0 ∧ ¬ w.toInt64 < u.toInt64 ∧ ¬ ((nI o).toInt64) < w.toInt64)) : jMet l yX3_compareParts cX3_compareParts 5 (some .int) 5 0 0 E A [.ref dk, .int (nI i), .int (nI j), .int u, .int w] (dW E t sz sg la dk z g b cr ca cg ck rest) (jR (some (.int (-9))) (dW E t sz sg la dk z g b (cr + nI 1) ca cg ck rest)) jNo := by
  refine jMet.intro' [(0, .ref dk), (1, .int (nI i)), (2, .int (nI j)), (3, .int u), (4, .int w)] (by decide) (Nat.le_of_ble_eq_true rfl) rfl ?_
  intro p e R s m args below meth c Q C hQ
  refine j_iload_n C dX3_compareParts_0 rfl ?_
  refine j_callSv C (w := (dW E t sz sg la dk z g b cr ca cg ck rest)) (c_wantSeat_r l E A (by omega)) ok_X3_wantSeat w_272 (by decide) rfl rfl (Nat.le_of_ble_eq_true rfl) ⟨Nat.le_of_ble_eq_true rfl, Nat.le_of_ble_eq_true rfl⟩ dX3_compareParts_1 ?_
  refine j_iload_n C dX3_compareParts_4 rfl ?_
  refine j_callSv C (w := (dW E t sz sg la dk z g b cr ca cg ck rest)) (c_wantSeat_r l E A (by omega)) ok_X3_wantSeat w_272 (by decide) rfl rfl (Nat.le_of_ble_eq_true rfl) ⟨Nat.le_of_ble_eq_true rfl, Nat.le_of_ble_eq_true rfl⟩ dX3_compareParts_5 ?_
  refine j_aload_n C dX3_compareParts_8 rfl ?_
  refine j_get C 4 rfl inj_X3 rfl 0 (by decide) w_73 rfl dX3_compareParts_9 ?_
  refine j_iload_n C dX3_compareParts_12 rfl ?_
  refine j_callVr C 0 (v := .int (bI (z i = -1))) (w := (dW E t sz sg la dk z g b cr ca cg ck rest)) (c_isAway l E A (by omega)) ok_X2_isAway w_369 (by decide) rfl rfl (Nat.le_of_ble_eq_true rfl) rfl rfl ⟨Nat.le_of_ble_eq_true rfl, Nat.le_of_ble_eq_true rfl⟩ dX3_compareParts_13 ?_
  refine j_ifb_ne_f (tgt := 30) C dX3_compareParts_16 (by decide) (by rw [hz]; exact nI_ne_m (by omega)) ?_
  refine j_aload_n C dX3_compareParts_19 rfl ?_
  refine j_get C 4 rfl inj_X3 rfl 0 (by decide) w_73 rfl dX3_compareParts_20 ?_
  refine j_iload_n C dX3_compareParts_23 rfl ?_
  refine j_callVr C 0 (v := .int (bI (z j = -1))) (w := (dW E t sz sg la dk z g b cr ca cg ck rest)) (c_isAway l E A (by omega)) ok_X2_isAway w_369 (by decide) rfl rfl (Nat.le_of_ble_eq_true rfl) rfl rfl ⟨Nat.le_of_ble_eq_true rfl, Nat.le_of_ble_eq_true rfl⟩ dX3_compareParts_24 ?_
  refine j_ifb_eq_t (tgt := 35) C dX3_compareParts_27 (by decide) (by rw [hzj]; exact nI_ne_m (by omega)) ?_
  refine j_iload_n C dX3_compareParts_35 rfl ?_
  refine j_i2l (v := u.toInt64) C dX3_compareParts_36 rfl ?_
  refine j_iload C dX3_compareParts_37 rfl ?_
  refine j_i2l (v := w.toInt64) C dX3_compareParts_39 rfl ?_
  refine j_aload_n C dX3_compareParts_40 rfl ?_
  refine j_get C 4 rfl inj_X3 rfl 0 (by decide) w_73 rfl dX3_compareParts_41 ?_
  refine j_iload_n C dX3_compareParts_44 rfl ?_
  refine j_callVr C 0 (v := .int (nI n)) (w := (dW E t sz sg la dk z g b cr ca cg ck rest)) (c_size_n l E A (by omega) hz) ok_X2_size w_241 (by decide) rfl rfl (Nat.le_of_ble_eq_true rfl) rfl rfl ⟨Nat.le_of_ble_eq_true rfl, Nat.le_of_ble_eq_true rfl⟩ dX3_compareParts_45 ?_
  refine j_i2l (v := (nI n).toInt64) C dX3_compareParts_48 rfl ?_
  refine j_callSr C (v := .int (bI (¬ u.toInt64 < 0 ∧ ¬ w.toInt64 < u.toInt64 ∧ ¬ ((nI n).toInt64) < w.toInt64))) (w := (dW E t sz sg la dk z g b cr ca cg ck rest)) (c_holdsSpan l E A) ok_X0_holdsSpan w_104 (by decide) rfl rfl (Nat.le_of_ble_eq_true rfl) ⟨Nat.le_of_ble_eq_true rfl, Nat.le_of_ble_eq_true rfl⟩ dX3_compareParts_49 ?_
  refine j_ifb_eq_f (tgt := 75) C dX3_compareParts_52 (by decide) hin ?_
  refine j_iload_n C dX3_compareParts_55 rfl ?_
  refine j_i2l (v := u.toInt64) C dX3_compareParts_56 rfl ?_
  refine j_iload C dX3_compareParts_57 rfl ?_
  refine j_i2l (v := w.toInt64) C dX3_compareParts_59 rfl ?_
  refine j_aload_n C dX3_compareParts_60 rfl ?_
  refine j_get C 4 rfl inj_X3 rfl 0 (by decide) w_73 rfl dX3_compareParts_61 ?_
  refine j_iload_n C dX3_compareParts_64 rfl ?_
  refine j_callVr C 0 (v := .int (nI o)) (w := (dW E t sz sg la dk z g b cr ca cg ck rest)) (c_size_n l E A (by omega) hzj) ok_X2_size w_241 (by decide) rfl rfl (Nat.le_of_ble_eq_true rfl) rfl rfl ⟨Nat.le_of_ble_eq_true rfl, Nat.le_of_ble_eq_true rfl⟩ dX3_compareParts_65 ?_
  refine j_i2l (v := (nI o).toInt64) C dX3_compareParts_68 rfl ?_
  refine j_callSr C (v := .int (bI (¬ u.toInt64 < 0 ∧ ¬ w.toInt64 < u.toInt64 ∧ ¬ ((nI o).toInt64) < w.toInt64))) (w := (dW E t sz sg la dk z g b cr ca cg ck rest)) (c_holdsSpan l E A) ok_X0_holdsSpan w_104 (by decide) rfl rfl (Nat.le_of_ble_eq_true rfl) ⟨Nat.le_of_ble_eq_true rfl, Nat.le_of_ble_eq_true rfl⟩ dX3_compareParts_69 ?_
  refine j_ifb_ne_f (tgt := 80) C dX3_compareParts_72 (by decide) hout ?_
  refine j_aload_n C dX3_compareParts_75 rfl ?_
  refine j_callVr C 4 (v := .int (-9)) (w := (dW E t sz sg la dk z g b (cr + nI 1) ca cg ck rest)) (c_refuse l E A) ok_X3_refuse w_96 (by decide) rfl rfl (Nat.le_of_ble_eq_true rfl) rfl rfl ⟨Nat.le_of_ble_eq_true rfl, Nat.le_of_ble_eq_true rfl⟩ dX3_compareParts_76 ?_
  exact j_iret C hQ rfl dX3_compareParts_79 ⟨Nat.le_of_ble_eq_true rfl, Nat.le_of_ble_eq_true rfl⟩ ⟨rfl, rfl⟩
set_option maxHeartbeats 4000000 in
set_option maxRecDepth 100000 in
theorem f_compareParts_k (l : Launch) (E : jE) (A : Nat → Prop) {t sz sg la dk : Nat} {z g b : Nat → Int32} {cr ca cg ck : Int32} {rest : va_W} {i : Nat} (hi : i < 9) {j : Nat} (hj : j < 9) {u w : Nat} {n : Nat} (hn : n ≤ 24) (hz : z i = nI n) {o : Nat} (ho : o ≤ 24) (hzj : z j = nI o) (huw : u ≤ w) (hwn : w ≤ n) (hwo : w ≤ o) : jMet l yX3_compareParts cX3_compareParts 5 (some .int) 5 0 0 E A [.ref dk, .int (nI i), .int (nI j), .int (nI u), .int (nI w)] (dW E t sz sg la dk z g b cr ca cg ck rest) (jR (some (.int (cmpF (fun q => g (i * 24 + q)) (fun q => g (j * 24 + q)) (smI (nI w) (nI w)) u (min w w - u)))) (dW E t sz sg la dk z g b cr ca cg ck rest)) jNo := by
  refine jMet.intro' [(0, .ref dk), (1, .int (nI i)), (2, .int (nI j)), (3, .int (nI u)), (4, .int (nI w))] (by decide) (Nat.le_of_ble_eq_true rfl) rfl ?_
  intro p e R s m args below meth c Q C hQ
  refine j_iload_n C dX3_compareParts_0 rfl ?_
  refine j_callSv C (w := (dW E t sz sg la dk z g b cr ca cg ck rest)) (c_wantSeat_r l E A (by omega)) ok_X3_wantSeat w_272 (by decide) rfl rfl (Nat.le_of_ble_eq_true rfl) ⟨Nat.le_of_ble_eq_true rfl, Nat.le_of_ble_eq_true rfl⟩ dX3_compareParts_1 ?_
  refine j_iload_n C dX3_compareParts_4 rfl ?_
  refine j_callSv C (w := (dW E t sz sg la dk z g b cr ca cg ck rest)) (c_wantSeat_r l E A (by omega)) ok_X3_wantSeat w_272 (by decide) rfl rfl (Nat.le_of_ble_eq_true rfl) ⟨Nat.le_of_ble_eq_true rfl, Nat.le_of_ble_eq_true rfl⟩ dX3_compareParts_5 ?_
  refine j_aload_n C dX3_compareParts_8 rfl ?_
  refine j_get C 4 rfl inj_X3 rfl 0 (by decide) w_73 rfl dX3_compareParts_9 ?_
  refine j_iload_n C dX3_compareParts_12 rfl ?_
  refine j_callVr C 0 (v := .int (bI (z i = -1))) (w := (dW E t sz sg la dk z g b cr ca cg ck rest)) (c_isAway l E A (by omega)) ok_X2_isAway w_369 (by decide) rfl rfl (Nat.le_of_ble_eq_true rfl) rfl rfl ⟨Nat.le_of_ble_eq_true rfl, Nat.le_of_ble_eq_true rfl⟩ dX3_compareParts_13 ?_
  refine j_ifb_ne_f (tgt := 30) C dX3_compareParts_16 (by decide) (by rw [hz]; exact nI_ne_m (by omega)) ?_
  refine j_aload_n C dX3_compareParts_19 rfl ?_
  refine j_get C 4 rfl inj_X3 rfl 0 (by decide) w_73 rfl dX3_compareParts_20 ?_
  refine j_iload_n C dX3_compareParts_23 rfl ?_
  refine j_callVr C 0 (v := .int (bI (z j = -1))) (w := (dW E t sz sg la dk z g b cr ca cg ck rest)) (c_isAway l E A (by omega)) ok_X2_isAway w_369 (by decide) rfl rfl (Nat.le_of_ble_eq_true rfl) rfl rfl ⟨Nat.le_of_ble_eq_true rfl, Nat.le_of_ble_eq_true rfl⟩ dX3_compareParts_24 ?_
  refine j_ifb_eq_t (tgt := 35) C dX3_compareParts_27 (by decide) (by rw [hzj]; exact nI_ne_m (by omega)) ?_
  refine j_iload_n C dX3_compareParts_35 rfl ?_
  refine j_i2l (v := (nI u).toInt64) C dX3_compareParts_36 rfl ?_
  refine j_iload C dX3_compareParts_37 rfl ?_
  refine j_i2l (v := (nI w).toInt64) C dX3_compareParts_39 rfl ?_
  refine j_aload_n C dX3_compareParts_40 rfl ?_
  refine j_get C 4 rfl inj_X3 rfl 0 (by decide) w_73 rfl dX3_compareParts_41 ?_
  refine j_iload_n C dX3_compareParts_44 rfl ?_
  refine j_callVr C 0 (v := .int (nI n)) (w := (dW E t sz sg la dk z g b cr ca cg ck rest)) (c_size_n l E A (by omega) hz) ok_X2_size w_241 (by decide) rfl rfl (Nat.le_of_ble_eq_true rfl) rfl rfl ⟨Nat.le_of_ble_eq_true rfl, Nat.le_of_ble_eq_true rfl⟩ dX3_compareParts_45 ?_
  refine j_i2l (v := (nI n).toInt64) C dX3_compareParts_48 rfl ?_
  refine j_callSr C (v := .int (bI (¬ ((nI u).toInt64) < 0 ∧ ¬ ((nI w).toInt64) < ((nI u).toInt64) ∧ ¬ ((nI n).toInt64) < ((nI w).toInt64)))) (w := (dW E t sz sg la dk z g b cr ca cg ck rest)) (c_holdsSpan l E A) ok_X0_holdsSpan w_104 (by decide) rfl rfl (Nat.le_of_ble_eq_true rfl) ⟨Nat.le_of_ble_eq_true rfl, Nat.le_of_ble_eq_true rfl⟩ dX3_compareParts_49 ?_
  refine j_ifb_eq_f (tgt := 75) C dX3_compareParts_52 (by decide) (span_of huw hwn hn) ?_
  refine j_iload_n C dX3_compareParts_55 rfl ?_
  refine j_i2l (v := (nI u).toInt64) C dX3_compareParts_56 rfl ?_
  refine j_iload C dX3_compareParts_57 rfl ?_
  refine j_i2l (v := (nI w).toInt64) C dX3_compareParts_59 rfl ?_
  refine j_aload_n C dX3_compareParts_60 rfl ?_
  refine j_get C 4 rfl inj_X3 rfl 0 (by decide) w_73 rfl dX3_compareParts_61 ?_
  refine j_iload_n C dX3_compareParts_64 rfl ?_
  refine j_callVr C 0 (v := .int (nI o)) (w := (dW E t sz sg la dk z g b cr ca cg ck rest)) (c_size_n l E A (by omega) hzj) ok_X2_size w_241 (by decide) rfl rfl (Nat.le_of_ble_eq_true rfl) rfl rfl ⟨Nat.le_of_ble_eq_true rfl, Nat.le_of_ble_eq_true rfl⟩ dX3_compareParts_65 ?_
  refine j_i2l (v := (nI o).toInt64) C dX3_compareParts_68 rfl ?_
  refine j_callSr C (v := .int (bI (¬ ((nI u).toInt64) < 0 ∧ ¬ ((nI w).toInt64) < ((nI u).toInt64) ∧ ¬ ((nI o).toInt64) < ((nI w).toInt64)))) (w := (dW E t sz sg la dk z g b cr ca cg ck rest)) (c_holdsSpan l E A) ok_X0_holdsSpan w_104 (by decide) rfl rfl (Nat.le_of_ble_eq_true rfl) ⟨Nat.le_of_ble_eq_true rfl, Nat.le_of_ble_eq_true rfl⟩ dX3_compareParts_69 ?_
  refine j_ifb_ne_t (tgt := 80) C dX3_compareParts_72 (by decide) (span_of huw hwo ho) ?_
  refine j_aload_n C dX3_compareParts_80 rfl ?_
  refine j_get C 4 rfl inj_X3 rfl 0 (by decide) w_73 rfl dX3_compareParts_81 ?_
  refine j_iload_n C dX3_compareParts_84 rfl ?_
  refine j_iload_n C dX3_compareParts_85 rfl ?_
  refine j_iload C dX3_compareParts_86 rfl ?_
  refine j_iload_n C dX3_compareParts_88 rfl ?_
  refine j_iload C dX3_compareParts_89 rfl ?_
  refine j_callVr C 0 (v := .int (cmpF (fun q => g (i * 24 + q)) (fun q => g (j * 24 + q)) (smI (nI w) (nI w)) u (min w w - u))) (w := (dW E t sz sg la dk z g b cr ca cg ck rest)) (c_comparedFrom l E A (by omega) (by omega) (by omega) (by omega) (by omega) (by omega)) ok_X2_comparedFrom w_808 (by decide) rfl rfl (Nat.le_of_ble_eq_true rfl) rfl rfl ⟨Nat.le_of_ble_eq_true rfl, Nat.le_of_ble_eq_true rfl⟩ dX3_compareParts_91 ?_
  exact j_iret C hQ rfl dX3_compareParts_94 ⟨Nat.le_of_ble_eq_true rfl, Nat.le_of_ble_eq_true rfl⟩ ⟨rfl, rfl⟩
set_option maxHeartbeats 4000000 in
set_option maxRecDepth 100000 in
theorem f_isLike_b1 (l : Launch) (hl : l.stackTraces = false) (E : jE) (A : Nat → Prop) {t sz sg la dk : Nat} {z g b : Nat → Int32} {cr ca cg ck : Int32} {rest : va_W} {x y : Int32} (hbx : x < 0 ∨ nI 3 ≤ x) : jMet l yX3_isLike cX3_isLike 3 (some .int) 5 1 6 E A [.ref dk, .int x, .int y] (dW E t sz sg la dk z g b cr ca cg ck rest) jNv (jT jIO (dW E t sz sg la dk z g b cr ca cg ck rest)) := by
  refine jMet.intro' [(0, .ref dk), (1, .int x), (2, .int y)] (by decide) (Nat.le_of_ble_eq_true rfl) rfl ?_
  intro p e R s m args below meth c Q C hQ
  refine j_iload_n C dX3_isLike_0 rfl ?_
  refine j_callSx C (c_wantPaper_x l hl E A hbx) ok_X3_wantPaper w_816 (by decide) rfl rfl (Nat.le_of_ble_eq_true rfl) ⟨Nat.le_of_ble_eq_true rfl, Nat.le_of_ble_eq_true rfl⟩ dX3_isLike_1 ?_
  exact j_xout C hQ ⟨Nat.le_of_ble_eq_true rfl, Nat.le_of_ble_eq_true rfl⟩ ⟨rfl, rfl⟩
set_option maxHeartbeats 4000000 in
set_option maxRecDepth 100000 in
theorem f_isLike_b2 (l : Launch) (hl : l.stackTraces = false) (E : jE) (A : Nat → Prop) {t sz sg la dk : Nat} {z g b : Nat → Int32} {cr ca cg ck : Int32} {rest : va_W} {i : Nat} (hi : i < 3) {y : Int32} (hby : y < 0 ∨ nI 9 ≤ y) : jMet l yX3_isLike cX3_isLike 3 (some .int) 5 1 6 E A [.ref dk, .int (nI i), .int y] (dW E t sz sg la dk z g b cr ca cg ck rest) jNv (jT jIO (dW E t sz sg la dk z g b cr ca cg ck rest)) := by
  refine jMet.intro' [(0, .ref dk), (1, .int (nI i)), (2, .int y)] (by decide) (Nat.le_of_ble_eq_true rfl) rfl ?_
  intro p e R s m args below meth c Q C hQ
  refine j_iload_n C dX3_isLike_0 rfl ?_
  refine j_callSv C (w := (dW E t sz sg la dk z g b cr ca cg ck rest)) (c_wantPaper_r l E A (by omega)) ok_X3_wantPaper w_816 (by decide) rfl rfl (Nat.le_of_ble_eq_true rfl) ⟨Nat.le_of_ble_eq_true rfl, Nat.le_of_ble_eq_true rfl⟩ dX3_isLike_1 ?_
  refine j_iload_n C dX3_isLike_4 rfl ?_
  refine j_callSx C (c_wantSeat_x l hl E A hby) ok_X3_wantSeat w_272 (by decide) rfl rfl (Nat.le_of_ble_eq_true rfl) ⟨Nat.le_of_ble_eq_true rfl, Nat.le_of_ble_eq_true rfl⟩ dX3_isLike_5 ?_
  exact j_xout C hQ ⟨Nat.le_of_ble_eq_true rfl, Nat.le_of_ble_eq_true rfl⟩ ⟨rfl, rfl⟩
set_option maxHeartbeats 4000000 in
set_option maxRecDepth 100000 in
theorem f_isLike_m1 (l : Launch) (hl : l.stackTraces = false) (E : jE) (A : Nat → Prop) {t sz sg la dk : Nat} {z g b : Nat → Int32} {cr ca cg ck : Int32} {rest : va_W} {i : Nat} (hi : i < 3) {j : Nat} (hj : j < 9) (hz : z i = -1)  : jMet l yX3_isLike cX3_isLike 3 (some .int) 5 1 6 E A [.ref dk, .int (nI i), .int (nI j)] (dW E t sz sg la dk z g b cr ca cg ck rest) jNv (jT jIS (dW E t sz sg la dk z g b cr ca cg ck rest)) := by
  refine jMet.intro' [(0, .ref dk), (1, .int (nI i)), (2, .int (nI j))] (by decide) (Nat.le_of_ble_eq_true rfl) rfl ?_
  intro p e R s m args below meth c Q C hQ
  refine j_iload_n C dX3_isLike_0 rfl ?_
  refine j_callSv C (w := (dW E t sz sg la dk z g b cr ca cg ck rest)) (c_wantPaper_r l E A (by omega)) ok_X3_wantPaper w_816 (by decide) rfl rfl (Nat.le_of_ble_eq_true rfl) ⟨Nat.le_of_ble_eq_true rfl, Nat.le_of_ble_eq_true rfl⟩ dX3_isLike_1 ?_
  refine j_iload_n C dX3_isLike_4 rfl ?_
  refine j_callSv C (w := (dW E t sz sg la dk z g b cr ca cg ck rest)) (c_wantSeat_r l E A (by omega)) ok_X3_wantSeat w_272 (by decide) rfl rfl (Nat.le_of_ble_eq_true rfl) ⟨Nat.le_of_ble_eq_true rfl, Nat.le_of_ble_eq_true rfl⟩ dX3_isLike_5 ?_
  refine j_aload_n C dX3_isLike_8 rfl ?_
  refine j_iload_n C dX3_isLike_9 rfl ?_
  refine j_callVx C 4 (c_wantThere_x l hl E A (by omega) hz) ok_X3_wantThere w_365 (by decide) rfl rfl (Nat.le_of_ble_eq_true rfl) rfl rfl ⟨Nat.le_of_ble_eq_true rfl, Nat.le_of_ble_eq_true rfl⟩ dX3_isLike_10 ?_
  exact j_xout C hQ ⟨Nat.le_of_ble_eq_true rfl, Nat.le_of_ble_eq_true rfl⟩ ⟨rfl, rfl⟩
set_option maxHeartbeats 4000000 in
set_option maxRecDepth 100000 in
theorem f_isLike_m2 (l : Launch) (E : jE) (A : Nat → Prop) {t sz sg la dk : Nat} {z g b : Nat → Int32} {cr ca cg ck : Int32} {rest : va_W} {i : Nat} (hi : i < 3) {j : Nat} (hj : j < 9) {n : Nat} (hn : n ≤ 24) (hz : z i = nI n) (hzj : z j = -1) : jMet l yX3_isLike cX3_isLike 3 (some .int) 5 0 0 E A [.ref dk, .int (nI i), .int (nI j)] (dW E t sz sg la dk z g b cr ca cg ck rest) (jR (some (.int (-9))) (dW E t sz sg la dk z g b (cr + nI 1) ca cg ck rest)) jNo := by
  refine jMet.intro' [(0, .ref dk), (1, .int (nI i)), (2, .int (nI j))] (by decide) (Nat.le_of_ble_eq_true rfl) rfl ?_
  intro p e R s m args below meth c Q C hQ
  refine j_iload_n C dX3_isLike_0 rfl ?_
  refine j_callSv C (w := (dW E t sz sg la dk z g b cr ca cg ck rest)) (c_wantPaper_r l E A (by omega)) ok_X3_wantPaper w_816 (by decide) rfl rfl (Nat.le_of_ble_eq_true rfl) ⟨Nat.le_of_ble_eq_true rfl, Nat.le_of_ble_eq_true rfl⟩ dX3_isLike_1 ?_
  refine j_iload_n C dX3_isLike_4 rfl ?_
  refine j_callSv C (w := (dW E t sz sg la dk z g b cr ca cg ck rest)) (c_wantSeat_r l E A (by omega)) ok_X3_wantSeat w_272 (by decide) rfl rfl (Nat.le_of_ble_eq_true rfl) ⟨Nat.le_of_ble_eq_true rfl, Nat.le_of_ble_eq_true rfl⟩ dX3_isLike_5 ?_
  refine j_aload_n C dX3_isLike_8 rfl ?_
  refine j_iload_n C dX3_isLike_9 rfl ?_
  refine j_callVv C 4 (w := (dW E t sz sg la dk z g b cr ca cg ck rest)) (c_wantThere_r l E A (by omega) hn hz) ok_X3_wantThere w_365 (by decide) rfl rfl (Nat.le_of_ble_eq_true rfl) rfl rfl ⟨Nat.le_of_ble_eq_true rfl, Nat.le_of_ble_eq_true rfl⟩ dX3_isLike_10 ?_
  refine j_aload_n C dX3_isLike_13 rfl ?_
  refine j_get C 4 rfl inj_X3 rfl 0 (by decide) w_73 rfl dX3_isLike_14 ?_
  refine j_iload_n C dX3_isLike_17 rfl ?_
  refine j_callVr C 0 (v := .int (bI (z j = -1))) (w := (dW E t sz sg la dk z g b cr ca cg ck rest)) (c_isAway l E A (by omega)) ok_X2_isAway w_369 (by decide) rfl rfl (Nat.le_of_ble_eq_true rfl) rfl rfl ⟨Nat.le_of_ble_eq_true rfl, Nat.le_of_ble_eq_true rfl⟩ dX3_isLike_18 ?_
  refine j_ifb_eq_f (tgt := 29) C dX3_isLike_21 (by decide) hzj ?_
  refine j_aload_n C dX3_isLike_24 rfl ?_
  refine j_callVr C 4 (v := .int (-9)) (w := (dW E t sz sg la dk z g b (cr + nI 1) ca cg ck rest)) (c_refuse l E A) ok_X3_refuse w_96 (by decide) rfl rfl (Nat.le_of_ble_eq_true rfl) rfl rfl ⟨Nat.le_of_ble_eq_true rfl, Nat.le_of_ble_eq_true rfl⟩ dX3_isLike_25 ?_
  exact j_iret C hQ rfl dX3_isLike_28 ⟨Nat.le_of_ble_eq_true rfl, Nat.le_of_ble_eq_true rfl⟩ ⟨rfl, rfl⟩
set_option maxHeartbeats 4000000 in
set_option maxRecDepth 100000 in
theorem f_isLike_k (l : Launch) (E : jE) (A : Nat → Prop) {t sz sg la dk : Nat} {z g b : Nat → Int32} {cr ca cg ck : Int32} {rest : va_W} {i : Nat} (hi : i < 3) {j : Nat} (hj : j < 9) (hT : ∀ i, i < 9 → txOk z g i) {n : Nat} (hn : n ≤ 24) (hz : z i = nI n) {o : Nat} (ho : o ≤ 24) (hzj : z j = nI o)  : jMet l yX3_isLike cX3_isLike 3 (some .int) 5 0 0 E A [.ref dk, .int (nI i), .int (nI j)] (dW E t sz sg la dk z g b cr ca cg ck rest) (jR (some (.int (samS z g i j))) (dW E t sz sg la dk z g b cr ca cg ck rest)) jNo := by
  refine jMet.intro' [(0, .ref dk), (1, .int (nI i)), (2, .int (nI j))] (by decide) (Nat.le_of_ble_eq_true rfl) rfl ?_
  intro p e R s m args below meth c Q C hQ
  refine j_iload_n C dX3_isLike_0 rfl ?_
  refine j_callSv C (w := (dW E t sz sg la dk z g b cr ca cg ck rest)) (c_wantPaper_r l E A (by omega)) ok_X3_wantPaper w_816 (by decide) rfl rfl (Nat.le_of_ble_eq_true rfl) ⟨Nat.le_of_ble_eq_true rfl, Nat.le_of_ble_eq_true rfl⟩ dX3_isLike_1 ?_
  refine j_iload_n C dX3_isLike_4 rfl ?_
  refine j_callSv C (w := (dW E t sz sg la dk z g b cr ca cg ck rest)) (c_wantSeat_r l E A (by omega)) ok_X3_wantSeat w_272 (by decide) rfl rfl (Nat.le_of_ble_eq_true rfl) ⟨Nat.le_of_ble_eq_true rfl, Nat.le_of_ble_eq_true rfl⟩ dX3_isLike_5 ?_
  refine j_aload_n C dX3_isLike_8 rfl ?_
  refine j_iload_n C dX3_isLike_9 rfl ?_
  refine j_callVv C 4 (w := (dW E t sz sg la dk z g b cr ca cg ck rest)) (c_wantThere_r l E A (by omega) hn hz) ok_X3_wantThere w_365 (by decide) rfl rfl (Nat.le_of_ble_eq_true rfl) rfl rfl ⟨Nat.le_of_ble_eq_true rfl, Nat.le_of_ble_eq_true rfl⟩ dX3_isLike_10 ?_
  refine j_aload_n C dX3_isLike_13 rfl ?_
  refine j_get C 4 rfl inj_X3 rfl 0 (by decide) w_73 rfl dX3_isLike_14 ?_
  refine j_iload_n C dX3_isLike_17 rfl ?_
  refine j_callVr C 0 (v := .int (bI (z j = -1))) (w := (dW E t sz sg la dk z g b cr ca cg ck rest)) (c_isAway l E A (by omega)) ok_X2_isAway w_369 (by decide) rfl rfl (Nat.le_of_ble_eq_true rfl) rfl rfl ⟨Nat.le_of_ble_eq_true rfl, Nat.le_of_ble_eq_true rfl⟩ dX3_isLike_18 ?_
  refine j_ifb_eq_t (tgt := 29) C dX3_isLike_21 (by decide) (by rw [hzj]; exact nI_ne_m (by omega)) ?_
  refine j_aload_n C dX3_isLike_29 rfl ?_
  refine j_get C 4 rfl inj_X3 rfl 0 (by decide) w_73 rfl dX3_isLike_30 ?_
  refine j_iload_n C dX3_isLike_33 rfl ?_
  refine j_iload_n C dX3_isLike_34 rfl ?_
  refine j_callVr C 0 (v := .int (samS z g i j)) (w := (dW E t sz sg la dk z g b cr ca cg ck rest)) (c_samS l E A (by omega) (by omega) hT) ok_X2_haveSameSigns w_820 (by decide) rfl rfl (Nat.le_of_ble_eq_true rfl) rfl rfl ⟨Nat.le_of_ble_eq_true rfl, Nat.le_of_ble_eq_true rfl⟩ dX3_isLike_35 ?_
  refine j_if_eq (tgt := 45) C dX3_isLike_38 (by decide) (fun h38 => ?_) (fun h38 => ?_)
  · skip
    refine j_iconst (v := (nI 0)) C dX3_isLike_45 rfl ?_
    exact j_iret C hQ rfl dX3_isLike_46 ⟨Nat.le_of_ble_eq_true rfl, Nat.le_of_ble_eq_true rfl⟩ ⟨by rw [h38]; rfl, rfl⟩
  · skip
    refine j_iconst (v := (nI 1)) C dX3_isLike_41 rfl ?_
    refine j_goto (tgt := 46) C dX3_isLike_42 (by decide) ?_
    exact j_iret C hQ rfl dX3_isLike_46 ⟨Nat.le_of_ble_eq_true rfl, Nat.le_of_ble_eq_true rfl⟩ ⟨by rw [(samS_b z g i j).resolve_right h38]; rfl, rfl⟩
set_option maxHeartbeats 4000000 in
set_option maxRecDepth 100000 in
theorem c_askOrder (l : Launch) (E : jE) (A : Nat → Prop) {t sz sg la dk : Nat} {z g b : Nat → Int32} {cr ca cg ck : Int32} {rest : va_W} {i : Nat} (hi : i < 9) {j : Nat} (hj : j < 9) {o : Nat} (ho : o < 4) (hT : ∀ i, i < 9 → txOk z g i)  : jMet l yX3_askOrder cX3_askOrder 4 (some .int) 4 0 0 E A [.ref dk, .int (nI i), .int (nI j), .int (nI o)] (dW E t sz sg la dk z g b cr ca cg ck rest) (jR (some (.int (ordV z g i j o))) (dW E t sz sg la dk z g b cr (askI z i j ca) cg ck rest)) jNo := by
  refine jMet.intro' [(0, .ref dk), (1, .int (nI i)), (2, .int (nI j)), (3, .int (nI o))] (by decide) (Nat.le_of_ble_eq_true rfl) rfl ?_
  intro p e R s m args below meth c Q C hQ
  refine j_iload_n C dX3_askOrder_0 rfl ?_
  refine j_iload_n C dX3_askOrder_1 rfl ?_
  refine j_icmpn_eq (tgt := 37) C dX3_askOrder_2 (by decide) (by omega) (by omega) (fun h2 => ?_) (fun h2 => ?_)
  · skip
    refine j_eq (ws' := (dW E t sz sg la dk z g b cr (askI z i j ca) cg ck rest)) rfl rfl (by rw [askI, if_neg (fun w => by simp_all)]) ?_
    refine j_aload_n C dX3_askOrder_37 rfl ?_
    refine j_get C 4 rfl inj_X3 rfl 0 (by decide) w_73 rfl dX3_askOrder_38 ?_
    refine j_iload_n C dX3_askOrder_41 rfl ?_
    refine j_iload_n C dX3_askOrder_42 rfl ?_
    refine j_iload_n C dX3_askOrder_43 rfl ?_
    refine j_callVr C 0 (v := .int (ordV z g i j o)) (w := (dW E t sz sg la dk z g b cr (askI z i j ca) cg ck rest)) (c_ordered l E A (by omega) (by omega) (by omega) hT) ok_X2_ordered w_243 (by decide) rfl rfl (Nat.le_of_ble_eq_true rfl) rfl rfl ⟨Nat.le_of_ble_eq_true rfl, Nat.le_of_ble_eq_true rfl⟩ dX3_askOrder_44 ?_
    exact j_iret C hQ rfl dX3_askOrder_47 ⟨Nat.le_of_ble_eq_true rfl, Nat.le_of_ble_eq_true rfl⟩ ⟨rfl, rfl⟩
  · skip
    refine j_aload_n C dX3_askOrder_5 rfl ?_
    refine j_get C 4 rfl inj_X3 rfl 0 (by decide) w_73 rfl dX3_askOrder_6 ?_
    refine j_iload_n C dX3_askOrder_9 rfl ?_
    refine j_callVr C 0 (v := .int (bI (z i = -1))) (w := (dW E t sz sg la dk z g b cr ca cg ck rest)) (c_isAway l E A (by omega)) ok_X2_isAway w_369 (by decide) rfl rfl (Nat.le_of_ble_eq_true rfl) rfl rfl ⟨Nat.le_of_ble_eq_true rfl, Nat.le_of_ble_eq_true rfl⟩ dX3_askOrder_10 ?_
    refine j_ifb_eq (tgt := 27) C dX3_askOrder_13 (by decide) (fun h13 => ?_) (fun h13 => ?_)
    · skip
      refine j_aload_n C dX3_askOrder_27 rfl ?_
      refine j_dup C dX3_askOrder_28 rfl ?_
      refine j_get C 4 rfl inj_X3 rfl 2 (by decide) w_75 rfl dX3_askOrder_29 ?_
      refine j_iconst (v := (nI 1)) C dX3_askOrder_32 rfl ?_
      refine j_iadd (z := (ca + (nI 1))) C dX3_askOrder_33 rfl ?_
      refine j_put (ws' := (dW E t sz sg la dk z g b cr (ca + (nI 1)) cg ck rest)) C 4 rfl inj_X3 tyX3 tyX3_ok nmX3 rfl 2 (by decide) w_75 rfl (tyX3_ok 2 (by decide)) rfl rfl (Nat.le_of_ble_eq_true rfl) dX3_askOrder_34 rfl ?_
      refine j_eq (ws' := (dW E t sz sg la dk z g b cr (askI z i j ca) cg ck rest)) rfl rfl (by rw [askI, if_pos ⟨h2, fun w => by simp_all⟩]) ?_
      refine j_aload_n C dX3_askOrder_37 rfl ?_
      refine j_get C 4 rfl inj_X3 rfl 0 (by decide) w_73 rfl dX3_askOrder_38 ?_
      refine j_iload_n C dX3_askOrder_41 rfl ?_
      refine j_iload_n C dX3_askOrder_42 rfl ?_
      refine j_iload_n C dX3_askOrder_43 rfl ?_
      refine j_callVr C 0 (v := .int (ordV z g i j o)) (w := (dW E t sz sg la dk z g b cr (askI z i j ca) cg ck rest)) (c_ordered l E A (by omega) (by omega) (by omega) hT) ok_X2_ordered w_243 (by decide) rfl rfl (Nat.le_of_ble_eq_true rfl) rfl rfl ⟨Nat.le_of_ble_eq_true rfl, Nat.le_of_ble_eq_true rfl⟩ dX3_askOrder_44 ?_
      exact j_iret C hQ rfl dX3_askOrder_47 ⟨Nat.le_of_ble_eq_true rfl, Nat.le_of_ble_eq_true rfl⟩ ⟨rfl, rfl⟩
    · skip
      refine j_aload_n C dX3_askOrder_16 rfl ?_
      refine j_get C 4 rfl inj_X3 rfl 0 (by decide) w_73 rfl dX3_askOrder_17 ?_
      refine j_iload_n C dX3_askOrder_20 rfl ?_
      refine j_callVr C 0 (v := .int (bI (z j = -1))) (w := (dW E t sz sg la dk z g b cr ca cg ck rest)) (c_isAway l E A (by omega)) ok_X2_isAway w_369 (by decide) rfl rfl (Nat.le_of_ble_eq_true rfl) rfl rfl ⟨Nat.le_of_ble_eq_true rfl, Nat.le_of_ble_eq_true rfl⟩ dX3_askOrder_21 ?_
      refine j_ifb_ne (tgt := 37) C dX3_askOrder_24 (by decide) (fun h24 => ?_) (fun h24 => ?_)
      · skip
        refine j_eq (ws' := (dW E t sz sg la dk z g b cr (askI z i j ca) cg ck rest)) rfl rfl (by rw [askI, if_neg (fun w => by simp_all)]) ?_
        refine j_aload_n C dX3_askOrder_37 rfl ?_
        refine j_get C 4 rfl inj_X3 rfl 0 (by decide) w_73 rfl dX3_askOrder_38 ?_
        refine j_iload_n C dX3_askOrder_41 rfl ?_
        refine j_iload_n C dX3_askOrder_42 rfl ?_
        refine j_iload_n C dX3_askOrder_43 rfl ?_
        refine j_callVr C 0 (v := .int (ordV z g i j o)) (w := (dW E t sz sg la dk z g b cr (askI z i j ca) cg ck rest)) (c_ordered l E A (by omega) (by omega) (by omega) hT) ok_X2_ordered w_243 (by decide) rfl rfl (Nat.le_of_ble_eq_true rfl) rfl rfl ⟨Nat.le_of_ble_eq_true rfl, Nat.le_of_ble_eq_true rfl⟩ dX3_askOrder_44 ?_
        exact j_iret C hQ rfl dX3_askOrder_47 ⟨Nat.le_of_ble_eq_true rfl, Nat.le_of_ble_eq_true rfl⟩ ⟨rfl, rfl⟩
      · skip
        refine j_aload_n C dX3_askOrder_27 rfl ?_
        refine j_dup C dX3_askOrder_28 rfl ?_
        refine j_get C 4 rfl inj_X3 rfl 2 (by decide) w_75 rfl dX3_askOrder_29 ?_
        refine j_iconst (v := (nI 1)) C dX3_askOrder_32 rfl ?_
        refine j_iadd (z := (ca + (nI 1))) C dX3_askOrder_33 rfl ?_
        refine j_put (ws' := (dW E t sz sg la dk z g b cr (ca + (nI 1)) cg ck rest)) C 4 rfl inj_X3 tyX3 tyX3_ok nmX3 rfl 2 (by decide) w_75 rfl (tyX3_ok 2 (by decide)) rfl rfl (Nat.le_of_ble_eq_true rfl) dX3_askOrder_34 rfl ?_
        refine j_eq (ws' := (dW E t sz sg la dk z g b cr (askI z i j ca) cg ck rest)) rfl rfl (by rw [askI, if_pos ⟨h2, fun w => by simp_all⟩]) ?_
        refine j_aload_n C dX3_askOrder_37 rfl ?_
        refine j_get C 4 rfl inj_X3 rfl 0 (by decide) w_73 rfl dX3_askOrder_38 ?_
        refine j_iload_n C dX3_askOrder_41 rfl ?_
        refine j_iload_n C dX3_askOrder_42 rfl ?_
        refine j_iload_n C dX3_askOrder_43 rfl ?_
        refine j_callVr C 0 (v := .int (ordV z g i j o)) (w := (dW E t sz sg la dk z g b cr (askI z i j ca) cg ck rest)) (c_ordered l E A (by omega) (by omega) (by omega) hT) ok_X2_ordered w_243 (by decide) rfl rfl (Nat.le_of_ble_eq_true rfl) rfl rfl ⟨Nat.le_of_ble_eq_true rfl, Nat.le_of_ble_eq_true rfl⟩ dX3_askOrder_44 ?_
        exact j_iret C hQ rfl dX3_askOrder_47 ⟨Nat.le_of_ble_eq_true rfl, Nat.le_of_ble_eq_true rfl⟩ ⟨rfl, rfl⟩
set_option maxHeartbeats 4000000 in
set_option maxRecDepth 100000 in
theorem f_order_b1 (l : Launch) (hl : l.stackTraces = false) (E : jE) (A : Nat → Prop) {t sz sg la dk : Nat} {z g b : Nat → Int32} {cr ca cg ck : Int32} {rest : va_W} {x y w : Int32} (hbx : x < 0 ∨ nI 9 ≤ x) : jMet l yX3_order cX3_order 4 (some .int) 5 1 6 E A [.ref dk, .int x, .int y, .int w] (dW E t sz sg la dk z g b cr ca cg ck rest) jNv (jT jIO (dW E t sz sg la dk z g b cr ca cg ck rest)) := by
  refine jMet.intro' [(0, .ref dk), (1, .int x), (2, .int y), (3, .int w)] (by decide) (Nat.le_of_ble_eq_true rfl) rfl ?_
  intro p e R s m args below meth c Q C hQ
  refine j_iload_n C dX3_order_0 rfl ?_
  refine j_callSx C (c_wantSeat_x l hl E A hbx) ok_X3_wantSeat w_272 (by decide) rfl rfl (Nat.le_of_ble_eq_true rfl) ⟨Nat.le_of_ble_eq_true rfl, Nat.le_of_ble_eq_true rfl⟩ dX3_order_1 ?_
  exact j_xout C hQ ⟨Nat.le_of_ble_eq_true rfl, Nat.le_of_ble_eq_true rfl⟩ ⟨rfl, rfl⟩
set_option maxHeartbeats 4000000 in
set_option maxRecDepth 100000 in
theorem f_order_b2 (l : Launch) (hl : l.stackTraces = false) (E : jE) (A : Nat → Prop) {t sz sg la dk : Nat} {z g b : Nat → Int32} {cr ca cg ck : Int32} {rest : va_W} {i : Nat} (hi : i < 9) {y w : Int32} (hby : y < 0 ∨ nI 9 ≤ y) : jMet l yX3_order cX3_order 4 (some .int) 5 1 6 E A [.ref dk, .int (nI i), .int y, .int w] (dW E t sz sg la dk z g b cr ca cg ck rest) jNv (jT jIO (dW E t sz sg la dk z g b cr ca cg ck rest)) := by
  refine jMet.intro' [(0, .ref dk), (1, .int (nI i)), (2, .int y), (3, .int w)] (by decide) (Nat.le_of_ble_eq_true rfl) rfl ?_
  intro p e R s m args below meth c Q C hQ
  refine j_iload_n C dX3_order_0 rfl ?_
  refine j_callSv C (w := (dW E t sz sg la dk z g b cr ca cg ck rest)) (c_wantSeat_r l E A (by omega)) ok_X3_wantSeat w_272 (by decide) rfl rfl (Nat.le_of_ble_eq_true rfl) ⟨Nat.le_of_ble_eq_true rfl, Nat.le_of_ble_eq_true rfl⟩ dX3_order_1 ?_
  refine j_iload_n C dX3_order_4 rfl ?_
  refine j_callSx C (c_wantSeat_x l hl E A hby) ok_X3_wantSeat w_272 (by decide) rfl rfl (Nat.le_of_ble_eq_true rfl) ⟨Nat.le_of_ble_eq_true rfl, Nat.le_of_ble_eq_true rfl⟩ dX3_order_5 ?_
  exact j_xout C hQ ⟨Nat.le_of_ble_eq_true rfl, Nat.le_of_ble_eq_true rfl⟩ ⟨rfl, rfl⟩
set_option maxHeartbeats 4000000 in
set_option maxRecDepth 100000 in
theorem f_order_a (l : Launch) (hl : l.stackTraces = false) (E : jE) (A : Nat → Prop) {t sz sg la dk : Nat} {z g b : Nat → Int32} {cr ca cg ck : Int32} {rest : va_W} {i : Nat} (hi : i < 9) {j : Nat} (hj : j < 9) {w : Int32} (hbw : w < 0 ∨ nI 3 < w) : jMet l yX3_order cX3_order 4 (some .int) 5 1 6 E A [.ref dk, .int (nI i), .int (nI j), .int w] (dW E t sz sg la dk z g b cr ca cg ck rest) jNv (jT jIA (dW E t sz sg la dk z g b cr ca cg ck rest)) := by
  refine jMet.intro' [(0, .ref dk), (1, .int (nI i)), (2, .int (nI j)), (3, .int w)] (by decide) (Nat.le_of_ble_eq_true rfl) rfl ?_
  intro p e R s m args below meth c Q C hQ
  refine j_iload_n C dX3_order_0 rfl ?_
  refine j_callSv C (w := (dW E t sz sg la dk z g b cr ca cg ck rest)) (c_wantSeat_r l E A (by omega)) ok_X3_wantSeat w_272 (by decide) rfl rfl (Nat.le_of_ble_eq_true rfl) ⟨Nat.le_of_ble_eq_true rfl, Nat.le_of_ble_eq_true rfl⟩ dX3_order_1 ?_
  refine j_iload_n C dX3_order_4 rfl ?_
  refine j_callSv C (w := (dW E t sz sg la dk z g b cr ca cg ck rest)) (c_wantSeat_r l E A (by omega)) ok_X3_wantSeat w_272 (by decide) rfl rfl (Nat.le_of_ble_eq_true rfl) ⟨Nat.le_of_ble_eq_true rfl, Nat.le_of_ble_eq_true rfl⟩ dX3_order_5 ?_
  refine j_iload_n C dX3_order_8 rfl ?_
  refine j_iconst (v := (nI 3)) C dX3_order_9 rfl ?_
  refine j_callSx C (c_wantUpTo_x l hl E A hbw) ok_X3_wantUpTo w_406 (by decide) rfl rfl (Nat.le_of_ble_eq_true rfl) ⟨Nat.le_of_ble_eq_true rfl, Nat.le_of_ble_eq_true rfl⟩ dX3_order_10 ?_
  exact j_xout C hQ ⟨Nat.le_of_ble_eq_true rfl, Nat.le_of_ble_eq_true rfl⟩ ⟨rfl, rfl⟩
set_option maxHeartbeats 4000000 in
set_option maxRecDepth 100000 in
theorem f_order_k (l : Launch) (E : jE) (A : Nat → Prop) {t sz sg la dk : Nat} {z g b : Nat → Int32} {cr ca cg ck : Int32} {rest : va_W} {i : Nat} (hi : i < 9) {j : Nat} (hj : j < 9) {o : Nat} (ho : o ≤ 3) (hT : ∀ i, i < 9 → txOk z g i)  : jMet l yX3_order cX3_order 4 (some .int) 5 0 0 E A [.ref dk, .int (nI i), .int (nI j), .int (nI o)] (dW E t sz sg la dk z g b cr ca cg ck rest) (jR (some (.int (ordV z g i j o))) (dW E t sz sg la dk z g b cr (askI z i j ca) cg ck rest)) jNo := by
  refine jMet.intro' [(0, .ref dk), (1, .int (nI i)), (2, .int (nI j)), (3, .int (nI o))] (by decide) (Nat.le_of_ble_eq_true rfl) rfl ?_
  intro p e R s m args below meth c Q C hQ
  refine j_iload_n C dX3_order_0 rfl ?_
  refine j_callSv C (w := (dW E t sz sg la dk z g b cr ca cg ck rest)) (c_wantSeat_r l E A (by omega)) ok_X3_wantSeat w_272 (by decide) rfl rfl (Nat.le_of_ble_eq_true rfl) ⟨Nat.le_of_ble_eq_true rfl, Nat.le_of_ble_eq_true rfl⟩ dX3_order_1 ?_
  refine j_iload_n C dX3_order_4 rfl ?_
  refine j_callSv C (w := (dW E t sz sg la dk z g b cr ca cg ck rest)) (c_wantSeat_r l E A (by omega)) ok_X3_wantSeat w_272 (by decide) rfl rfl (Nat.le_of_ble_eq_true rfl) ⟨Nat.le_of_ble_eq_true rfl, Nat.le_of_ble_eq_true rfl⟩ dX3_order_5 ?_
  refine j_iload_n C dX3_order_8 rfl ?_
  refine j_iconst (v := (nI 3)) C dX3_order_9 rfl ?_
  refine j_callSv C (w := (dW E t sz sg la dk z g b cr ca cg ck rest)) (c_wantUpTo_r l E A (by omega) (by omega)) ok_X3_wantUpTo w_406 (by decide) rfl rfl (Nat.le_of_ble_eq_true rfl) ⟨Nat.le_of_ble_eq_true rfl, Nat.le_of_ble_eq_true rfl⟩ dX3_order_10 ?_
  refine j_aload_n C dX3_order_13 rfl ?_
  refine j_iload_n C dX3_order_14 rfl ?_
  refine j_iload_n C dX3_order_15 rfl ?_
  refine j_iload_n C dX3_order_16 rfl ?_
  refine j_callVr C 4 (v := .int (ordV z g i j o)) (w := (dW E t sz sg la dk z g b cr (askI z i j ca) cg ck rest)) (c_askOrder l E A (by omega) (by omega) (by omega) hT) ok_X3_askOrder w_828 (by decide) rfl rfl (Nat.le_of_ble_eq_true rfl) rfl rfl ⟨Nat.le_of_ble_eq_true rfl, Nat.le_of_ble_eq_true rfl⟩ dX3_order_17 ?_
  exact j_iret C hQ rfl dX3_order_20 ⟨Nat.le_of_ble_eq_true rfl, Nat.le_of_ble_eq_true rfl⟩ ⟨rfl, rfl⟩
set_option maxHeartbeats 4000000 in
set_option maxRecDepth 100000 in
theorem f_ahead_b (l : Launch) (hl : l.stackTraces = false) (E : jE) (A : Nat → Prop) {t sz sg la dk : Nat} {z g b : Nat → Int32} {cr ca cg ck : Int32} {rest : va_W} {x w : Int32} (hbx : x < 0 ∨ nI 9 ≤ x) : jMet l yX3_ahead cX3_ahead 5 (some .int) 5 1 6 E A [.ref dk, .int x, .int w] (dW E t sz sg la dk z g b cr ca cg ck rest) jNv (jT jIO (dW E t sz sg la dk z g b cr ca cg ck rest)) := by
  refine jMet.intro' [(0, .ref dk), (1, .int x), (2, .int w)] (by decide) (Nat.le_of_ble_eq_true rfl) rfl ?_
  intro p e R s m args below meth c Q C hQ
  refine j_iload_n C dX3_ahead_0 rfl ?_
  refine j_callSx C (c_wantSeat_x l hl E A hbx) ok_X3_wantSeat w_272 (by decide) rfl rfl (Nat.le_of_ble_eq_true rfl) ⟨Nat.le_of_ble_eq_true rfl, Nat.le_of_ble_eq_true rfl⟩ dX3_ahead_1 ?_
  exact j_xout C hQ ⟨Nat.le_of_ble_eq_true rfl, Nat.le_of_ble_eq_true rfl⟩ ⟨rfl, rfl⟩
set_option maxHeartbeats 4000000 in
set_option maxRecDepth 100000 in
theorem f_ahead_a (l : Launch) (hl : l.stackTraces = false) (E : jE) (A : Nat → Prop) {t sz sg la dk : Nat} {z g b : Nat → Int32} {cr ca cg ck : Int32} {rest : va_W} {i : Nat} (hi : i < 9) {w : Int32} (hbw : w < 0 ∨ nI 3 < w) : jMet l yX3_ahead cX3_ahead 5 (some .int) 5 1 6 E A [.ref dk, .int (nI i), .int w] (dW E t sz sg la dk z g b cr ca cg ck rest) jNv (jT jIA (dW E t sz sg la dk z g b cr ca cg ck rest)) := by
  refine jMet.intro' [(0, .ref dk), (1, .int (nI i)), (2, .int w)] (by decide) (Nat.le_of_ble_eq_true rfl) rfl ?_
  intro p e R s m args below meth c Q C hQ
  refine j_iload_n C dX3_ahead_0 rfl ?_
  refine j_callSv C (w := (dW E t sz sg la dk z g b cr ca cg ck rest)) (c_wantSeat_r l E A (by omega)) ok_X3_wantSeat w_272 (by decide) rfl rfl (Nat.le_of_ble_eq_true rfl) ⟨Nat.le_of_ble_eq_true rfl, Nat.le_of_ble_eq_true rfl⟩ dX3_ahead_1 ?_
  refine j_iload_n C dX3_ahead_4 rfl ?_
  refine j_iconst (v := (nI 3)) C dX3_ahead_5 rfl ?_
  refine j_callSx C (c_wantUpTo_x l hl E A hbw) ok_X3_wantUpTo w_406 (by decide) rfl rfl (Nat.le_of_ble_eq_true rfl) ⟨Nat.le_of_ble_eq_true rfl, Nat.le_of_ble_eq_true rfl⟩ dX3_ahead_6 ?_
  exact j_xout C hQ ⟨Nat.le_of_ble_eq_true rfl, Nat.le_of_ble_eq_true rfl⟩ ⟨rfl, rfl⟩
set_option maxHeartbeats 4000000 in
set_option maxRecDepth 100000 in
theorem f_ahead_k (l : Launch) (E : jE) (A : Nat → Prop) {t sz sg la dk : Nat} {z g b : Nat → Int32} {cr ca cg ck : Int32} {rest : va_W} {i : Nat} (hi : i < 9) {o : Nat} (ho : o ≤ 3) (hT : ∀ i, i < 9 → txOk z g i)  : jMet l yX3_ahead cX3_ahead 5 (some .int) 5 0 0 E A [.ref dk, .int (nI i), .int (nI o)] (dW E t sz sg la dk z g b cr ca cg ck rest) (jR (some (.int (nI (ahdF z g i o 9)))) (dW E t sz sg la dk z g b cr (askF z i ca 9) cg ck rest)) jNo := by
  refine jMet.intro' [(0, .ref dk), (1, .int (nI i)), (2, .int (nI o))] (by decide) (Nat.le_of_ble_eq_true rfl) rfl ?_
  intro p e R s m args below meth c Q C hQ
  refine j_iload_n C dX3_ahead_0 rfl ?_
  refine j_callSv C (w := (dW E t sz sg la dk z g b cr ca cg ck rest)) (c_wantSeat_r l E A (by omega)) ok_X3_wantSeat w_272 (by decide) rfl rfl (Nat.le_of_ble_eq_true rfl) ⟨Nat.le_of_ble_eq_true rfl, Nat.le_of_ble_eq_true rfl⟩ dX3_ahead_1 ?_
  refine j_iload_n C dX3_ahead_4 rfl ?_
  refine j_iconst (v := (nI 3)) C dX3_ahead_5 rfl ?_
  refine j_callSv C (w := (dW E t sz sg la dk z g b cr ca cg ck rest)) (c_wantUpTo_r l E A (by omega) (by omega)) ok_X3_wantUpTo w_406 (by decide) rfl rfl (Nat.le_of_ble_eq_true rfl) ⟨Nat.le_of_ble_eq_true rfl, Nat.le_of_ble_eq_true rfl⟩ dX3_ahead_6 ?_
  refine j_iconst (v := (nI 0)) C dX3_ahead_9 rfl ?_
  refine j_istore_n (lv' := [(3, .int (nI 0)), (0, .ref dk), (1, .int (nI i)), (2, .int (nI o))]) C dX3_ahead_10 (by decide) rfl ?_
  refine j_iconst (v := (nI 0)) C dX3_ahead_11 rfl ?_
  refine j_istore (lv' := [(4, .int (nI 0)), (3, .int (nI 0)), (0, .ref dk), (1, .int (nI i)), (2, .int (nI o))]) C dX3_ahead_12 (by decide) rfl ?_
  have L14 : ∀ (r k : Nat), k + r = 9 → jJ p l e R s m args below meth c E A 5 Q 0 0 14 [(4, .int (nI k)), (3, .int (nI (ahdF z g i o k))), (0, .ref dk), (1, .int (nI i)), (2, .int (nI o))] [] (dW E t sz sg la dk z g b cr (askF z i ca k) cg ck rest) := by
    intro r
    induction r with
    | zero =>
      intro k  hk14 
      refine j_iload C dX3_ahead_14 rfl ?_
      refine j_bipush (v := (nI 9)) C dX3_ahead_16 rfl ?_
      refine j_icmpn_ge_t (tgt := 41) C dX3_ahead_18 (by decide) (by omega) (by omega) (by omega) ?_
      have ek : 9 = k := by omega
      subst ek
      refine j_iload_n C dX3_ahead_41 rfl ?_
      exact j_iret C hQ rfl dX3_ahead_42 ⟨Nat.le_of_ble_eq_true rfl, Nat.le_of_ble_eq_true rfl⟩ ⟨rfl, rfl⟩
    | succ r ih14 =>
      intro k  hk14 
      refine j_iload C dX3_ahead_14 rfl ?_
      refine j_bipush (v := (nI 9)) C dX3_ahead_16 rfl ?_
      refine j_icmpn_ge_f (tgt := 41) C dX3_ahead_18 (by decide) (by omega) (by omega) (by omega) ?_
      refine j_aload_n C dX3_ahead_21 rfl ?_
      refine j_iload C dX3_ahead_22 rfl ?_
      refine j_iload_n C dX3_ahead_24 rfl ?_
      refine j_iload_n C dX3_ahead_25 rfl ?_
      refine j_callVr C 4 (v := .int (ordV z g k i o)) (w := (dW E t sz sg la dk z g b cr (askI z k i (askF z i ca k)) cg ck rest)) (c_askOrder l E A (by omega) (by omega) (by omega) hT) ok_X3_askOrder w_828 (by decide) rfl rfl (Nat.le_of_ble_eq_true rfl) rfl rfl ⟨Nat.le_of_ble_eq_true rfl, Nat.le_of_ble_eq_true rfl⟩ dX3_ahead_26 ?_
      refine j_if_ge (tgt := 35) C dX3_ahead_29 (by decide) (fun h29 => ?_) (fun h29 => ?_)
      · skip
        refine j_iinc (lv' := [(4, .int (nI (k + 1))), (3, .int (nI (ahdF z g i o k))), (0, .ref dk), (1, .int (nI i)), (2, .int (nI o))]) C dX3_ahead_35 rfl (nI_1 _) (by decide) rfl ?_
        refine j_goto (tgt := 14) C dX3_ahead_38 (by decide) ?_
        refine j_eq (lv' := [(4, .int (nI (k + 1))), (3, .int (nI (ahdF z g i o (k + 1)))), (0, .ref dk), (1, .int (nI i)), (2, .int (nI o))]) (by rw [ahdF_n (Int32.not_lt.mpr h29)]) rfl rfl ?_
        refine j_eq (ws' := (dW E t sz sg la dk z g b cr (askF z i ca (k + 1)) cg ck rest)) rfl rfl rfl ?_
        refine j_lv (lv' := [(4, .int (nI (k + 1))), (3, .int (nI (ahdF z g i o (k + 1)))), (0, .ref dk), (1, .int (nI i)), (2, .int (nI o))]) (by simp only [List.mem_cons, List.not_mem_nil, or_false, forall_eq_or_imp, forall_eq, true_or, or_true, and_self, Nat.add_zero]) ?_
        exact ih14 (k + 1) (by omega)
      · skip
        refine j_iinc (lv' := [(3, .int (nI (ahdF z g i o k + 1))), (4, .int (nI k)), (0, .ref dk), (1, .int (nI i)), (2, .int (nI o))]) C dX3_ahead_32 rfl (nI_1 _) (by decide) rfl ?_
        refine j_iinc (lv' := [(4, .int (nI (k + 1))), (3, .int (nI (ahdF z g i o k + 1))), (0, .ref dk), (1, .int (nI i)), (2, .int (nI o))]) C dX3_ahead_35 rfl (nI_1 _) (by decide) rfl ?_
        refine j_goto (tgt := 14) C dX3_ahead_38 (by decide) ?_
        refine j_eq (lv' := [(4, .int (nI (k + 1))), (3, .int (nI (ahdF z g i o (k + 1)))), (0, .ref dk), (1, .int (nI i)), (2, .int (nI o))]) (by rw [ahdF_y (Int32.not_le.mp h29)]) rfl rfl ?_
        refine j_eq (ws' := (dW E t sz sg la dk z g b cr (askF z i ca (k + 1)) cg ck rest)) rfl rfl rfl ?_
        refine j_lv (lv' := [(4, .int (nI (k + 1))), (3, .int (nI (ahdF z g i o (k + 1)))), (0, .ref dk), (1, .int (nI i)), (2, .int (nI o))]) (by simp only [List.mem_cons, List.not_mem_nil, or_false, forall_eq_or_imp, forall_eq, true_or, or_true, and_self, Nat.add_zero]) ?_
        exact ih14 (k + 1) (by omega)
  refine j_eq (lv' := [(4, .int (nI 0)), (3, .int (nI (ahdF z g i o 0))), (0, .ref dk), (1, .int (nI i)), (2, .int (nI o))]) rfl rfl rfl ?_
  refine j_eq (ws' := (dW E t sz sg la dk z g b cr (askF z i ca 0) cg ck rest)) rfl rfl rfl ?_
  refine j_lv (lv' := [(4, .int (nI 0)), (3, .int (nI (ahdF z g i o 0))), (0, .ref dk), (1, .int (nI i)), (2, .int (nI o))]) (by simp only [List.mem_cons, List.not_mem_nil, or_false, forall_eq_or_imp, forall_eq, true_or, or_true, and_self, Nat.add_zero]) ?_
  exact L14 9 0 (by omega)
