/-! contracts, laid by program (wip/gen) -/
abbrev dW (E : jE) (t sz sg la dk : Nat) (z g b : Nat → Int32) (cr ca cg ck : Int32) (rest : va_W) : va_W := tW E t sz sg la z g b ((dk, .inr (3, [.ref t, .int cr, .int ca, .int cg, .int ck])) :: rest)
theorem seat_cases (x : Int32) (n : Nat) (hn : n < 2 ^ 31) : (∃ i : Nat, i < n ∧ x = nI i) ∨ (x < 0 ∨ nI n ≤ x) := by
  rcases pk_ix x hn with h | h | ⟨j, h1, h2⟩
  · exact Or.inr (Or.inl h)
  · exact Or.inr (Or.inr h)
  · exact Or.inl ⟨j, h1, h2⟩
theorem upto_cases (x : Int32) (n : Nat) (hn : n + 1 < 2 ^ 31) : (∃ i : Nat, i ≤ n ∧ x = nI i) ∨ (x < 0 ∨ nI n < x) := by
  by_cases h : x < 0
  · exact Or.inr (Or.inl h)
  · obtain ⟨j, hj, rfl⟩ := nI_of h
    by_cases h2 : j ≤ n
    · exact Or.inl ⟨j, h2, rfl⟩
    · exact Or.inr (Or.inr ((nI_ltI (by omega) hj).mpr (by omega)))
theorem sn_cases (x : Int32) : x = -1 ∨ (∃ i : Nat, i < 10 ∧ x = nI i) ∨ (¬ x = -1 ∧ (x < 0 ∨ nI 10 ≤ x)) := by
  by_cases h : x = -1
  · exact Or.inl h
  · rcases seat_cases x 10 (by decide) with q | q
    · exact Or.inr (Or.inl q)
    · exact Or.inr (Or.inr ⟨h, q⟩)
set_option maxHeartbeats 4000000 in
set_option maxRecDepth 100000 in
theorem c_wantSeat_r (l : Launch) (E : jE) (A : Nat → Prop) {ws : va_W} {i : Nat} (hi : i < 9) : jMet l yX3_wantSeat cX3_wantSeat 1 (none : Option Jvm.ClassFile.FieldType) 1 0 0 E A [.int (nI i)] ws (jR none ws) jNo := by
  refine jMet.intro' [(0, .int (nI i))] (by decide) (Nat.le_of_ble_eq_true rfl) rfl ?_
  intro p e R s m args below meth c Q C hQ
  refine j_iload_n C dX3_wantSeat_0 rfl ?_
  refine j_ifn_lt_f (tgt := 10) C dX3_wantSeat_1 (by decide) (by omega) (by omega) ?_
  refine j_iload_n C dX3_wantSeat_4 rfl ?_
  refine j_bipush (v := (nI 9)) C dX3_wantSeat_5 rfl ?_
  refine j_icmpn_lt_t (tgt := 20) C dX3_wantSeat_7 (by decide) (by omega) (by omega) (by omega) ?_
  exact j_vret C hQ rfl dX3_wantSeat_20 ⟨Nat.le_of_ble_eq_true rfl, Nat.le_of_ble_eq_true rfl⟩ ⟨rfl, rfl⟩
set_option maxHeartbeats 4000000 in
set_option maxRecDepth 100000 in
theorem c_wantSeat_x (l : Launch) (hl : l.stackTraces = false) (E : jE) (A : Nat → Prop) {ws : va_W} {x : Int32} (h : x < 0 ∨ nI 9 ≤ x) : jMet l yX3_wantSeat cX3_wantSeat 1 (none : Option Jvm.ClassFile.FieldType) 1 1 6 E A [.int x] ws jNv (jT jIO ws) := by
  refine jMet.intro' [(0, .int x)] (by decide) (Nat.le_of_ble_eq_true rfl) rfl ?_
  intro p e R s m args below meth c Q C hQ
  refine j_iload_n C dX3_wantSeat_0 rfl ?_
  refine j_if_lt (tgt := 10) C dX3_wantSeat_1 (by decide) (fun h1 => ?_) (fun h1 => ?_)
  · skip
    exact j_throwS hl C hQ jxin_X3_180 jxbad_X3_180 jxc_jIO (by decide) jxgood_X3_176_180 w_275 w_32 jS_X3_178 dX3_wantSeat_10 dX3_wantSeat_13 dX3_wantSeat_14 dX3_wantSeat_16 dX3_wantSeat_19 (Nat.le_of_ble_eq_true rfl) ⟨Nat.le_of_ble_eq_true rfl, Nat.le_of_ble_eq_true rfl⟩ ⟨rfl, rfl⟩
  · skip
    refine j_iload_n C dX3_wantSeat_4 rfl ?_
    refine j_bipush (v := (nI 9)) C dX3_wantSeat_5 rfl ?_
    refine j_icmp_lt (tgt := 20) C dX3_wantSeat_7 (by decide) (fun h7 => ?_) (fun h7 => ?_)
    · skip
      exact absurd h7 (Int32.not_lt.mpr (h.resolve_left h1))
    · skip
      exact j_throwS hl C hQ jxin_X3_180 jxbad_X3_180 jxc_jIO (by decide) jxgood_X3_176_180 w_275 w_32 jS_X3_178 dX3_wantSeat_10 dX3_wantSeat_13 dX3_wantSeat_14 dX3_wantSeat_16 dX3_wantSeat_19 (Nat.le_of_ble_eq_true rfl) ⟨Nat.le_of_ble_eq_true rfl, Nat.le_of_ble_eq_true rfl⟩ ⟨rfl, rfl⟩
set_option maxHeartbeats 4000000 in
set_option maxRecDepth 100000 in
theorem c_wantPaper_r (l : Launch) (E : jE) (A : Nat → Prop) {ws : va_W} {i : Nat} (hi : i < 3) : jMet l yX3_wantPaper cX3_wantPaper 1 (none : Option Jvm.ClassFile.FieldType) 1 0 0 E A [.int (nI i)] ws (jR none ws) jNo := by
  refine jMet.intro' [(0, .int (nI i))] (by decide) (Nat.le_of_ble_eq_true rfl) rfl ?_
  intro p e R s m args below meth c Q C hQ
  refine j_iload_n C dX3_wantPaper_0 rfl ?_
  refine j_ifn_lt_f (tgt := 9) C dX3_wantPaper_1 (by decide) (by omega) (by omega) ?_
  refine j_iload_n C dX3_wantPaper_4 rfl ?_
  refine j_iconst (v := (nI 3)) C dX3_wantPaper_5 rfl ?_
  refine j_icmpn_lt_t (tgt := 19) C dX3_wantPaper_6 (by decide) (by omega) (by omega) (by omega) ?_
  exact j_vret C hQ rfl dX3_wantPaper_19 ⟨Nat.le_of_ble_eq_true rfl, Nat.le_of_ble_eq_true rfl⟩ ⟨rfl, rfl⟩
set_option maxHeartbeats 4000000 in
set_option maxRecDepth 100000 in
theorem c_wantPaper_x (l : Launch) (hl : l.stackTraces = false) (E : jE) (A : Nat → Prop) {ws : va_W} {x : Int32} (h : x < 0 ∨ nI 3 ≤ x) : jMet l yX3_wantPaper cX3_wantPaper 1 (none : Option Jvm.ClassFile.FieldType) 1 1 6 E A [.int x] ws jNv (jT jIO ws) := by
  refine jMet.intro' [(0, .int x)] (by decide) (Nat.le_of_ble_eq_true rfl) rfl ?_
  intro p e R s m args below meth c Q C hQ
  refine j_iload_n C dX3_wantPaper_0 rfl ?_
  refine j_if_lt (tgt := 9) C dX3_wantPaper_1 (by decide) (fun h1 => ?_) (fun h1 => ?_)
  · skip
    exact j_throwS hl C hQ jxin_X3_180 jxbad_X3_180 jxc_jIO (by decide) jxgood_X3_176_180 w_275 w_32 jS_X3_183 dX3_wantPaper_9 dX3_wantPaper_12 dX3_wantPaper_13 dX3_wantPaper_15 dX3_wantPaper_18 (Nat.le_of_ble_eq_true rfl) ⟨Nat.le_of_ble_eq_true rfl, Nat.le_of_ble_eq_true rfl⟩ ⟨rfl, rfl⟩
  · skip
    refine j_iload_n C dX3_wantPaper_4 rfl ?_
    refine j_iconst (v := (nI 3)) C dX3_wantPaper_5 rfl ?_
    refine j_icmp_lt (tgt := 19) C dX3_wantPaper_6 (by decide) (fun h6 => ?_) (fun h6 => ?_)
    · skip
      exact absurd h6 (Int32.not_lt.mpr (h.resolve_left h1))
    · skip
      exact j_throwS hl C hQ jxin_X3_180 jxbad_X3_180 jxc_jIO (by decide) jxgood_X3_176_180 w_275 w_32 jS_X3_183 dX3_wantPaper_9 dX3_wantPaper_12 dX3_wantPaper_13 dX3_wantPaper_15 dX3_wantPaper_18 (Nat.le_of_ble_eq_true rfl) ⟨Nat.le_of_ble_eq_true rfl, Nat.le_of_ble_eq_true rfl⟩ ⟨rfl, rfl⟩
set_option maxHeartbeats 4000000 in
set_option maxRecDepth 100000 in
theorem c_wantSign_r (l : Launch) (E : jE) (A : Nat → Prop) {ws : va_W} {i : Nat} (hi : i < 10) : jMet l yX3_wantSign cX3_wantSign 1 (none : Option Jvm.ClassFile.FieldType) 1 0 0 E A [.int (nI i)] ws (jR none ws) jNo := by
  refine jMet.intro' [(0, .int (nI i))] (by decide) (Nat.le_of_ble_eq_true rfl) rfl ?_
  intro p e R s m args below meth c Q C hQ
  refine j_iload_n C dX3_wantSign_0 rfl ?_
  refine j_ifn_lt_f (tgt := 10) C dX3_wantSign_1 (by decide) (by omega) (by omega) ?_
  refine j_iload_n C dX3_wantSign_4 rfl ?_
  refine j_bipush (v := (nI 10)) C dX3_wantSign_5 rfl ?_
  refine j_icmpn_lt_t (tgt := 20) C dX3_wantSign_7 (by decide) (by omega) (by omega) (by omega) ?_
  exact j_vret C hQ rfl dX3_wantSign_20 ⟨Nat.le_of_ble_eq_true rfl, Nat.le_of_ble_eq_true rfl⟩ ⟨rfl, rfl⟩
set_option maxHeartbeats 4000000 in
set_option maxRecDepth 100000 in
theorem c_wantSign_x (l : Launch) (hl : l.stackTraces = false) (E : jE) (A : Nat → Prop) {ws : va_W} {x : Int32} (h : x < 0 ∨ nI 10 ≤ x) : jMet l yX3_wantSign cX3_wantSign 1 (none : Option Jvm.ClassFile.FieldType) 1 1 6 E A [.int x] ws jNv (jT jIA ws) := by
  refine jMet.intro' [(0, .int x)] (by decide) (Nat.le_of_ble_eq_true rfl) rfl ?_
  intro p e R s m args below meth c Q C hQ
  refine j_iload_n C dX3_wantSign_0 rfl ?_
  refine j_if_lt (tgt := 10) C dX3_wantSign_1 (by decide) (fun h1 => ?_) (fun h1 => ?_)
  · skip
    exact j_throwS hl C hQ jxin_X3_189 jxbad_X3_189 jxc_jIA (by decide) jxgood_X3_185_189 w_349 w_33 jS_X3_187 dX3_wantSign_10 dX3_wantSign_13 dX3_wantSign_14 dX3_wantSign_16 dX3_wantSign_19 (Nat.le_of_ble_eq_true rfl) ⟨Nat.le_of_ble_eq_true rfl, Nat.le_of_ble_eq_true rfl⟩ ⟨rfl, rfl⟩
  · skip
    refine j_iload_n C dX3_wantSign_4 rfl ?_
    refine j_bipush (v := (nI 10)) C dX3_wantSign_5 rfl ?_
    refine j_icmp_lt (tgt := 20) C dX3_wantSign_7 (by decide) (fun h7 => ?_) (fun h7 => ?_)
    · skip
      exact absurd h7 (Int32.not_lt.mpr (h.resolve_left h1))
    · skip
      exact j_throwS hl C hQ jxin_X3_189 jxbad_X3_189 jxc_jIA (by decide) jxgood_X3_185_189 w_349 w_33 jS_X3_187 dX3_wantSign_10 dX3_wantSign_13 dX3_wantSign_14 dX3_wantSign_16 dX3_wantSign_19 (Nat.le_of_ble_eq_true rfl) ⟨Nat.le_of_ble_eq_true rfl, Nat.le_of_ble_eq_true rfl⟩ ⟨rfl, rfl⟩
set_option maxHeartbeats 4000000 in
set_option maxRecDepth 100000 in
theorem c_wantUpTo_r (l : Launch) (E : jE) (A : Nat → Prop) {ws : va_W} {i n : Nat} (hi : i ≤ n) (hn : n < 100) : jMet l yX3_wantUpTo cX3_wantUpTo 2 (none : Option Jvm.ClassFile.FieldType) 1 0 0 E A [.int (nI i), .int (nI n)] ws (jR none ws) jNo := by
  refine jMet.intro' [(0, .int (nI i)), (1, .int (nI n))] (by decide) (Nat.le_of_ble_eq_true rfl) rfl ?_
  intro p e R s m args below meth c Q C hQ
  refine j_iload_n C dX3_wantUpTo_0 rfl ?_
  refine j_ifn_lt_f (tgt := 9) C dX3_wantUpTo_1 (by decide) (by omega) (by omega) ?_
  refine j_iload_n C dX3_wantUpTo_4 rfl ?_
  refine j_iload_n C dX3_wantUpTo_5 rfl ?_
  refine j_icmpn_le_t (tgt := 19) C dX3_wantUpTo_6 (by decide) (by omega) (by omega) (by omega) ?_
  exact j_vret C hQ rfl dX3_wantUpTo_19 ⟨Nat.le_of_ble_eq_true rfl, Nat.le_of_ble_eq_true rfl⟩ ⟨rfl, rfl⟩
set_option maxHeartbeats 4000000 in
set_option maxRecDepth 100000 in
theorem c_wantUpTo_x (l : Launch) (hl : l.stackTraces = false) (E : jE) (A : Nat → Prop) {ws : va_W} {x : Int32} {n : Nat} (h : x < 0 ∨ nI n < x) : jMet l yX3_wantUpTo cX3_wantUpTo 2 (none : Option Jvm.ClassFile.FieldType) 1 1 6 E A [.int x, .int (nI n)] ws jNv (jT jIA ws) := by
  refine jMet.intro' [(0, .int x), (1, .int (nI n))] (by decide) (Nat.le_of_ble_eq_true rfl) rfl ?_
  intro p e R s m args below meth c Q C hQ
  refine j_iload_n C dX3_wantUpTo_0 rfl ?_
  refine j_if_lt (tgt := 9) C dX3_wantUpTo_1 (by decide) (fun h1 => ?_) (fun h1 => ?_)
  · skip
    exact j_throwS hl C hQ jxin_X3_189 jxbad_X3_189 jxc_jIA (by decide) jxgood_X3_185_189 w_349 w_33 jS_X3_190 dX3_wantUpTo_9 dX3_wantUpTo_12 dX3_wantUpTo_13 dX3_wantUpTo_15 dX3_wantUpTo_18 (Nat.le_of_ble_eq_true rfl) ⟨Nat.le_of_ble_eq_true rfl, Nat.le_of_ble_eq_true rfl⟩ ⟨rfl, rfl⟩
  · skip
    refine j_iload_n C dX3_wantUpTo_4 rfl ?_
    refine j_iload_n C dX3_wantUpTo_5 rfl ?_
    refine j_icmp_le (tgt := 19) C dX3_wantUpTo_6 (by decide) (fun h6 => ?_) (fun h6 => ?_)
    · skip
      exact absurd h6 (Int32.not_le.mpr (h.resolve_left h1))
    · skip
      exact j_throwS hl C hQ jxin_X3_189 jxbad_X3_189 jxc_jIA (by decide) jxgood_X3_185_189 w_349 w_33 jS_X3_190 dX3_wantUpTo_9 dX3_wantUpTo_12 dX3_wantUpTo_13 dX3_wantUpTo_15 dX3_wantUpTo_18 (Nat.le_of_ble_eq_true rfl) ⟨Nat.le_of_ble_eq_true rfl, Nat.le_of_ble_eq_true rfl⟩ ⟨rfl, rfl⟩
theorem c_size_n (l : Launch) (E : jE) (A : Nat → Prop) {t sz sg la : Nat} {z g b : Nat → Int32} {rest : va_W} {i n : Nat} (hi : i < 9) (hz : z i = nI n) : jMet l yX2_size cX2_size 2 (some .int) 0 0 0 E A [.ref t, .int (nI i)] (tW E t sz sg la z g b rest) (jR (some (.int (nI n))) (tW E t sz sg la z g b rest)) jNo := by
  rw [← hz]
  exact c_size l E A hi
set_option maxHeartbeats 4000000 in
set_option maxRecDepth 100000 in
theorem c_wantSN_r (l : Launch) (E : jE) (A : Nat → Prop) {ws : va_W} {i : Nat} (hi : i < 10) : jMet l yX3_wantSignOrNone cX3_wantSignOrNone 1 (none : Option Jvm.ClassFile.FieldType) 2 0 0 E A [.int (nI i)] ws (jR none ws) jNo := by
  refine jMet.intro' [(0, .int (nI i))] (by decide) (Nat.le_of_ble_eq_true rfl) rfl ?_
  intro p e R s m args below meth c Q C hQ
  refine j_iload_n C dX3_wantSignOrNone_0 rfl ?_
  refine j_iconst (v := (-1)) C dX3_wantSignOrNone_1 rfl ?_
  refine j_icmp_eq_f (tgt := 9) C dX3_wantSignOrNone_2 (by decide) (nI_ne_m (by omega)) ?_
  refine j_iload_n C dX3_wantSignOrNone_5 rfl ?_
  refine j_callSv C (w := ws) (c_wantSign_r l E A (by omega)) ok_X3_wantSign w_346 (by decide) rfl rfl (Nat.le_of_ble_eq_true rfl) ⟨Nat.le_of_ble_eq_true rfl, Nat.le_of_ble_eq_true rfl⟩ dX3_wantSignOrNone_6 ?_
  exact j_vret C hQ rfl dX3_wantSignOrNone_9 ⟨Nat.le_of_ble_eq_true rfl, Nat.le_of_ble_eq_true rfl⟩ ⟨rfl, rfl⟩
set_option maxHeartbeats 4000000 in
set_option maxRecDepth 100000 in
theorem c_wantSN_m (l : Launch) (E : jE) (A : Nat → Prop) {ws : va_W}  : jMet l yX3_wantSignOrNone cX3_wantSignOrNone 1 (none : Option Jvm.ClassFile.FieldType) 2 0 0 E A [.int (-1)] ws (jR none ws) jNo := by
  refine jMet.intro' [(0, .int (-1))] (by decide) (Nat.le_of_ble_eq_true rfl) rfl ?_
  intro p e R s m args below meth c Q C hQ
  refine j_iload_n C dX3_wantSignOrNone_0 rfl ?_
  refine j_iconst (v := (-1)) C dX3_wantSignOrNone_1 rfl ?_
  refine j_icmp_eq_t (tgt := 9) C dX3_wantSignOrNone_2 (by decide) rfl ?_
  exact j_vret C hQ rfl dX3_wantSignOrNone_9 ⟨Nat.le_of_ble_eq_true rfl, Nat.le_of_ble_eq_true rfl⟩ ⟨rfl, rfl⟩
set_option maxHeartbeats 4000000 in
set_option maxRecDepth 100000 in
theorem c_wantSN_x (l : Launch) (hl : l.stackTraces = false) (E : jE) (A : Nat → Prop) {ws : va_W} {x : Int32} (h0 : ¬ x = -1) (h : x < 0 ∨ nI 10 ≤ x) : jMet l yX3_wantSignOrNone cX3_wantSignOrNone 1 (none : Option Jvm.ClassFile.FieldType) 2 1 6 E A [.int x] ws jNv (jT jIA ws) := by
  refine jMet.intro' [(0, .int x)] (by decide) (Nat.le_of_ble_eq_true rfl) rfl ?_
  intro p e R s m args below meth c Q C hQ
  refine j_iload_n C dX3_wantSignOrNone_0 rfl ?_
  refine j_iconst (v := (-1)) C dX3_wantSignOrNone_1 rfl ?_
  refine j_icmp_eq_f (tgt := 9) C dX3_wantSignOrNone_2 (by decide) h0 ?_
  refine j_iload_n C dX3_wantSignOrNone_5 rfl ?_
  refine j_callSx C (c_wantSign_x l hl E A h) ok_X3_wantSign w_346 (by decide) rfl rfl (Nat.le_of_ble_eq_true rfl) ⟨Nat.le_of_ble_eq_true rfl, Nat.le_of_ble_eq_true rfl⟩ dX3_wantSignOrNone_6 ?_
  exact j_xout C hQ ⟨Nat.le_of_ble_eq_true rfl, Nat.le_of_ble_eq_true rfl⟩ ⟨rfl, rfl⟩
set_option maxHeartbeats 4000000 in
set_option maxRecDepth 100000 in
theorem c_wantThere_r (l : Launch) (E : jE) (A : Nat → Prop) {t sz sg la dk : Nat} {z g b : Nat → Int32} {cr ca cg ck : Int32} {rest : va_W} {i n : Nat} (hi : i < 9) (hn : n ≤ 24) (hz : z i = nI n) : jMet l yX3_wantThere cX3_wantThere 2 (none : Option Jvm.ClassFile.FieldType) 2 0 0 E A [.ref dk, .int (nI i)] (dW E t sz sg la dk z g b cr ca cg ck rest) (jR none (dW E t sz sg la dk z g b cr ca cg ck rest)) jNo := by
  refine jMet.intro' [(0, .ref dk), (1, .int (nI i))] (by decide) (Nat.le_of_ble_eq_true rfl) rfl ?_
  intro p e R s m args below meth c Q C hQ
  refine j_aload_n C dX3_wantThere_0 rfl ?_
  refine j_get C 4 rfl inj_X3 rfl 0 (by decide) w_73 rfl dX3_wantThere_1 ?_
  refine j_iload_n C dX3_wantThere_4 rfl ?_
  refine j_callVr C 0 (v := .int (bI (z i = -1))) (w := (dW E t sz sg la dk z g b cr ca cg ck rest)) (c_isAway l E A (by omega)) ok_X2_isAway w_369 (by decide) rfl rfl (Nat.le_of_ble_eq_true rfl) rfl rfl ⟨Nat.le_of_ble_eq_true rfl, Nat.le_of_ble_eq_true rfl⟩ dX3_wantThere_5 ?_
  refine j_ifb_eq_t (tgt := 21) C dX3_wantThere_8 (by decide) (by rw [hz]; exact nI_ne_m (by omega)) ?_
  exact j_vret C hQ rfl dX3_wantThere_21 ⟨Nat.le_of_ble_eq_true rfl, Nat.le_of_ble_eq_true rfl⟩ ⟨rfl, rfl⟩
set_option maxHeartbeats 4000000 in
set_option maxRecDepth 100000 in
theorem c_wantThere_x (l : Launch) (hl : l.stackTraces = false) (E : jE) (A : Nat → Prop) {t sz sg la dk : Nat} {z g b : Nat → Int32} {cr ca cg ck : Int32} {rest : va_W} {i : Nat} (hi : i < 9) (hz : z i = -1) : jMet l yX3_wantThere cX3_wantThere 2 (none : Option Jvm.ClassFile.FieldType) 2 1 6 E A [.ref dk, .int (nI i)] (dW E t sz sg la dk z g b cr ca cg ck rest) jNv (jT jIS (dW E t sz sg la dk z g b cr ca cg ck rest)) := by
  refine jMet.intro' [(0, .ref dk), (1, .int (nI i))] (by decide) (Nat.le_of_ble_eq_true rfl) rfl ?_
  intro p e R s m args below meth c Q C hQ
  refine j_aload_n C dX3_wantThere_0 rfl ?_
  refine j_get C 4 rfl inj_X3 rfl 0 (by decide) w_73 rfl dX3_wantThere_1 ?_
  refine j_iload_n C dX3_wantThere_4 rfl ?_
  refine j_callVr C 0 (v := .int (bI (z i = -1))) (w := (dW E t sz sg la dk z g b cr ca cg ck rest)) (c_isAway l E A (by omega)) ok_X2_isAway w_369 (by decide) rfl rfl (Nat.le_of_ble_eq_true rfl) rfl rfl ⟨Nat.le_of_ble_eq_true rfl, Nat.le_of_ble_eq_true rfl⟩ dX3_wantThere_5 ?_
  refine j_ifb_eq_f (tgt := 21) C dX3_wantThere_8 (by decide) hz ?_
  exact j_throwS hl C hQ jxin_X3_196 jxbad_X3_196 jxc_jIS (by decide) jxgood_X3_192_196 w_370 w_34 jS_X3_194 dX3_wantThere_11 dX3_wantThere_14 dX3_wantThere_15 dX3_wantThere_17 dX3_wantThere_20 (Nat.le_of_ble_eq_true rfl) ⟨Nat.le_of_ble_eq_true rfl, Nat.le_of_ble_eq_true rfl⟩ ⟨rfl, rfl⟩
set_option maxHeartbeats 4000000 in
set_option maxRecDepth 100000 in
theorem c_wantRoom_r (l : Launch) (E : jE) (A : Nat → Prop) {t sz sg la dk : Nat} {z g b : Nat → Int32} {cr ca cg ck : Int32} {rest : va_W} {i n o : Nat} (hi : i < 9) (hz : z i = nI n) (hno : n + o ≤ 24) : jMet l yX3_wantRoom cX3_wantRoom 3 (none : Option Jvm.ClassFile.FieldType) 1 0 0 E A [.ref dk, .int (nI i), .int (nI o)] (dW E t sz sg la dk z g b cr ca cg ck rest) (jR none (dW E t sz sg la dk z g b cr ca cg ck rest)) jNo := by
  refine jMet.intro' [(0, .ref dk), (1, .int (nI i)), (2, .int (nI o))] (by decide) (Nat.le_of_ble_eq_true rfl) rfl ?_
  intro p e R s m args below meth c Q C hQ
  refine j_aload_n C dX3_wantRoom_0 rfl ?_
  refine j_get C 4 rfl inj_X3 rfl 0 (by decide) w_73 rfl dX3_wantRoom_1 ?_
  refine j_iload_n C dX3_wantRoom_4 rfl ?_
  refine j_callVr C 0 (v := .int (nI n)) (w := (dW E t sz sg la dk z g b cr ca cg ck rest)) (c_size_n l E A hi hz) ok_X2_size w_241 (by decide) rfl rfl (Nat.le_of_ble_eq_true rfl) rfl rfl ⟨Nat.le_of_ble_eq_true rfl, Nat.le_of_ble_eq_true rfl⟩ dX3_wantRoom_5 ?_
  refine j_iload_n C dX3_wantRoom_8 rfl ?_
  refine j_iadd (z := (nI (n + o))) C dX3_wantRoom_9 (nI_add _ _) ?_
  refine j_bipush (v := (nI 24)) C dX3_wantRoom_10 rfl ?_
  refine j_icmpn_le_t (tgt := 25) C dX3_wantRoom_12 (by decide) (by omega) (by omega) (by omega) ?_
  exact j_vret C hQ rfl dX3_wantRoom_25 ⟨Nat.le_of_ble_eq_true rfl, Nat.le_of_ble_eq_true rfl⟩ ⟨rfl, rfl⟩
set_option maxHeartbeats 4000000 in
set_option maxRecDepth 100000 in
theorem c_wantRoom_x (l : Launch) (hl : l.stackTraces = false) (E : jE) (A : Nat → Prop) {t sz sg la dk : Nat} {z g b : Nat → Int32} {cr ca cg ck : Int32} {rest : va_W} {i n o : Nat} (hi : i < 9) (hz : z i = nI n) (hn : n ≤ 24) (ho : o < 10) (hno : ¬ n + o ≤ 24) : jMet l yX3_wantRoom cX3_wantRoom 3 (none : Option Jvm.ClassFile.FieldType) 1 1 6 E A [.ref dk, .int (nI i), .int (nI o)] (dW E t sz sg la dk z g b cr ca cg ck rest) jNv (jT jIS (dW E t sz sg la dk z g b cr ca cg ck rest)) := by
  refine jMet.intro' [(0, .ref dk), (1, .int (nI i)), (2, .int (nI o))] (by decide) (Nat.le_of_ble_eq_true rfl) rfl ?_
  intro p e R s m args below meth c Q C hQ
  refine j_aload_n C dX3_wantRoom_0 rfl ?_
  refine j_get C 4 rfl inj_X3 rfl 0 (by decide) w_73 rfl dX3_wantRoom_1 ?_
  refine j_iload_n C dX3_wantRoom_4 rfl ?_
  refine j_callVr C 0 (v := .int (nI n)) (w := (dW E t sz sg la dk z g b cr ca cg ck rest)) (c_size_n l E A hi hz) ok_X2_size w_241 (by decide) rfl rfl (Nat.le_of_ble_eq_true rfl) rfl rfl ⟨Nat.le_of_ble_eq_true rfl, Nat.le_of_ble_eq_true rfl⟩ dX3_wantRoom_5 ?_
  refine j_iload_n C dX3_wantRoom_8 rfl ?_
  refine j_iadd (z := (nI (n + o))) C dX3_wantRoom_9 (nI_add _ _) ?_
  refine j_bipush (v := (nI 24)) C dX3_wantRoom_10 rfl ?_
  refine j_icmpn_le_f (tgt := 25) C dX3_wantRoom_12 (by decide) (by omega) (by omega) (by omega) ?_
  exact j_throwS hl C hQ jxin_X3_196 jxbad_X3_196 jxc_jIS (by decide) jxgood_X3_192_196 w_370 w_34 jS_X3_197 dX3_wantRoom_15 dX3_wantRoom_18 dX3_wantRoom_19 dX3_wantRoom_21 dX3_wantRoom_24 (Nat.le_of_ble_eq_true rfl) ⟨Nat.le_of_ble_eq_true rfl, Nat.le_of_ble_eq_true rfl⟩ ⟨rfl, rfl⟩
set_option maxHeartbeats 4000000 in
set_option maxRecDepth 100000 in
theorem c_refuse (l : Launch) (E : jE) (A : Nat → Prop) {t sz sg la dk : Nat} {z g b : Nat → Int32} {cr ca cg ck : Int32} {rest : va_W}  : jMet l yX3_refuse cX3_refuse 1 (some .int) 0 0 0 E A [.ref dk] (dW E t sz sg la dk z g b cr ca cg ck rest) (jR (some (.int (-9))) (dW E t sz sg la dk z g b (cr + nI 1) ca cg ck rest)) jNo := by
  refine jMet.intro' [(0, .ref dk)] (by decide) (Nat.le_of_ble_eq_true rfl) rfl ?_
  intro p e R s m args below meth c Q C hQ
  refine j_aload_n C dX3_refuse_0 rfl ?_
  refine j_dup C dX3_refuse_1 rfl ?_
  refine j_get C 4 rfl inj_X3 rfl 1 (by decide) w_74 rfl dX3_refuse_2 ?_
  refine j_iconst (v := (nI 1)) C dX3_refuse_5 rfl ?_
  refine j_iadd (z := (cr + (nI 1))) C dX3_refuse_6 rfl ?_
  refine j_put (ws' := (dW E t sz sg la dk z g b (cr + (nI 1)) ca cg ck rest)) C 4 rfl inj_X3 tyX3 tyX3_ok nmX3 rfl 1 (by decide) w_74 rfl (tyX3_ok 1 (by decide)) rfl rfl (Nat.le_of_ble_eq_true rfl) dX3_refuse_7 rfl ?_
  refine j_bipush (v := (-9)) C dX3_refuse_10 rfl ?_
  exact j_iret C hQ rfl dX3_refuse_12 ⟨Nat.le_of_ble_eq_true rfl, Nat.le_of_ble_eq_true rfl⟩ ⟨rfl, rfl⟩
set_option maxHeartbeats 4000000 in
set_option maxRecDepth 100000 in
theorem c_refuseText (l : Launch) (E : jE) (A : Nat → Prop) {t sz sg la dk : Nat} {z g b : Nat → Int32} {cr ca cg ck : Int32} {rest : va_W}  : jMet l yX3_refuseText cX3_refuseText 1 (some (.object "java/lang/String")) 0 0 0 E A [.ref dk] (dW E t sz sg la dk z g b cr ca cg ck rest) (fun v w => (∃ a, v = some (.ref a)) ∧ w = dW E t sz sg la dk z g b (cr + nI 1) ca cg ck rest) jNo := by
  refine jMet.intro' [(0, .ref dk)] (by decide) (Nat.le_of_ble_eq_true rfl) rfl ?_
  intro p e R s m args below meth c Q C hQ
  refine j_aload_n C dX3_refuseText_0 rfl ?_
  refine j_dup C dX3_refuseText_1 rfl ?_
  refine j_get C 4 rfl inj_X3 rfl 1 (by decide) w_74 rfl dX3_refuseText_2 ?_
  refine j_iconst (v := (nI 1)) C dX3_refuseText_5 rfl ?_
  refine j_iadd (z := (cr + (nI 1))) C dX3_refuseText_6 rfl ?_
  refine j_put (ws' := (dW E t sz sg la dk z g b (cr + (nI 1)) ca cg ck rest)) C 4 rfl inj_X3 tyX3 tyX3_ok nmX3 rfl 1 (by decide) w_74 rfl (tyX3_ok 1 (by decide)) rfl rfl (Nat.le_of_ble_eq_true rfl) dX3_refuseText_7 rfl ?_
  refine j_ldcS C jS_X3_165 dX3_refuseText_10 (fun sa1 => ?_)
  exact j_aret C hQ rfl (Or.inl ⟨_, rfl⟩) dX3_refuseText_12 ⟨Nat.le_of_ble_eq_true rfl, Nat.le_of_ble_eq_true rfl⟩ ⟨⟨_, rfl⟩, rfl⟩
set_option maxHeartbeats 4000000 in
set_option maxRecDepth 100000 in
theorem c_tell_0 (l : Launch) (E : jE) (A : Nat → Prop) {t sz sg la dk : Nat} {z g b : Nat → Int32} {cr ca cg ck : Int32} {rest : va_W} (hT : ∀ i, i < 9 → txOk z g i) : jMet l yX3_tell cX3_tell 2 (some .int) 2 0 0 E A [.ref dk, .int (nI 0)] (dW E t sz sg la dk z g b cr ca cg ck rest) (jR (some (.int (nI (sgnN z 9)))) (dW E t sz sg la dk z g b cr ca cg ck rest)) jNo := by
  refine jMet.intro' [(0, .ref dk), (1, .int (nI 0))] (by decide) (Nat.le_of_ble_eq_true rfl) rfl ?_
  intro p e R s m args below meth c Q C hQ
  refine j_iload_n C dX3_tell_0 rfl ?_
  refine j_tableIn (off := 35) (tgt := 36) C dX3_tell_1 (by decide) (by decide) (by decide) (by decide) ?_
  refine j_aload_n C dX3_tell_36 rfl ?_
  refine j_get C 4 rfl inj_X3 rfl 0 (by decide) w_73 rfl dX3_tell_37 ?_
  refine j_callVr C 0 (v := .int (nI (sgnN z 9))) (w := (dW E t sz sg la dk z g b cr ca cg ck rest)) (c_countSigns l E A hT) ok_X2_countSigns w_230 (by decide) rfl rfl (Nat.le_of_ble_eq_true rfl) rfl rfl ⟨Nat.le_of_ble_eq_true rfl, Nat.le_of_ble_eq_true rfl⟩ dX3_tell_40 ?_
  exact j_iret C hQ rfl dX3_tell_43 ⟨Nat.le_of_ble_eq_true rfl, Nat.le_of_ble_eq_true rfl⟩ ⟨rfl, rfl⟩
set_option maxHeartbeats 4000000 in
set_option maxRecDepth 100000 in
theorem c_tell_1 (l : Launch) (E : jE) (A : Nat → Prop) {t sz sg la dk : Nat} {z g b : Nat → Int32} {cr ca cg ck : Int32} {rest : va_W}  : jMet l yX3_tell cX3_tell 2 (some .int) 2 0 0 E A [.ref dk, .int (nI 1)] (dW E t sz sg la dk z g b cr ca cg ck rest) (jR (some (.int (nI (awN z 9)))) (dW E t sz sg la dk z g b cr ca cg ck rest)) jNo := by
  refine jMet.intro' [(0, .ref dk), (1, .int (nI 1))] (by decide) (Nat.le_of_ble_eq_true rfl) rfl ?_
  intro p e R s m args below meth c Q C hQ
  refine j_iload_n C dX3_tell_0 rfl ?_
  refine j_tableIn (off := 43) (tgt := 44) C dX3_tell_1 (by decide) (by decide) (by decide) (by decide) ?_
  refine j_aload_n C dX3_tell_44 rfl ?_
  refine j_get C 4 rfl inj_X3 rfl 0 (by decide) w_73 rfl dX3_tell_45 ?_
  refine j_callVr C 0 (v := .int (nI (awN z 9))) (w := (dW E t sz sg la dk z g b cr ca cg ck rest)) (c_countAway l E A) ok_X2_countAway w_237 (by decide) rfl rfl (Nat.le_of_ble_eq_true rfl) rfl rfl ⟨Nat.le_of_ble_eq_true rfl, Nat.le_of_ble_eq_true rfl⟩ dX3_tell_48 ?_
  exact j_iret C hQ rfl dX3_tell_51 ⟨Nat.le_of_ble_eq_true rfl, Nat.le_of_ble_eq_true rfl⟩ ⟨rfl, rfl⟩
set_option maxHeartbeats 4000000 in
set_option maxRecDepth 100000 in
theorem c_tell_2 (l : Launch) (E : jE) (A : Nat → Prop) {t sz sg la dk : Nat} {z g b : Nat → Int32} {cr ca cg ck : Int32} {rest : va_W}  : jMet l yX3_tell cX3_tell 2 (some .int) 2 0 0 E A [.ref dk, .int (nI 2)] (dW E t sz sg la dk z g b cr ca cg ck rest) (jR (some (.int cr)) (dW E t sz sg la dk z g b cr ca cg ck rest)) jNo := by
  refine jMet.intro' [(0, .ref dk), (1, .int (nI 2))] (by decide) (Nat.le_of_ble_eq_true rfl) rfl ?_
  intro p e R s m args below meth c Q C hQ
  refine j_iload_n C dX3_tell_0 rfl ?_
  refine j_tableIn (off := 51) (tgt := 52) C dX3_tell_1 (by decide) (by decide) (by decide) (by decide) ?_
  refine j_aload_n C dX3_tell_52 rfl ?_
  refine j_get C 4 rfl inj_X3 rfl 1 (by decide) w_74 rfl dX3_tell_53 ?_
  exact j_iret C hQ rfl dX3_tell_56 ⟨Nat.le_of_ble_eq_true rfl, Nat.le_of_ble_eq_true rfl⟩ ⟨rfl, rfl⟩
set_option maxHeartbeats 4000000 in
set_option maxRecDepth 100000 in
theorem c_tell_3 (l : Launch) (E : jE) (A : Nat → Prop) {t sz sg la dk : Nat} {z g b : Nat → Int32} {cr ca cg ck : Int32} {rest : va_W}  : jMet l yX3_tell cX3_tell 2 (some .int) 2 0 0 E A [.ref dk, .int (nI 3)] (dW E t sz sg la dk z g b cr ca cg ck rest) (jR (some (.int ca)) (dW E t sz sg la dk z g b cr ca cg ck rest)) jNo := by
  refine jMet.intro' [(0, .ref dk), (1, .int (nI 3))] (by decide) (Nat.le_of_ble_eq_true rfl) rfl ?_
  intro p e R s m args below meth c Q C hQ
  refine j_iload_n C dX3_tell_0 rfl ?_
  refine j_tableIn (off := 56) (tgt := 57) C dX3_tell_1 (by decide) (by decide) (by decide) (by decide) ?_
  refine j_aload_n C dX3_tell_57 rfl ?_
  refine j_get C 4 rfl inj_X3 rfl 2 (by decide) w_75 rfl dX3_tell_58 ?_
  exact j_iret C hQ rfl dX3_tell_61 ⟨Nat.le_of_ble_eq_true rfl, Nat.le_of_ble_eq_true rfl⟩ ⟨rfl, rfl⟩
set_option maxHeartbeats 4000000 in
set_option maxRecDepth 100000 in
theorem c_tell_4 (l : Launch) (E : jE) (A : Nat → Prop) {t sz sg la dk : Nat} {z g b : Nat → Int32} {cr ca cg ck : Int32} {rest : va_W}  : jMet l yX3_tell cX3_tell 2 (some .int) 2 0 0 E A [.ref dk, .int (nI 4)] (dW E t sz sg la dk z g b cr ca cg ck rest) (jR (some (.int cg)) (dW E t sz sg la dk z g b cr ca cg ck rest)) jNo := by
  refine jMet.intro' [(0, .ref dk), (1, .int (nI 4))] (by decide) (Nat.le_of_ble_eq_true rfl) rfl ?_
  intro p e R s m args below meth c Q C hQ
  refine j_iload_n C dX3_tell_0 rfl ?_
  refine j_tableIn (off := 61) (tgt := 62) C dX3_tell_1 (by decide) (by decide) (by decide) (by decide) ?_
  refine j_aload_n C dX3_tell_62 rfl ?_
  refine j_get C 4 rfl inj_X3 rfl 3 (by decide) w_76 rfl dX3_tell_63 ?_
  exact j_iret C hQ rfl dX3_tell_66 ⟨Nat.le_of_ble_eq_true rfl, Nat.le_of_ble_eq_true rfl⟩ ⟨rfl, rfl⟩
set_option maxHeartbeats 4000000 in
set_option maxRecDepth 100000 in
theorem c_tell_5 (l : Launch) (E : jE) (A : Nat → Prop) {t sz sg la dk : Nat} {z g b : Nat → Int32} {cr ca cg ck : Int32} {rest : va_W}  : jMet l yX3_tell cX3_tell 2 (some .int) 2 0 0 E A [.ref dk, .int (nI 5)] (dW E t sz sg la dk z g b cr ca cg ck rest) (jR (some (.int ck)) (dW E t sz sg la dk z g b cr ca cg ck rest)) jNo := by
  refine jMet.intro' [(0, .ref dk), (1, .int (nI 5))] (by decide) (Nat.le_of_ble_eq_true rfl) rfl ?_
  intro p e R s m args below meth c Q C hQ
  refine j_iload_n C dX3_tell_0 rfl ?_
  refine j_tableOut (tgt := 67) C dX3_tell_1 (by decide) (by decide) ?_
  refine j_aload_n C dX3_tell_67 rfl ?_
  refine j_get C 4 rfl inj_X3 rfl 4 (by decide) w_77 rfl dX3_tell_68 ?_
  exact j_iret C hQ rfl dX3_tell_71 ⟨Nat.le_of_ble_eq_true rfl, Nat.le_of_ble_eq_true rfl⟩ ⟨rfl, rfl⟩
def telV (z : Nat → Int32) (cr ca cg ck : Int32) (k : Nat) : Int32 := if k = 0 then nI (sgnN z 9) else if k = 1 then nI (awN z 9) else if k = 2 then cr else if k = 3 then ca else if k = 4 then cg else ck
theorem c_tell (l : Launch) (E : jE) (A : Nat → Prop) {t sz sg la dk : Nat} {z g b : Nat → Int32} {cr ca cg ck : Int32} {rest : va_W} {k : Nat} (hk : k ≤ 5) (hT : ∀ i, i < 9 → txOk z g i) : jMet l yX3_tell cX3_tell 2 (some .int) 2 0 0 E A [.ref dk, .int (nI k)] (dW E t sz sg la dk z g b cr ca cg ck rest) (jR (some (.int (telV z cr ca cg ck k))) (dW E t sz sg la dk z g b cr ca cg ck rest)) jNo := by
  obtain rfl | rfl | rfl | rfl | rfl | rfl : k = 0 ∨ k = 1 ∨ k = 2 ∨ k = 3 ∨ k = 4 ∨ k = 5 := by omega
  · exact c_tell_0 l E A hT
  · exact c_tell_1 l E A
  · exact c_tell_2 l E A
  · exact c_tell_3 l E A
  · exact c_tell_4 l E A
  · exact c_tell_5 l E A
