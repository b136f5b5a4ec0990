/-! contracts, laid by program (wip/gen) -/
abbrev oW (E : jE) (t sz sg la dk ot : Nat) (z g b : Nat → Int32) (cr ca cg ck : Int32) (on : Int64) (os : Value) (rest : va_W) : va_W := dW E t sz sg la dk z g b cr ca cg ck ((ot, .inr (4, [.long on, os])) :: rest)
set_option maxHeartbeats 4000000 in
set_option maxRecDepth 100000 in
theorem w_ahead_r (l : Launch) (E : jE) (A : Nat → Prop) {t sz sg la dk ot : Nat} {z g b z2 g2 b2 : Nat → Int32} {cr ca cg ck cr2 ca2 cg2 ck2 : Int32} {on : Int64} {os : Value} {rest : va_W} {mcf msf : Nat} {a0 a1 : Int32} {rr : Int32} (hM : jMet l yX3_ahead cX3_ahead 5 (some .int) 5 mcf msf E A [.ref dk, .int a0, .int a1] (dW E t sz sg la dk z g b cr ca cg ck ((ot, .inr (4, [.long on, os])) :: rest)) (jR (some (.int rr)) (dW E t sz sg la dk z2 g2 b2 cr2 ca2 cg2 ck2 ((ot, .inr (4, [.long on, os])) :: rest))) jNo) : jMetH l yL_ahead cL_ahead 5 (some .int) [(0, 11, 14, 19), (0, 11, 18, 21)] 6 mcf msf E A [.ref dk, .int a0, .int a1, .ref ot] (oW E t sz sg la dk ot z g b cr ca cg ck on os rest) (jR (some (.int (nI 0))) (oW E t sz sg la dk ot z2 g2 b2 cr2 ca2 cg2 ck2 rr.toInt64 os rest)) := by
  refine jMetH.intro [(0, .ref dk), (1, .int a0), (2, .int a1), (3, .ref ot)] (by decide) (by decide) (Nat.le_of_ble_eq_true rfl) rfl ?_
  intro p e R s m args below meth c Q C htab hQ
  refine j_aload_n C dL_ahead_0 rfl ?_
  refine j_aload_n C dL_ahead_1 rfl ?_
  refine j_iload_n C dL_ahead_2 rfl ?_
  refine j_iload_n C dL_ahead_3 rfl ?_
  refine j_callVr C 4 (v := .int rr) (w := (oW E t sz sg la dk ot z2 g2 b2 cr2 ca2 cg2 ck2 on os rest)) (hM) ok_X3_ahead w_835 (by omega) rfl rfl (Nat.le_of_ble_eq_true rfl) rfl rfl ⟨by omega, by omega⟩ dL_ahead_4 ?_
  refine j_i2l (v := rr.toInt64) C dL_ahead_7 rfl ?_
  refine j_putN (ws' := (oW E t sz sg la dk ot z2 g2 b2 cr2 ca2 cg2 ck2 rr.toInt64 os rest)) C 5 rfl inj_X4 tyX4 tyX4_ok nmX4 rfl 0 (by decide) (List.mem_of_getElem? (i := 1) rfl) rfl (tyX4_ok 0 (by decide)) rfl rfl (Nat.le_of_ble_eq_true rfl) dL_ahead_8 rfl ?_
  refine j_goto (tgt := 22) C dL_ahead_11 (by decide) ?_
  refine j_iconst (v := (nI 0)) C dL_ahead_22 rfl ?_
  exact j_iret C hQ rfl dL_ahead_23 ⟨by omega, by omega⟩ ⟨rfl, rfl⟩
set_option maxHeartbeats 4000000 in
set_option maxRecDepth 100000 in
theorem w_ahead_jIO (l : Launch) (E : jE) (A : Nat → Prop) {t sz sg la dk ot : Nat} {z g b : Nat → Int32} {cr ca cg ck : Int32} {on : Int64} {os : Value} {rest : va_W} {mcf msf : Nat} {a0 a1 : Int32} (hM : jMet l yX3_ahead cX3_ahead 5 (some .int) 5 mcf msf E A [.ref dk, .int a0, .int a1] (dW E t sz sg la dk z g b cr ca cg ck ((ot, .inr (4, [.long on, os])) :: rest)) jNv (jT jIO (dW E t sz sg la dk z g b cr ca cg ck ((ot, .inr (4, [.long on, os])) :: rest)))) : jMetH l yL_ahead cL_ahead 5 (some .int) [(0, 11, 14, 19), (0, 11, 18, 21)] 6 mcf msf E A [.ref dk, .int a0, .int a1, .ref ot] (oW E t sz sg la dk ot z g b cr ca cg ck on os rest) (jR (some (.int (nI 1))) (oW E t sz sg la dk ot z g b cr ca cg ck on os rest)) := by
  refine jMetH.intro [(0, .ref dk), (1, .int a0), (2, .int a1), (3, .ref ot)] (by decide) (by decide) (Nat.le_of_ble_eq_true rfl) rfl ?_
  intro p e R s m args below meth c Q C htab hQ
  refine j_aload_n C dL_ahead_0 rfl ?_
  refine j_aload_n C dL_ahead_1 rfl ?_
  refine j_iload_n C dL_ahead_2 rfl ?_
  refine j_iload_n C dL_ahead_3 rfl ?_
  refine j_callVx C 4 (hM) ok_X3_ahead w_835 (by omega) rfl rfl (Nat.le_of_ble_eq_true rfl) rfl rfl ⟨by omega, by omega⟩ dL_ahead_4 ?_
  refine j_catch C (En := jIO) (tgt := 14) htab [] ⟨0, 11, 14, 19⟩ [⟨0, 11, 18, 21⟩] rfl (fun _ h => absurd h List.not_mem_nil) rfl (by decide) w_265 jxc_jIO rfl (fun qx => ?_)
  refine j_astore (lv' := [(4, .ref qx), (0, .ref dk), (1, .int a0), (2, .int a1), (3, .ref ot)]) C dL_ahead_14 (by decide) rfl ?_
  refine j_iconst (v := (nI 1)) C dL_ahead_16 rfl ?_
  exact j_iret C hQ rfl dL_ahead_17 ⟨by omega, by omega⟩ ⟨rfl, rfl⟩
set_option maxHeartbeats 4000000 in
set_option maxRecDepth 100000 in
theorem w_ahead_jIA (l : Launch) (E : jE) (A : Nat → Prop) {t sz sg la dk ot : Nat} {z g b : Nat → Int32} {cr ca cg ck : Int32} {on : Int64} {os : Value} {rest : va_W} {mcf msf : Nat} {a0 a1 : Int32} (hM : jMet l yX3_ahead cX3_ahead 5 (some .int) 5 mcf msf E A [.ref dk, .int a0, .int a1] (dW E t sz sg la dk z g b cr ca cg ck ((ot, .inr (4, [.long on, os])) :: rest)) jNv (jT jIA (dW E t sz sg la dk z g b cr ca cg ck ((ot, .inr (4, [.long on, os])) :: rest)))) : jMetH l yL_ahead cL_ahead 5 (some .int) [(0, 11, 14, 19), (0, 11, 18, 21)] 6 mcf msf E A [.ref dk, .int a0, .int a1, .ref ot] (oW E t sz sg la dk ot z g b cr ca cg ck on os rest) (jR (some (.int (nI 2))) (oW E t sz sg la dk ot z g b cr ca cg ck on os rest)) := by
  refine jMetH.intro [(0, .ref dk), (1, .int a0), (2, .int a1), (3, .ref ot)] (by decide) (by decide) (Nat.le_of_ble_eq_true rfl) rfl ?_
  intro p e R s m args below meth c Q C htab hQ
  refine j_aload_n C dL_ahead_0 rfl ?_
  refine j_aload_n C dL_ahead_1 rfl ?_
  refine j_iload_n C dL_ahead_2 rfl ?_
  refine j_iload_n C dL_ahead_3 rfl ?_
  refine j_callVx C 4 (hM) ok_X3_ahead w_835 (by omega) rfl rfl (Nat.le_of_ble_eq_true rfl) rfl rfl ⟨by omega, by omega⟩ dL_ahead_4 ?_
  refine j_catch C (En := jIA) (tgt := 18) htab [⟨0, 11, 14, 19⟩] ⟨0, 11, 18, 21⟩ [] rfl (List.forall_mem_cons.mpr ⟨⟨by decide, _, w_265, List.mem_of_getElem? (i := 2) rfl⟩, fun _ h => absurd h List.not_mem_nil⟩) rfl (by decide) w_266 jxc_jIA rfl (fun qx => ?_)
  refine j_astore (lv' := [(4, .ref qx), (0, .ref dk), (1, .int a0), (2, .int a1), (3, .ref ot)]) C dL_ahead_18 (by decide) rfl ?_
  refine j_iconst (v := (nI 2)) C dL_ahead_20 rfl ?_
  exact j_iret C hQ rfl dL_ahead_21 ⟨by omega, by omega⟩ ⟨rfl, rfl⟩
set_option maxHeartbeats 4000000 in
set_option maxRecDepth 100000 in
theorem w_areSame_t (l : Launch) (E : jE) (A : Nat → Prop) {t sz sg la dk ot : Nat} {z g b z2 g2 b2 : Nat → Int32} {cr ca cg ck cr2 ca2 cg2 ck2 : Int32} {on : Int64} {os : Value} {rest : va_W} {mcf msf : Nat} {a0 a1 : Int32} {rr : Int32} (hrr : ¬ rr = 0) (hM : jMet l yX3_areSame cX3_areSame 3 (some .boolean) 5 mcf msf E A [.ref dk, .int a0, .int a1] (dW E t sz sg la dk z g b cr ca cg ck ((ot, .inr (4, [.long on, os])) :: rest)) (jR (some (.int rr)) (dW E t sz sg la dk z2 g2 b2 cr2 ca2 cg2 ck2 ((ot, .inr (4, [.long on, os])) :: rest))) jNo) : jMetH l yL_areSame cL_areSame 5 (some .int) [(0, 18, 21, 19)] 6 mcf msf E A [.ref dk, .int a0, .int a1, .ref ot] (oW E t sz sg la dk ot z g b cr ca cg ck on os rest) (jR (some (.int (nI 0))) (oW E t sz sg la dk ot z2 g2 b2 cr2 ca2 cg2 ck2 1 os rest)) := by
  refine jMetH.intro [(0, .ref dk), (1, .int a0), (2, .int a1), (3, .ref ot)] (by decide) (by decide) (Nat.le_of_ble_eq_true rfl) rfl ?_
  intro p e R s m args below meth c Q C htab hQ
  refine j_aload_n C dL_areSame_0 rfl ?_
  refine j_aload_n C dL_areSame_1 rfl ?_
  refine j_iload_n C dL_areSame_2 rfl ?_
  refine j_iload_n C dL_areSame_3 rfl ?_
  refine j_callVr C 4 (v := .int rr) (w := (oW E t sz sg la dk ot z2 g2 b2 cr2 ca2 cg2 ck2 on os rest)) (hM) ok_X3_areSame w_888 (by omega) rfl rfl (Nat.le_of_ble_eq_true rfl) rfl rfl ⟨by omega, by omega⟩ dL_areSame_4 ?_
  refine j_if_eq_f (tgt := 14) C dL_areSame_7 (by decide) hrr ?_
  refine j_lconst (v := 1) C dL_areSame_10 rfl ?_
  refine j_goto (tgt := 15) C dL_areSame_11 (by decide) ?_
  refine j_putN (ws' := (oW E t sz sg la dk ot z2 g2 b2 cr2 ca2 cg2 ck2 1 os rest)) C 5 rfl inj_X4 tyX4 tyX4_ok nmX4 rfl 0 (by decide) (List.mem_of_getElem? (i := 1) rfl) rfl (tyX4_ok 0 (by decide)) rfl rfl (Nat.le_of_ble_eq_true rfl) dL_areSame_15 rfl ?_
  refine j_goto (tgt := 25) C dL_areSame_18 (by decide) ?_
  refine j_iconst (v := (nI 0)) C dL_areSame_25 rfl ?_
  exact j_iret C hQ rfl dL_areSame_26 ⟨by omega, by omega⟩ ⟨rfl, rfl⟩
set_option maxHeartbeats 4000000 in
set_option maxRecDepth 100000 in
theorem w_areSame_f (l : Launch) (E : jE) (A : Nat → Prop) {t sz sg la dk ot : Nat} {z g b z2 g2 b2 : Nat → Int32} {cr ca cg ck cr2 ca2 cg2 ck2 : Int32} {on : Int64} {os : Value} {rest : va_W} {mcf msf : Nat} {a0 a1 : Int32} {rr : Int32} (hrr : rr = 0) (hM : jMet l yX3_areSame cX3_areSame 3 (some .boolean) 5 mcf msf E A [.ref dk, .int a0, .int a1] (dW E t sz sg la dk z g b cr ca cg ck ((ot, .inr (4, [.long on, os])) :: rest)) (jR (some (.int rr)) (dW E t sz sg la dk z2 g2 b2 cr2 ca2 cg2 ck2 ((ot, .inr (4, [.long on, os])) :: rest))) jNo) : jMetH l yL_areSame cL_areSame 5 (some .int) [(0, 18, 21, 19)] 6 mcf msf E A [.ref dk, .int a0, .int a1, .ref ot] (oW E t sz sg la dk ot z g b cr ca cg ck on os rest) (jR (some (.int (nI 0))) (oW E t sz sg la dk ot z2 g2 b2 cr2 ca2 cg2 ck2 0 os rest)) := by
  refine jMetH.intro [(0, .ref dk), (1, .int a0), (2, .int a1), (3, .ref ot)] (by decide) (by decide) (Nat.le_of_ble_eq_true rfl) rfl ?_
  intro p e R s m args below meth c Q C htab hQ
  refine j_aload_n C dL_areSame_0 rfl ?_
  refine j_aload_n C dL_areSame_1 rfl ?_
  refine j_iload_n C dL_areSame_2 rfl ?_
  refine j_iload_n C dL_areSame_3 rfl ?_
  refine j_callVr C 4 (v := .int rr) (w := (oW E t sz sg la dk ot z2 g2 b2 cr2 ca2 cg2 ck2 on os rest)) (hM) ok_X3_areSame w_888 (by omega) rfl rfl (Nat.le_of_ble_eq_true rfl) rfl rfl ⟨by omega, by omega⟩ dL_areSame_4 ?_
  refine j_if_eq_t (tgt := 14) C dL_areSame_7 (by decide) hrr ?_
  refine j_lconst (v := 0) C dL_areSame_14 rfl ?_
  refine j_putN (ws' := (oW E t sz sg la dk ot z2 g2 b2 cr2 ca2 cg2 ck2 0 os rest)) C 5 rfl inj_X4 tyX4 tyX4_ok nmX4 rfl 0 (by decide) (List.mem_of_getElem? (i := 1) rfl) rfl (tyX4_ok 0 (by decide)) rfl rfl (Nat.le_of_ble_eq_true rfl) dL_areSame_15 rfl ?_
  refine j_goto (tgt := 25) C dL_areSame_18 (by decide) ?_
  refine j_iconst (v := (nI 0)) C dL_areSame_25 rfl ?_
  exact j_iret C hQ rfl dL_areSame_26 ⟨by omega, by omega⟩ ⟨rfl, rfl⟩
set_option maxHeartbeats 4000000 in
set_option maxRecDepth 100000 in
theorem w_areSame_jIO (l : Launch) (E : jE) (A : Nat → Prop) {t sz sg la dk ot : Nat} {z g b : Nat → Int32} {cr ca cg ck : Int32} {on : Int64} {os : Value} {rest : va_W} {mcf msf : Nat} {a0 a1 : Int32} (hM : jMet l yX3_areSame cX3_areSame 3 (some .boolean) 5 mcf msf E A [.ref dk, .int a0, .int a1] (dW E t sz sg la dk z g b cr ca cg ck ((ot, .inr (4, [.long on, os])) :: rest)) jNv (jT jIO (dW E t sz sg la dk z g b cr ca cg ck ((ot, .inr (4, [.long on, os])) :: rest)))) : jMetH l yL_areSame cL_areSame 5 (some .int) [(0, 18, 21, 19)] 6 mcf msf E A [.ref dk, .int a0, .int a1, .ref ot] (oW E t sz sg la dk ot z g b cr ca cg ck on os rest) (jR (some (.int (nI 1))) (oW E t sz sg la dk ot z g b cr ca cg ck on os rest)) := by
  refine jMetH.intro [(0, .ref dk), (1, .int a0), (2, .int a1), (3, .ref ot)] (by decide) (by decide) (Nat.le_of_ble_eq_true rfl) rfl ?_
  intro p e R s m args below meth c Q C htab hQ
  refine j_aload_n C dL_areSame_0 rfl ?_
  refine j_aload_n C dL_areSame_1 rfl ?_
  refine j_iload_n C dL_areSame_2 rfl ?_
  refine j_iload_n C dL_areSame_3 rfl ?_
  refine j_callVx C 4 (hM) ok_X3_areSame w_888 (by omega) rfl rfl (Nat.le_of_ble_eq_true rfl) rfl rfl ⟨by omega, by omega⟩ dL_areSame_4 ?_
  refine j_catch C (En := jIO) (tgt := 21) htab [] ⟨0, 18, 21, 19⟩ [] rfl (fun _ h => absurd h List.not_mem_nil) rfl (by decide) w_265 jxc_jIO rfl (fun qx => ?_)
  refine j_astore (lv' := [(4, .ref qx), (0, .ref dk), (1, .int a0), (2, .int a1), (3, .ref ot)]) C dL_areSame_21 (by decide) rfl ?_
  refine j_iconst (v := (nI 1)) C dL_areSame_23 rfl ?_
  exact j_iret C hQ rfl dL_areSame_24 ⟨by omega, by omega⟩ ⟨rfl, rfl⟩
set_option maxHeartbeats 4000000 in
set_option maxRecDepth 100000 in
theorem w_code_r (l : Launch) (E : jE) (A : Nat → Prop) {t sz sg la dk ot : Nat} {z g b z2 g2 b2 : Nat → Int32} {cr ca cg ck cr2 ca2 cg2 ck2 : Int32} {on : Int64} {os : Value} {rest : va_W} {mcf msf : Nat} {a0 : Int32} {rr : Int32} (hM : jMet l yX3_code cX3_code 2 (some .int) 5 mcf msf E A [.ref dk, .int a0] (dW E t sz sg la dk z g b cr ca cg ck ((ot, .inr (4, [.long on, os])) :: rest)) (jR (some (.int rr)) (dW E t sz sg la dk z2 g2 b2 cr2 ca2 cg2 ck2 ((ot, .inr (4, [.long on, os])) :: rest))) jNo) : jMetH l yL_code cL_code 4 (some .int) [(0, 10, 13, 19)] 6 mcf msf E A [.ref dk, .int a0, .ref ot] (oW E t sz sg la dk ot z g b cr ca cg ck on os rest) (jR (some (.int (nI 0))) (oW E t sz sg la dk ot z2 g2 b2 cr2 ca2 cg2 ck2 rr.toInt64 os rest)) := by
  refine jMetH.intro [(0, .ref dk), (1, .int a0), (2, .ref ot)] (by decide) (by decide) (Nat.le_of_ble_eq_true rfl) rfl ?_
  intro p e R s m args below meth c Q C htab hQ
  refine j_aload_n C dL_code_0 rfl ?_
  refine j_aload_n C dL_code_1 rfl ?_
  refine j_iload_n C dL_code_2 rfl ?_
  refine j_callVr C 4 (v := .int rr) (w := (oW E t sz sg la dk ot z2 g2 b2 cr2 ca2 cg2 ck2 on os rest)) (hM) ok_X3_code w_895 (by omega) rfl rfl (Nat.le_of_ble_eq_true rfl) rfl rfl ⟨by omega, by omega⟩ dL_code_3 ?_
  refine j_i2l (v := rr.toInt64) C dL_code_6 rfl ?_
  refine j_putN (ws' := (oW E t sz sg la dk ot z2 g2 b2 cr2 ca2 cg2 ck2 rr.toInt64 os rest)) C 5 rfl inj_X4 tyX4 tyX4_ok nmX4 rfl 0 (by decide) (List.mem_of_getElem? (i := 1) rfl) rfl (tyX4_ok 0 (by decide)) rfl rfl (Nat.le_of_ble_eq_true rfl) dL_code_7 rfl ?_
  refine j_goto (tgt := 16) C dL_code_10 (by decide) ?_
  refine j_iconst (v := (nI 0)) C dL_code_16 rfl ?_
  exact j_iret C hQ rfl dL_code_17 ⟨by omega, by omega⟩ ⟨rfl, rfl⟩
set_option maxHeartbeats 4000000 in
set_option maxRecDepth 100000 in
theorem w_code_jIO (l : Launch) (E : jE) (A : Nat → Prop) {t sz sg la dk ot : Nat} {z g b : Nat → Int32} {cr ca cg ck : Int32} {on : Int64} {os : Value} {rest : va_W} {mcf msf : Nat} {a0 : Int32} (hM : jMet l yX3_code cX3_code 2 (some .int) 5 mcf msf E A [.ref dk, .int a0] (dW E t sz sg la dk z g b cr ca cg ck ((ot, .inr (4, [.long on, os])) :: rest)) jNv (jT jIO (dW E t sz sg la dk z g b cr ca cg ck ((ot, .inr (4, [.long on, os])) :: rest)))) : jMetH l yL_code cL_code 4 (some .int) [(0, 10, 13, 19)] 6 mcf msf E A [.ref dk, .int a0, .ref ot] (oW E t sz sg la dk ot z g b cr ca cg ck on os rest) (jR (some (.int (nI 1))) (oW E t sz sg la dk ot z g b cr ca cg ck on os rest)) := by
  refine jMetH.intro [(0, .ref dk), (1, .int a0), (2, .ref ot)] (by decide) (by decide) (Nat.le_of_ble_eq_true rfl) rfl ?_
  intro p e R s m args below meth c Q C htab hQ
  refine j_aload_n C dL_code_0 rfl ?_
  refine j_aload_n C dL_code_1 rfl ?_
  refine j_iload_n C dL_code_2 rfl ?_
  refine j_callVx C 4 (hM) ok_X3_code w_895 (by omega) rfl rfl (Nat.le_of_ble_eq_true rfl) rfl rfl ⟨by omega, by omega⟩ dL_code_3 ?_
  refine j_catch C (En := jIO) (tgt := 13) htab [] ⟨0, 10, 13, 19⟩ [] rfl (fun _ h => absurd h List.not_mem_nil) rfl (by decide) w_265 jxc_jIO rfl (fun qx => ?_)
  refine j_astore_n (lv' := [(3, .ref qx), (0, .ref dk), (1, .int a0), (2, .ref ot)]) C dL_code_13 (by decide) rfl ?_
  refine j_iconst (v := (nI 1)) C dL_code_14 rfl ?_
  exact j_iret C hQ rfl dL_code_15 ⟨by omega, by omega⟩ ⟨rfl, rfl⟩
set_option maxHeartbeats 4000000 in
set_option maxRecDepth 100000 in
theorem w_codes_r (l : Launch) (E : jE) (A : Nat → Prop) {t sz sg la dk ot : Nat} {z g b z2 g2 b2 : Nat → Int32} {cr ca cg ck cr2 ca2 cg2 ck2 : Int32} {on : Int64} {os : Value} {rest : va_W} {mcf msf : Nat} {a0 a1 a2 : Int32} {rr : Int32} (hM : jMet l yX3_codes cX3_codes 4 (some .int) 5 mcf msf E A [.ref dk, .int a0, .int a1, .int a2] (dW E t sz sg la dk z g b cr ca cg ck ((ot, .inr (4, [.long on, os])) :: rest)) (jR (some (.int rr)) (dW E t sz sg la dk z2 g2 b2 cr2 ca2 cg2 ck2 ((ot, .inr (4, [.long on, os])) :: rest))) jNo) : jMetH l yL_codes cL_codes 6 (some .int) [(0, 13, 16, 19)] 6 mcf msf E A [.ref dk, .int a0, .int a1, .int a2, .ref ot] (oW E t sz sg la dk ot z g b cr ca cg ck on os rest) (jR (some (.int (nI 0))) (oW E t sz sg la dk ot z2 g2 b2 cr2 ca2 cg2 ck2 rr.toInt64 os rest)) := by
  refine jMetH.intro [(0, .ref dk), (1, .int a0), (2, .int a1), (3, .int a2), (4, .ref ot)] (by decide) (by decide) (Nat.le_of_ble_eq_true rfl) rfl ?_
  intro p e R s m args below meth c Q C htab hQ
  refine j_aload C dL_codes_0 rfl ?_
  refine j_aload_n C dL_codes_2 rfl ?_
  refine j_iload_n C dL_codes_3 rfl ?_
  refine j_iload_n C dL_codes_4 rfl ?_
  refine j_iload_n C dL_codes_5 rfl ?_
  refine j_callVr C 4 (v := .int rr) (w := (oW E t sz sg la dk ot z2 g2 b2 cr2 ca2 cg2 ck2 on os rest)) (hM) ok_X3_codes w_902 (by omega) rfl rfl (Nat.le_of_ble_eq_true rfl) rfl rfl ⟨by omega, by omega⟩ dL_codes_6 ?_
  refine j_i2l (v := rr.toInt64) C dL_codes_9 rfl ?_
  refine j_putN (ws' := (oW E t sz sg la dk ot z2 g2 b2 cr2 ca2 cg2 ck2 rr.toInt64 os rest)) C 5 rfl inj_X4 tyX4 tyX4_ok nmX4 rfl 0 (by decide) (List.mem_of_getElem? (i := 1) rfl) rfl (tyX4_ok 0 (by decide)) rfl rfl (Nat.le_of_ble_eq_true rfl) dL_codes_10 rfl ?_
  refine j_goto (tgt := 20) C dL_codes_13 (by decide) ?_
  refine j_iconst (v := (nI 0)) C dL_codes_20 rfl ?_
  exact j_iret C hQ rfl dL_codes_21 ⟨by omega, by omega⟩ ⟨rfl, rfl⟩
set_option maxHeartbeats 4000000 in
set_option maxRecDepth 100000 in
theorem w_codes_jIO (l : Launch) (E : jE) (A : Nat → Prop) {t sz sg la dk ot : Nat} {z g b : Nat → Int32} {cr ca cg ck : Int32} {on : Int64} {os : Value} {rest : va_W} {mcf msf : Nat} {a0 a1 a2 : Int32} (hM : jMet l yX3_codes cX3_codes 4 (some .int) 5 mcf msf E A [.ref dk, .int a0, .int a1, .int a2] (dW E t sz sg la dk z g b cr ca cg ck ((ot, .inr (4, [.long on, os])) :: rest)) jNv (jT jIO (dW E t sz sg la dk z g b cr ca cg ck ((ot, .inr (4, [.long on, os])) :: rest)))) : jMetH l yL_codes cL_codes 6 (some .int) [(0, 13, 16, 19)] 6 mcf msf E A [.ref dk, .int a0, .int a1, .int a2, .ref ot] (oW E t sz sg la dk ot z g b cr ca cg ck on os rest) (jR (some (.int (nI 1))) (oW E t sz sg la dk ot z g b cr ca cg ck on os rest)) := by
  refine jMetH.intro [(0, .ref dk), (1, .int a0), (2, .int a1), (3, .int a2), (4, .ref ot)] (by decide) (by decide) (Nat.le_of_ble_eq_true rfl) rfl ?_
  intro p e R s m args below meth c Q C htab hQ
  refine j_aload C dL_codes_0 rfl ?_
  refine j_aload_n C dL_codes_2 rfl ?_
  refine j_iload_n C dL_codes_3 rfl ?_
  refine j_iload_n C dL_codes_4 rfl ?_
  refine j_iload_n C dL_codes_5 rfl ?_
  refine j_callVx C 4 (hM) ok_X3_codes w_902 (by omega) rfl rfl (Nat.le_of_ble_eq_true rfl) rfl rfl ⟨by omega, by omega⟩ dL_codes_6 ?_
  refine j_catch C (En := jIO) (tgt := 16) htab [] ⟨0, 13, 16, 19⟩ [] rfl (fun _ h => absurd h List.not_mem_nil) rfl (by decide) w_265 jxc_jIO rfl (fun qx => ?_)
  refine j_astore (lv' := [(5, .ref qx), (0, .ref dk), (1, .int a0), (2, .int a1), (3, .int a2), (4, .ref ot)]) C dL_codes_16 (by decide) rfl ?_
  refine j_iconst (v := (nI 1)) C dL_codes_18 rfl ?_
  exact j_iret C hQ rfl dL_codes_19 ⟨by omega, by omega⟩ ⟨rfl, rfl⟩
set_option maxHeartbeats 4000000 in
set_option maxRecDepth 100000 in
theorem w_compare_r (l : Launch) (E : jE) (A : Nat → Prop) {t sz sg la dk ot : Nat} {z g b z2 g2 b2 : Nat → Int32} {cr ca cg ck cr2 ca2 cg2 ck2 : Int32} {on : Int64} {os : Value} {rest : va_W} {mcf msf : Nat} {a0 a1 : Int32} {rr : Int32} (hM : jMet l yX3_compare cX3_compare 3 (some .int) 5 mcf msf E A [.ref dk, .int a0, .int a1] (dW E t sz sg la dk z g b cr ca cg ck ((ot, .inr (4, [.long on, os])) :: rest)) (jR (some (.int rr)) (dW E t sz sg la dk z2 g2 b2 cr2 ca2 cg2 ck2 ((ot, .inr (4, [.long on, os])) :: rest))) jNo) : jMetH l yL_compare cL_compare 5 (some .int) [(0, 11, 14, 19)] 6 mcf msf E A [.ref dk, .int a0, .int a1, .ref ot] (oW E t sz sg la dk ot z g b cr ca cg ck on os rest) (jR (some (.int (nI 0))) (oW E t sz sg la dk ot z2 g2 b2 cr2 ca2 cg2 ck2 rr.toInt64 os rest)) := by
  refine jMetH.intro [(0, .ref dk), (1, .int a0), (2, .int a1), (3, .ref ot)] (by decide) (by decide) (Nat.le_of_ble_eq_true rfl) rfl ?_
  intro p e R s m args below meth c Q C htab hQ
  refine j_aload_n C dL_compare_0 rfl ?_
  refine j_aload_n C dL_compare_1 rfl ?_
  refine j_iload_n C dL_compare_2 rfl ?_
  refine j_iload_n C dL_compare_3 rfl ?_
  refine j_callVr C 4 (v := .int rr) (w := (oW E t sz sg la dk ot z2 g2 b2 cr2 ca2 cg2 ck2 on os rest)) (hM) ok_X3_compare w_796 (by omega) rfl rfl (Nat.le_of_ble_eq_true rfl) rfl rfl ⟨by omega, by omega⟩ dL_compare_4 ?_
  refine j_i2l (v := rr.toInt64) C dL_compare_7 rfl ?_
  refine j_putN (ws' := (oW E t sz sg la dk ot z2 g2 b2 cr2 ca2 cg2 ck2 rr.toInt64 os rest)) C 5 rfl inj_X4 tyX4 tyX4_ok nmX4 rfl 0 (by decide) (List.mem_of_getElem? (i := 1) rfl) rfl (tyX4_ok 0 (by decide)) rfl rfl (Nat.le_of_ble_eq_true rfl) dL_compare_8 rfl ?_
  refine j_goto (tgt := 18) C dL_compare_11 (by decide) ?_
  refine j_iconst (v := (nI 0)) C dL_compare_18 rfl ?_
  exact j_iret C hQ rfl dL_compare_19 ⟨by omega, by omega⟩ ⟨rfl, rfl⟩
set_option maxHeartbeats 4000000 in
set_option maxRecDepth 100000 in
theorem w_compare_jIO (l : Launch) (E : jE) (A : Nat → Prop) {t sz sg la dk ot : Nat} {z g b : Nat → Int32} {cr ca cg ck : Int32} {on : Int64} {os : Value} {rest : va_W} {mcf msf : Nat} {a0 a1 : Int32} (hM : jMet l yX3_compare cX3_compare 3 (some .int) 5 mcf msf E A [.ref dk, .int a0, .int a1] (dW E t sz sg la dk z g b cr ca cg ck ((ot, .inr (4, [.long on, os])) :: rest)) jNv (jT jIO (dW E t sz sg la dk z g b cr ca cg ck ((ot, .inr (4, [.long on, os])) :: rest)))) : jMetH l yL_compare cL_compare 5 (some .int) [(0, 11, 14, 19)] 6 mcf msf E A [.ref dk, .int a0, .int a1, .ref ot] (oW E t sz sg la dk ot z g b cr ca cg ck on os rest) (jR (some (.int (nI 1))) (oW E t sz sg la dk ot z g b cr ca cg ck on os rest)) := by
  refine jMetH.intro [(0, .ref dk), (1, .int a0), (2, .int a1), (3, .ref ot)] (by decide) (by decide) (Nat.le_of_ble_eq_true rfl) rfl ?_
  intro p e R s m args below meth c Q C htab hQ
  refine j_aload_n C dL_compare_0 rfl ?_
  refine j_aload_n C dL_compare_1 rfl ?_
  refine j_iload_n C dL_compare_2 rfl ?_
  refine j_iload_n C dL_compare_3 rfl ?_
  refine j_callVx C 4 (hM) ok_X3_compare w_796 (by omega) rfl rfl (Nat.le_of_ble_eq_true rfl) rfl rfl ⟨by omega, by omega⟩ dL_compare_4 ?_
  refine j_catch C (En := jIO) (tgt := 14) htab [] ⟨0, 11, 14, 19⟩ [] rfl (fun _ h => absurd h List.not_mem_nil) rfl (by decide) w_265 jxc_jIO rfl (fun qx => ?_)
  refine j_astore (lv' := [(4, .ref qx), (0, .ref dk), (1, .int a0), (2, .int a1), (3, .ref ot)]) C dL_compare_14 (by decide) rfl ?_
  refine j_iconst (v := (nI 1)) C dL_compare_16 rfl ?_
  exact j_iret C hQ rfl dL_compare_17 ⟨by omega, by omega⟩ ⟨rfl, rfl⟩
set_option maxHeartbeats 4000000 in
set_option maxRecDepth 100000 in
theorem w_compareParts_r (l : Launch) (E : jE) (A : Nat → Prop) {t sz sg la dk ot : Nat} {z g b z2 g2 b2 : Nat → Int32} {cr ca cg ck cr2 ca2 cg2 ck2 : Int32} {on : Int64} {os : Value} {rest : va_W} {mcf msf : Nat} {a0 a1 a2 a3 : Int32} {rr : Int32} (hM : jMet l yX3_compareParts cX3_compareParts 5 (some .int) 5 mcf msf E A [.ref dk, .int a0, .int a1, .int a2, .int a3] (dW E t sz sg la dk z g b cr ca cg ck ((ot, .inr (4, [.long on, os])) :: rest)) (jR (some (.int rr)) (dW E t sz sg la dk z2 g2 b2 cr2 ca2 cg2 ck2 ((ot, .inr (4, [.long on, os])) :: rest))) jNo) : jMetH l yL_compareParts cL_compareParts 7 (some .int) [(0, 15, 18, 19)] 6 mcf msf E A [.ref dk, .int a0, .int a1, .int a2, .int a3, .ref ot] (oW E t sz sg la dk ot z g b cr ca cg ck on os rest) (jR (some (.int (nI 0))) (oW E t sz sg la dk ot z2 g2 b2 cr2 ca2 cg2 ck2 rr.toInt64 os rest)) := by
  refine jMetH.intro [(0, .ref dk), (1, .int a0), (2, .int a1), (3, .int a2), (4, .int a3), (5, .ref ot)] (by decide) (by decide) (Nat.le_of_ble_eq_true rfl) rfl ?_
  intro p e R s m args below meth c Q C htab hQ
  refine j_aload C dL_compareParts_0 rfl ?_
  refine j_aload_n C dL_compareParts_2 rfl ?_
  refine j_iload_n C dL_compareParts_3 rfl ?_
  refine j_iload_n C dL_compareParts_4 rfl ?_
  refine j_iload_n C dL_compareParts_5 rfl ?_
  refine j_iload C dL_compareParts_6 rfl ?_
  refine j_callVr C 4 (v := .int rr) (w := (oW E t sz sg la dk ot z2 g2 b2 cr2 ca2 cg2 ck2 on os rest)) (hM) ok_X3_compareParts w_804 (by omega) rfl rfl (Nat.le_of_ble_eq_true rfl) rfl rfl ⟨by omega, by omega⟩ dL_compareParts_8 ?_
  refine j_i2l (v := rr.toInt64) C dL_compareParts_11 rfl ?_
  refine j_putN (ws' := (oW E t sz sg la dk ot z2 g2 b2 cr2 ca2 cg2 ck2 rr.toInt64 os rest)) C 5 rfl inj_X4 tyX4 tyX4_ok nmX4 rfl 0 (by decide) (List.mem_of_getElem? (i := 1) rfl) rfl (tyX4_ok 0 (by decide)) rfl rfl (Nat.le_of_ble_eq_true rfl) dL_compareParts_12 rfl ?_
  refine j_goto (tgt := 22) C dL_compareParts_15 (by decide) ?_
  refine j_iconst (v := (nI 0)) C dL_compareParts_22 rfl ?_
  exact j_iret C hQ rfl dL_compareParts_23 ⟨by omega, by omega⟩ ⟨rfl, rfl⟩
set_option maxHeartbeats 4000000 in
set_option maxRecDepth 100000 in
theorem w_compareParts_jIO (l : Launch) (E : jE) (A : Nat → Prop) {t sz sg la dk ot : Nat} {z g b : Nat → Int32} {cr ca cg ck : Int32} {on : Int64} {os : Value} {rest : va_W} {mcf msf : Nat} {a0 a1 a2 a3 : Int32} (hM : jMet l yX3_compareParts cX3_compareParts 5 (some .int) 5 mcf msf E A [.ref dk, .int a0, .int a1, .int a2, .int a3] (dW E t sz sg la dk z g b cr ca cg ck ((ot, .inr (4, [.long on, os])) :: rest)) jNv (jT jIO (dW E t sz sg la dk z g b cr ca cg ck ((ot, .inr (4, [.long on, os])) :: rest)))) : jMetH l yL_compareParts cL_compareParts 7 (some .int) [(0, 15, 18, 19)] 6 mcf msf E A [.ref dk, .int a0, .int a1, .int a2, .int a3, .ref ot] (oW E t sz sg la dk ot z g b cr ca cg ck on os rest) (jR (some (.int (nI 1))) (oW E t sz sg la dk ot z g b cr ca cg ck on os rest)) := by
  refine jMetH.intro [(0, .ref dk), (1, .int a0), (2, .int a1), (3, .int a2), (4, .int a3), (5, .ref ot)] (by decide) (by decide) (Nat.le_of_ble_eq_true rfl) rfl ?_
  intro p e R s m args below meth c Q C htab hQ
  refine j_aload C dL_compareParts_0 rfl ?_
  refine j_aload_n C dL_compareParts_2 rfl ?_
  refine j_iload_n C dL_compareParts_3 rfl ?_
  refine j_iload_n C dL_compareParts_4 rfl ?_
  refine j_iload_n C dL_compareParts_5 rfl ?_
  refine j_iload C dL_compareParts_6 rfl ?_
  refine j_callVx C 4 (hM) ok_X3_compareParts w_804 (by omega) rfl rfl (Nat.le_of_ble_eq_true rfl) rfl rfl ⟨by omega, by omega⟩ dL_compareParts_8 ?_
  refine j_catch C (En := jIO) (tgt := 18) htab [] ⟨0, 15, 18, 19⟩ [] rfl (fun _ h => absurd h List.not_mem_nil) rfl (by decide) w_265 jxc_jIO rfl (fun qx => ?_)
  refine j_astore (lv' := [(6, .ref qx), (0, .ref dk), (1, .int a0), (2, .int a1), (3, .int a2), (4, .int a3), (5, .ref ot)]) C dL_compareParts_18 (by decide) rfl ?_
  refine j_iconst (v := (nI 1)) C dL_compareParts_20 rfl ?_
  exact j_iret C hQ rfl dL_compareParts_21 ⟨by omega, by omega⟩ ⟨rfl, rfl⟩
set_option maxHeartbeats 4000000 in
set_option maxRecDepth 100000 in
theorem w_copy_r (l : Launch) (E : jE) (A : Nat → Prop) {t sz sg la dk ot : Nat} {z g b z2 g2 b2 : Nat → Int32} {cr ca cg ck cr2 ca2 cg2 ck2 : Int32} {on : Int64} {os : Value} {rest : va_W} {mcf msf : Nat} {a0 a1 : Int32} {rr : Int32} (hM : jMet l yX3_copy cX3_copy 3 (some .int) 5 mcf msf E A [.ref dk, .int a0, .int a1] (dW E t sz sg la dk z g b cr ca cg ck ((ot, .inr (4, [.long on, os])) :: rest)) (jR (some (.int rr)) (dW E t sz sg la dk z2 g2 b2 cr2 ca2 cg2 ck2 ((ot, .inr (4, [.long on, os])) :: rest))) jNo) : jMetH l yL_copy cL_copy 5 (some .int) [(0, 11, 14, 19)] 6 mcf msf E A [.ref dk, .int a0, .int a1, .ref ot] (oW E t sz sg la dk ot z g b cr ca cg ck on os rest) (jR (some (.int (nI 0))) (oW E t sz sg la dk ot z2 g2 b2 cr2 ca2 cg2 ck2 rr.toInt64 os rest)) := by
  refine jMetH.intro [(0, .ref dk), (1, .int a0), (2, .int a1), (3, .ref ot)] (by decide) (by decide) (Nat.le_of_ble_eq_true rfl) rfl ?_
  intro p e R s m args below meth c Q C htab hQ
  refine j_aload_n C dL_copy_0 rfl ?_
  refine j_aload_n C dL_copy_1 rfl ?_
  refine j_iload_n C dL_copy_2 rfl ?_
  refine j_iload_n C dL_copy_3 rfl ?_
  refine j_callVr C 4 (v := .int rr) (w := (oW E t sz sg la dk ot z2 g2 b2 cr2 ca2 cg2 ck2 on os rest)) (hM) ok_X3_copy w_445 (by omega) rfl rfl (Nat.le_of_ble_eq_true rfl) rfl rfl ⟨by omega, by omega⟩ dL_copy_4 ?_
  refine j_i2l (v := rr.toInt64) C dL_copy_7 rfl ?_
  refine j_putN (ws' := (oW E t sz sg la dk ot z2 g2 b2 cr2 ca2 cg2 ck2 rr.toInt64 os rest)) C 5 rfl inj_X4 tyX4 tyX4_ok nmX4 rfl 0 (by decide) (List.mem_of_getElem? (i := 1) rfl) rfl (tyX4_ok 0 (by decide)) rfl rfl (Nat.le_of_ble_eq_true rfl) dL_copy_8 rfl ?_
  refine j_goto (tgt := 18) C dL_copy_11 (by decide) ?_
  refine j_iconst (v := (nI 0)) C dL_copy_18 rfl ?_
  exact j_iret C hQ rfl dL_copy_19 ⟨by omega, by omega⟩ ⟨rfl, rfl⟩
set_option maxHeartbeats 4000000 in
set_option maxRecDepth 100000 in
theorem w_copy_jIO (l : Launch) (E : jE) (A : Nat → Prop) {t sz sg la dk ot : Nat} {z g b : Nat → Int32} {cr ca cg ck : Int32} {on : Int64} {os : Value} {rest : va_W} {mcf msf : Nat} {a0 a1 : Int32} (hM : jMet l yX3_copy cX3_copy 3 (some .int) 5 mcf msf E A [.ref dk, .int a0, .int a1] (dW E t sz sg la dk z g b cr ca cg ck ((ot, .inr (4, [.long on, os])) :: rest)) jNv (jT jIO (dW E t sz sg la dk z g b cr ca cg ck ((ot, .inr (4, [.long on, os])) :: rest)))) : jMetH l yL_copy cL_copy 5 (some .int) [(0, 11, 14, 19)] 6 mcf msf E A [.ref dk, .int a0, .int a1, .ref ot] (oW E t sz sg la dk ot z g b cr ca cg ck on os rest) (jR (some (.int (nI 1))) (oW E t sz sg la dk ot z g b cr ca cg ck on os rest)) := by
  refine jMetH.intro [(0, .ref dk), (1, .int a0), (2, .int a1), (3, .ref ot)] (by decide) (by decide) (Nat.le_of_ble_eq_true rfl) rfl ?_
  intro p e R s m args below meth c Q C htab hQ
  refine j_aload_n C dL_copy_0 rfl ?_
  refine j_aload_n C dL_copy_1 rfl ?_
  refine j_iload_n C dL_copy_2 rfl ?_
  refine j_iload_n C dL_copy_3 rfl ?_
  refine j_callVx C 4 (hM) ok_X3_copy w_445 (by omega) rfl rfl (Nat.le_of_ble_eq_true rfl) rfl rfl ⟨by omega, by omega⟩ dL_copy_4 ?_
  refine j_catch C (En := jIO) (tgt := 14) htab [] ⟨0, 11, 14, 19⟩ [] rfl (fun _ h => absurd h List.not_mem_nil) rfl (by decide) w_265 jxc_jIO rfl (fun qx => ?_)
  refine j_astore (lv' := [(4, .ref qx), (0, .ref dk), (1, .int a0), (2, .int a1), (3, .ref ot)]) C dL_copy_14 (by decide) rfl ?_
  refine j_iconst (v := (nI 1)) C dL_copy_16 rfl ?_
  exact j_iret C hQ rfl dL_copy_17 ⟨by omega, by omega⟩ ⟨rfl, rfl⟩
set_option maxHeartbeats 4000000 in
set_option maxRecDepth 100000 in
theorem w_cut_r (l : Launch) (E : jE) (A : Nat → Prop) {t sz sg la dk ot : Nat} {z g b z2 g2 b2 : Nat → Int32} {cr ca cg ck cr2 ca2 cg2 ck2 : Int32} {on : Int64} {os : Value} {rest : va_W} {mcf msf : Nat} {a0 a1 a2 : Int32} {rr : Int32} (hM : jMet l yX3_cut cX3_cut 4 (some .int) 5 mcf msf E A [.ref dk, .int a0, .int a1, .int a2] (dW E t sz sg la dk z g b cr ca cg ck ((ot, .inr (4, [.long on, os])) :: rest)) (jR (some (.int rr)) (dW E t sz sg la dk z2 g2 b2 cr2 ca2 cg2 ck2 ((ot, .inr (4, [.long on, os])) :: rest))) jNo) : jMetH l yL_cut cL_cut 6 (some .int) [(0, 13, 16, 19), (0, 13, 20, 23)] 6 mcf msf E A [.ref dk, .int a0, .int a1, .int a2, .ref ot] (oW E t sz sg la dk ot z g b cr ca cg ck on os rest) (jR (some (.int (nI 0))) (oW E t sz sg la dk ot z2 g2 b2 cr2 ca2 cg2 ck2 rr.toInt64 os rest)) := by
  refine jMetH.intro [(0, .ref dk), (1, .int a0), (2, .int a1), (3, .int a2), (4, .ref ot)] (by decide) (by decide) (Nat.le_of_ble_eq_true rfl) rfl ?_
  intro p e R s m args below meth c Q C htab hQ
  refine j_aload C dL_cut_0 rfl ?_
  refine j_aload_n C dL_cut_2 rfl ?_
  refine j_iload_n C dL_cut_3 rfl ?_
  refine j_iload_n C dL_cut_4 rfl ?_
  refine j_iload_n C dL_cut_5 rfl ?_
  refine j_callVr C 4 (v := .int rr) (w := (oW E t sz sg la dk ot z2 g2 b2 cr2 ca2 cg2 ck2 on os rest)) (hM) ok_X3_cut w_417 (by omega) rfl rfl (Nat.le_of_ble_eq_true rfl) rfl rfl ⟨by omega, by omega⟩ dL_cut_6 ?_
  refine j_i2l (v := rr.toInt64) C dL_cut_9 rfl ?_
  refine j_putN (ws' := (oW E t sz sg la dk ot z2 g2 b2 cr2 ca2 cg2 ck2 rr.toInt64 os rest)) C 5 rfl inj_X4 tyX4 tyX4_ok nmX4 rfl 0 (by decide) (List.mem_of_getElem? (i := 1) rfl) rfl (tyX4_ok 0 (by decide)) rfl rfl (Nat.le_of_ble_eq_true rfl) dL_cut_10 rfl ?_
  refine j_goto (tgt := 24) C dL_cut_13 (by decide) ?_
  refine j_iconst (v := (nI 0)) C dL_cut_24 rfl ?_
  exact j_iret C hQ rfl dL_cut_25 ⟨by omega, by omega⟩ ⟨rfl, rfl⟩
set_option maxHeartbeats 4000000 in
set_option maxRecDepth 100000 in
theorem w_cut_jIO (l : Launch) (E : jE) (A : Nat → Prop) {t sz sg la dk ot : Nat} {z g b : Nat → Int32} {cr ca cg ck : Int32} {on : Int64} {os : Value} {rest : va_W} {mcf msf : Nat} {a0 a1 a2 : Int32} (hM : jMet l yX3_cut cX3_cut 4 (some .int) 5 mcf msf E A [.ref dk, .int a0, .int a1, .int a2] (dW E t sz sg la dk z g b cr ca cg ck ((ot, .inr (4, [.long on, os])) :: rest)) jNv (jT jIO (dW E t sz sg la dk z g b cr ca cg ck ((ot, .inr (4, [.long on, os])) :: rest)))) : jMetH l yL_cut cL_cut 6 (some .int) [(0, 13, 16, 19), (0, 13, 20, 23)] 6 mcf msf E A [.ref dk, .int a0, .int a1, .int a2, .ref ot] (oW E t sz sg la dk ot z g b cr ca cg ck on os rest) (jR (some (.int (nI 1))) (oW E t sz sg la dk ot z g b cr ca cg ck on os rest)) := by
  refine jMetH.intro [(0, .ref dk), (1, .int a0), (2, .int a1), (3, .int a2), (4, .ref ot)] (by decide) (by decide) (Nat.le_of_ble_eq_true rfl) rfl ?_
  intro p e R s m args below meth c Q C htab hQ
  refine j_aload C dL_cut_0 rfl ?_
  refine j_aload_n C dL_cut_2 rfl ?_
  refine j_iload_n C dL_cut_3 rfl ?_
  refine j_iload_n C dL_cut_4 rfl ?_
  refine j_iload_n C dL_cut_5 rfl ?_
  refine j_callVx C 4 (hM) ok_X3_cut w_417 (by omega) rfl rfl (Nat.le_of_ble_eq_true rfl) rfl rfl ⟨by omega, by omega⟩ dL_cut_6 ?_
  refine j_catch C (En := jIO) (tgt := 16) htab [] ⟨0, 13, 16, 19⟩ [⟨0, 13, 20, 23⟩] rfl (fun _ h => absurd h List.not_mem_nil) rfl (by decide) w_265 jxc_jIO rfl (fun qx => ?_)
  refine j_astore (lv' := [(5, .ref qx), (0, .ref dk), (1, .int a0), (2, .int a1), (3, .int a2), (4, .ref ot)]) C dL_cut_16 (by decide) rfl ?_
  refine j_iconst (v := (nI 1)) C dL_cut_18 rfl ?_
  exact j_iret C hQ rfl dL_cut_19 ⟨by omega, by omega⟩ ⟨rfl, rfl⟩
set_option maxHeartbeats 4000000 in
set_option maxRecDepth 100000 in
theorem w_cut_jIS (l : Launch) (E : jE) (A : Nat → Prop) {t sz sg la dk ot : Nat} {z g b : Nat → Int32} {cr ca cg ck : Int32} {on : Int64} {os : Value} {rest : va_W} {mcf msf : Nat} {a0 a1 a2 : Int32} (hM : jMet l yX3_cut cX3_cut 4 (some .int) 5 mcf msf E A [.ref dk, .int a0, .int a1, .int a2] (dW E t sz sg la dk z g b cr ca cg ck ((ot, .inr (4, [.long on, os])) :: rest)) jNv (jT jIS (dW E t sz sg la dk z g b cr ca cg ck ((ot, .inr (4, [.long on, os])) :: rest)))) : jMetH l yL_cut cL_cut 6 (some .int) [(0, 13, 16, 19), (0, 13, 20, 23)] 6 mcf msf E A [.ref dk, .int a0, .int a1, .int a2, .ref ot] (oW E t sz sg la dk ot z g b cr ca cg ck on os rest) (jR (some (.int (nI 2))) (oW E t sz sg la dk ot z g b cr ca cg ck on os rest)) := by
  refine jMetH.intro [(0, .ref dk), (1, .int a0), (2, .int a1), (3, .int a2), (4, .ref ot)] (by decide) (by decide) (Nat.le_of_ble_eq_true rfl) rfl ?_
  intro p e R s m args below meth c Q C htab hQ
  refine j_aload C dL_cut_0 rfl ?_
  refine j_aload_n C dL_cut_2 rfl ?_
  refine j_iload_n C dL_cut_3 rfl ?_
  refine j_iload_n C dL_cut_4 rfl ?_
  refine j_iload_n C dL_cut_5 rfl ?_
  refine j_callVx C 4 (hM) ok_X3_cut w_417 (by omega) rfl rfl (Nat.le_of_ble_eq_true rfl) rfl rfl ⟨by omega, by omega⟩ dL_cut_6 ?_
  refine j_catch C (En := jIS) (tgt := 20) htab [⟨0, 13, 16, 19⟩] ⟨0, 13, 20, 23⟩ [] rfl (List.forall_mem_cons.mpr ⟨⟨by decide, _, w_265, List.mem_of_getElem? (i := 4) rfl⟩, fun _ h => absurd h List.not_mem_nil⟩) rfl (by decide) w_267 jxc_jIS rfl (fun qx => ?_)
  refine j_astore (lv' := [(5, .ref qx), (0, .ref dk), (1, .int a0), (2, .int a1), (3, .int a2), (4, .ref ot)]) C dL_cut_20 (by decide) rfl ?_
  refine j_iconst (v := (nI 2)) C dL_cut_22 rfl ?_
  exact j_iret C hQ rfl dL_cut_23 ⟨by omega, by omega⟩ ⟨rfl, rfl⟩
set_option maxHeartbeats 4000000 in
set_option maxRecDepth 100000 in
theorem w_fill_r (l : Launch) (E : jE) (A : Nat → Prop) {t sz sg la dk ot : Nat} {z g b z2 g2 b2 : Nat → Int32} {cr ca cg ck cr2 ca2 cg2 ck2 : Int32} {on : Int64} {os : Value} {rest : va_W} {mcf msf : Nat} {a0 a1 a2 : Int32} {rr : Int32} (hM : jMet l yX3_fill cX3_fill 6 (some .int) 5 mcf msf E A [.ref dk, .int a0, .int a1, .int a2] (dW E t sz sg la dk z g b cr ca cg ck ((ot, .inr (4, [.long on, os])) :: rest)) (jR (some (.int rr)) (dW E t sz sg la dk z2 g2 b2 cr2 ca2 cg2 ck2 ((ot, .inr (4, [.long on, os])) :: rest))) jNo) : jMetH l yL_fill cL_fill 6 (some .int) [(0, 13, 16, 19), (0, 13, 20, 21)] 6 mcf msf E A [.ref dk, .int a0, .int a1, .int a2, .ref ot] (oW E t sz sg la dk ot z g b cr ca cg ck on os rest) (jR (some (.int (nI 0))) (oW E t sz sg la dk ot z2 g2 b2 cr2 ca2 cg2 ck2 rr.toInt64 os rest)) := by
  refine jMetH.intro [(0, .ref dk), (1, .int a0), (2, .int a1), (3, .int a2), (4, .ref ot)] (by decide) (by decide) (Nat.le_of_ble_eq_true rfl) rfl ?_
  intro p e R s m args below meth c Q C htab hQ
  refine j_aload C dL_fill_0 rfl ?_
  refine j_aload_n C dL_fill_2 rfl ?_
  refine j_iload_n C dL_fill_3 rfl ?_
  refine j_iload_n C dL_fill_4 rfl ?_
  refine j_iload_n C dL_fill_5 rfl ?_
  refine j_callVr C 4 (v := .int rr) (w := (oW E t sz sg la dk ot z2 g2 b2 cr2 ca2 cg2 ck2 on os rest)) (hM) ok_X3_fill w_402 (by omega) rfl rfl (Nat.le_of_ble_eq_true rfl) rfl rfl ⟨by omega, by omega⟩ dL_fill_6 ?_
  refine j_i2l (v := rr.toInt64) C dL_fill_9 rfl ?_
  refine j_putN (ws' := (oW E t sz sg la dk ot z2 g2 b2 cr2 ca2 cg2 ck2 rr.toInt64 os rest)) C 5 rfl inj_X4 tyX4 tyX4_ok nmX4 rfl 0 (by decide) (List.mem_of_getElem? (i := 1) rfl) rfl (tyX4_ok 0 (by decide)) rfl rfl (Nat.le_of_ble_eq_true rfl) dL_fill_10 rfl ?_
  refine j_goto (tgt := 24) C dL_fill_13 (by decide) ?_
  refine j_iconst (v := (nI 0)) C dL_fill_24 rfl ?_
  exact j_iret C hQ rfl dL_fill_25 ⟨by omega, by omega⟩ ⟨rfl, rfl⟩
set_option maxHeartbeats 4000000 in
set_option maxRecDepth 100000 in
theorem w_fill_jIO (l : Launch) (E : jE) (A : Nat → Prop) {t sz sg la dk ot : Nat} {z g b : Nat → Int32} {cr ca cg ck : Int32} {on : Int64} {os : Value} {rest : va_W} {mcf msf : Nat} {a0 a1 a2 : Int32} (hM : jMet l yX3_fill cX3_fill 6 (some .int) 5 mcf msf E A [.ref dk, .int a0, .int a1, .int a2] (dW E t sz sg la dk z g b cr ca cg ck ((ot, .inr (4, [.long on, os])) :: rest)) jNv (jT jIO (dW E t sz sg la dk z g b cr ca cg ck ((ot, .inr (4, [.long on, os])) :: rest)))) : jMetH l yL_fill cL_fill 6 (some .int) [(0, 13, 16, 19), (0, 13, 20, 21)] 6 mcf msf E A [.ref dk, .int a0, .int a1, .int a2, .ref ot] (oW E t sz sg la dk ot z g b cr ca cg ck on os rest) (jR (some (.int (nI 1))) (oW E t sz sg la dk ot z g b cr ca cg ck on os rest)) := by
  refine jMetH.intro [(0, .ref dk), (1, .int a0), (2, .int a1), (3, .int a2), (4, .ref ot)] (by decide) (by decide) (Nat.le_of_ble_eq_true rfl) rfl ?_
  intro p e R s m args below meth c Q C htab hQ
  refine j_aload C dL_fill_0 rfl ?_
  refine j_aload_n C dL_fill_2 rfl ?_
  refine j_iload_n C dL_fill_3 rfl ?_
  refine j_iload_n C dL_fill_4 rfl ?_
  refine j_iload_n C dL_fill_5 rfl ?_
  refine j_callVx C 4 (hM) ok_X3_fill w_402 (by omega) rfl rfl (Nat.le_of_ble_eq_true rfl) rfl rfl ⟨by omega, by omega⟩ dL_fill_6 ?_
  refine j_catch C (En := jIO) (tgt := 16) htab [] ⟨0, 13, 16, 19⟩ [⟨0, 13, 20, 21⟩] rfl (fun _ h => absurd h List.not_mem_nil) rfl (by decide) w_265 jxc_jIO rfl (fun qx => ?_)
  refine j_astore (lv' := [(5, .ref qx), (0, .ref dk), (1, .int a0), (2, .int a1), (3, .int a2), (4, .ref ot)]) C dL_fill_16 (by decide) rfl ?_
  refine j_iconst (v := (nI 1)) C dL_fill_18 rfl ?_
  exact j_iret C hQ rfl dL_fill_19 ⟨by omega, by omega⟩ ⟨rfl, rfl⟩
set_option maxHeartbeats 4000000 in
set_option maxRecDepth 100000 in
theorem w_fill_jIA (l : Launch) (E : jE) (A : Nat → Prop) {t sz sg la dk ot : Nat} {z g b : Nat → Int32} {cr ca cg ck : Int32} {on : Int64} {os : Value} {rest : va_W} {mcf msf : Nat} {a0 a1 a2 : Int32} (hM : jMet l yX3_fill cX3_fill 6 (some .int) 5 mcf msf E A [.ref dk, .int a0, .int a1, .int a2] (dW E t sz sg la dk z g b cr ca cg ck ((ot, .inr (4, [.long on, os])) :: rest)) jNv (jT jIA (dW E t sz sg la dk z g b cr ca cg ck ((ot, .inr (4, [.long on, os])) :: rest)))) : jMetH l yL_fill cL_fill 6 (some .int) [(0, 13, 16, 19), (0, 13, 20, 21)] 6 mcf msf E A [.ref dk, .int a0, .int a1, .int a2, .ref ot] (oW E t sz sg la dk ot z g b cr ca cg ck on os rest) (jR (some (.int (nI 2))) (oW E t sz sg la dk ot z g b cr ca cg ck on os rest)) := by
  refine jMetH.intro [(0, .ref dk), (1, .int a0), (2, .int a1), (3, .int a2), (4, .ref ot)] (by decide) (by decide) (Nat.le_of_ble_eq_true rfl) rfl ?_
  intro p e R s m args below meth c Q C htab hQ
  refine j_aload C dL_fill_0 rfl ?_
  refine j_aload_n C dL_fill_2 rfl ?_
  refine j_iload_n C dL_fill_3 rfl ?_
  refine j_iload_n C dL_fill_4 rfl ?_
  refine j_iload_n C dL_fill_5 rfl ?_
  refine j_callVx C 4 (hM) ok_X3_fill w_402 (by omega) rfl rfl (Nat.le_of_ble_eq_true rfl) rfl rfl ⟨by omega, by omega⟩ dL_fill_6 ?_
  refine j_catch C (En := jIA) (tgt := 20) htab [⟨0, 13, 16, 19⟩] ⟨0, 13, 20, 21⟩ [] rfl (List.forall_mem_cons.mpr ⟨⟨by decide, _, w_265, List.mem_of_getElem? (i := 2) rfl⟩, fun _ h => absurd h List.not_mem_nil⟩) rfl (by decide) w_266 jxc_jIA rfl (fun qx => ?_)
  refine j_astore (lv' := [(5, .ref qx), (0, .ref dk), (1, .int a0), (2, .int a1), (3, .int a2), (4, .ref ot)]) C dL_fill_20 (by decide) rfl ?_
  refine j_iconst (v := (nI 2)) C dL_fill_22 rfl ?_
  exact j_iret C hQ rfl dL_fill_23 ⟨by omega, by omega⟩ ⟨rfl, rfl⟩
set_option maxHeartbeats 4000000 in
set_option maxRecDepth 100000 in
theorem w_house_r (l : Launch) (E : jE) (A : Nat → Prop) {t sz sg la dk ot : Nat} {z g b z2 g2 b2 : Nat → Int32} {cr ca cg ck cr2 ca2 cg2 ck2 : Int32} {on : Int64} {os : Value} {rest : va_W} {mcf msf : Nat} {a0 : Int32} {rr : Int32} (hM : jMet l yX3_house cX3_house 2 (some .int) 5 mcf msf E A [.ref dk, .int a0] (dW E t sz sg la dk z g b cr ca cg ck ((ot, .inr (4, [.long on, os])) :: rest)) (jR (some (.int rr)) (dW E t sz sg la dk z2 g2 b2 cr2 ca2 cg2 ck2 ((ot, .inr (4, [.long on, os])) :: rest))) jNo) : jMetH l yL_house cL_house 4 (some .int) [(0, 10, 13, 21)] 6 mcf msf E A [.ref dk, .int a0, .ref ot] (oW E t sz sg la dk ot z g b cr ca cg ck on os rest) (jR (some (.int (nI 0))) (oW E t sz sg la dk ot z2 g2 b2 cr2 ca2 cg2 ck2 rr.toInt64 os rest)) := by
  refine jMetH.intro [(0, .ref dk), (1, .int a0), (2, .ref ot)] (by decide) (by decide) (Nat.le_of_ble_eq_true rfl) rfl ?_
  intro p e R s m args below meth c Q C htab hQ
  refine j_aload_n C dL_house_0 rfl ?_
  refine j_aload_n C dL_house_1 rfl ?_
  refine j_iload_n C dL_house_2 rfl ?_
  refine j_callVr C 4 (v := .int rr) (w := (oW E t sz sg la dk ot z2 g2 b2 cr2 ca2 cg2 ck2 on os rest)) (hM) ok_X3_house w_909 (by omega) rfl rfl (Nat.le_of_ble_eq_true rfl) rfl rfl ⟨by omega, by omega⟩ dL_house_3 ?_
  refine j_i2l (v := rr.toInt64) C dL_house_6 rfl ?_
  refine j_putN (ws' := (oW E t sz sg la dk ot z2 g2 b2 cr2 ca2 cg2 ck2 rr.toInt64 os rest)) C 5 rfl inj_X4 tyX4 tyX4_ok nmX4 rfl 0 (by decide) (List.mem_of_getElem? (i := 1) rfl) rfl (tyX4_ok 0 (by decide)) rfl rfl (Nat.le_of_ble_eq_true rfl) dL_house_7 rfl ?_
  refine j_goto (tgt := 16) C dL_house_10 (by decide) ?_
  refine j_iconst (v := (nI 0)) C dL_house_16 rfl ?_
  exact j_iret C hQ rfl dL_house_17 ⟨by omega, by omega⟩ ⟨rfl, rfl⟩
set_option maxHeartbeats 4000000 in
set_option maxRecDepth 100000 in
theorem w_house_jIA (l : Launch) (E : jE) (A : Nat → Prop) {t sz sg la dk ot : Nat} {z g b : Nat → Int32} {cr ca cg ck : Int32} {on : Int64} {os : Value} {rest : va_W} {mcf msf : Nat} {a0 : Int32} (hM : jMet l yX3_house cX3_house 2 (some .int) 5 mcf msf E A [.ref dk, .int a0] (dW E t sz sg la dk z g b cr ca cg ck ((ot, .inr (4, [.long on, os])) :: rest)) jNv (jT jIA (dW E t sz sg la dk z g b cr ca cg ck ((ot, .inr (4, [.long on, os])) :: rest)))) : jMetH l yL_house cL_house 4 (some .int) [(0, 10, 13, 21)] 6 mcf msf E A [.ref dk, .int a0, .ref ot] (oW E t sz sg la dk ot z g b cr ca cg ck on os rest) (jR (some (.int (nI 1))) (oW E t sz sg la dk ot z g b cr ca cg ck on os rest)) := by
  refine jMetH.intro [(0, .ref dk), (1, .int a0), (2, .ref ot)] (by decide) (by decide) (Nat.le_of_ble_eq_true rfl) rfl ?_
  intro p e R s m args below meth c Q C htab hQ
  refine j_aload_n C dL_house_0 rfl ?_
  refine j_aload_n C dL_house_1 rfl ?_
  refine j_iload_n C dL_house_2 rfl ?_
  refine j_callVx C 4 (hM) ok_X3_house w_909 (by omega) rfl rfl (Nat.le_of_ble_eq_true rfl) rfl rfl ⟨by omega, by omega⟩ dL_house_3 ?_
  refine j_catch C (En := jIA) (tgt := 13) htab [] ⟨0, 10, 13, 21⟩ [] rfl (fun _ h => absurd h List.not_mem_nil) rfl (by decide) w_266 jxc_jIA rfl (fun qx => ?_)
  refine j_astore_n (lv' := [(3, .ref qx), (0, .ref dk), (1, .int a0), (2, .ref ot)]) C dL_house_13 (by decide) rfl ?_
  refine j_iconst (v := (nI 1)) C dL_house_14 rfl ?_
  exact j_iret C hQ rfl dL_house_15 ⟨by omega, by omega⟩ ⟨rfl, rfl⟩
set_option maxHeartbeats 4000000 in
set_option maxRecDepth 100000 in
theorem w_insides_r (l : Launch) (E : jE) (A : Nat → Prop) {t sz sg la dk ot : Nat} {z g b z2 g2 b2 : Nat → Int32} {cr ca cg ck cr2 ca2 cg2 ck2 : Int32} {on : Int64} {os : Value} {rest : va_W} {mcf msf : Nat} {a0 a1 : Int32} {rr : Int32} (hM : jMet l yX3_insides cX3_insides 4 (some .int) 5 mcf msf E A [.ref dk, .int a0, .int a1] (dW E t sz sg la dk z g b cr ca cg ck ((ot, .inr (4, [.long on, os])) :: rest)) (jR (some (.int rr)) (dW E t sz sg la dk z2 g2 b2 cr2 ca2 cg2 ck2 ((ot, .inr (4, [.long on, os])) :: rest))) jNo) : jMetH l yL_insides cL_insides 5 (some .int) [(0, 11, 14, 19), (0, 11, 18, 21), (0, 11, 22, 23)] 6 mcf msf E A [.ref dk, .int a0, .int a1, .ref ot] (oW E t sz sg la dk ot z g b cr ca cg ck on os rest) (jR (some (.int (nI 0))) (oW E t sz sg la dk ot z2 g2 b2 cr2 ca2 cg2 ck2 rr.toInt64 os rest)) := by
  refine jMetH.intro [(0, .ref dk), (1, .int a0), (2, .int a1), (3, .ref ot)] (by decide) (by decide) (Nat.le_of_ble_eq_true rfl) rfl ?_
  intro p e R s m args below meth c Q C htab hQ
  refine j_aload_n C dL_insides_0 rfl ?_
  refine j_aload_n C dL_insides_1 rfl ?_
  refine j_iload_n C dL_insides_2 rfl ?_
  refine j_iload_n C dL_insides_3 rfl ?_
  refine j_callVr C 4 (v := .int rr) (w := (oW E t sz sg la dk ot z2 g2 b2 cr2 ca2 cg2 ck2 on os rest)) (hM) ok_X3_insides w_467 (by omega) rfl rfl (Nat.le_of_ble_eq_true rfl) rfl rfl ⟨by omega, by omega⟩ dL_insides_4 ?_
  refine j_i2l (v := rr.toInt64) C dL_insides_7 rfl ?_
  refine j_putN (ws' := (oW E t sz sg la dk ot z2 g2 b2 cr2 ca2 cg2 ck2 rr.toInt64 os rest)) C 5 rfl inj_X4 tyX4 tyX4_ok nmX4 rfl 0 (by decide) (List.mem_of_getElem? (i := 1) rfl) rfl (tyX4_ok 0 (by decide)) rfl rfl (Nat.le_of_ble_eq_true rfl) dL_insides_8 rfl ?_
  refine j_goto (tgt := 26) C dL_insides_11 (by decide) ?_
  refine j_iconst (v := (nI 0)) C dL_insides_26 rfl ?_
  exact j_iret C hQ rfl dL_insides_27 ⟨by omega, by omega⟩ ⟨rfl, rfl⟩
set_option maxHeartbeats 4000000 in
set_option maxRecDepth 100000 in
theorem w_insides_jIO (l : Launch) (E : jE) (A : Nat → Prop) {t sz sg la dk ot : Nat} {z g b : Nat → Int32} {cr ca cg ck : Int32} {on : Int64} {os : Value} {rest : va_W} {mcf msf : Nat} {a0 a1 : Int32} (hM : jMet l yX3_insides cX3_insides 4 (some .int) 5 mcf msf E A [.ref dk, .int a0, .int a1] (dW E t sz sg la dk z g b cr ca cg ck ((ot, .inr (4, [.long on, os])) :: rest)) jNv (jT jIO (dW E t sz sg la dk z g b cr ca cg ck ((ot, .inr (4, [.long on, os])) :: rest)))) : jMetH l yL_insides cL_insides 5 (some .int) [(0, 11, 14, 19), (0, 11, 18, 21), (0, 11, 22, 23)] 6 mcf msf E A [.ref dk, .int a0, .int a1, .ref ot] (oW E t sz sg la dk ot z g b cr ca cg ck on os rest) (jR (some (.int (nI 1))) (oW E t sz sg la dk ot z g b cr ca cg ck on os rest)) := by
  refine jMetH.intro [(0, .ref dk), (1, .int a0), (2, .int a1), (3, .ref ot)] (by decide) (by decide) (Nat.le_of_ble_eq_true rfl) rfl ?_
  intro p e R s m args below meth c Q C htab hQ
  refine j_aload_n C dL_insides_0 rfl ?_
  refine j_aload_n C dL_insides_1 rfl ?_
  refine j_iload_n C dL_insides_2 rfl ?_
  refine j_iload_n C dL_insides_3 rfl ?_
  refine j_callVx C 4 (hM) ok_X3_insides w_467 (by omega) rfl rfl (Nat.le_of_ble_eq_true rfl) rfl rfl ⟨by omega, by omega⟩ dL_insides_4 ?_
  refine j_catch C (En := jIO) (tgt := 14) htab [] ⟨0, 11, 14, 19⟩ [⟨0, 11, 18, 21⟩, ⟨0, 11, 22, 23⟩] rfl (fun _ h => absurd h List.not_mem_nil) rfl (by decide) w_265 jxc_jIO rfl (fun qx => ?_)
  refine j_astore (lv' := [(4, .ref qx), (0, .ref dk), (1, .int a0), (2, .int a1), (3, .ref ot)]) C dL_insides_14 (by decide) rfl ?_
  refine j_iconst (v := (nI 1)) C dL_insides_16 rfl ?_
  exact j_iret C hQ rfl dL_insides_17 ⟨by omega, by omega⟩ ⟨rfl, rfl⟩
set_option maxHeartbeats 4000000 in
set_option maxRecDepth 100000 in
theorem w_insides_jIA (l : Launch) (E : jE) (A : Nat → Prop) {t sz sg la dk ot : Nat} {z g b : Nat → Int32} {cr ca cg ck : Int32} {on : Int64} {os : Value} {rest : va_W} {mcf msf : Nat} {a0 a1 : Int32} (hM : jMet l yX3_insides cX3_insides 4 (some .int) 5 mcf msf E A [.ref dk, .int a0, .int a1] (dW E t sz sg la dk z g b cr ca cg ck ((ot, .inr (4, [.long on, os])) :: rest)) jNv (jT jIA (dW E t sz sg la dk z g b cr ca cg ck ((ot, .inr (4, [.long on, os])) :: rest)))) : jMetH l yL_insides cL_insides 5 (some .int) [(0, 11, 14, 19), (0, 11, 18, 21), (0, 11, 22, 23)] 6 mcf msf E A [.ref dk, .int a0, .int a1, .ref ot] (oW E t sz sg la dk ot z g b cr ca cg ck on os rest) (jR (some (.int (nI 2))) (oW E t sz sg la dk ot z g b cr ca cg ck on os rest)) := by
  refine jMetH.intro [(0, .ref dk), (1, .int a0), (2, .int a1), (3, .ref ot)] (by decide) (by decide) (Nat.le_of_ble_eq_true rfl) rfl ?_
  intro p e R s m args below meth c Q C htab hQ
  refine j_aload_n C dL_insides_0 rfl ?_
  refine j_aload_n C dL_insides_1 rfl ?_
  refine j_iload_n C dL_insides_2 rfl ?_
  refine j_iload_n C dL_insides_3 rfl ?_
  refine j_callVx C 4 (hM) ok_X3_insides w_467 (by omega) rfl rfl (Nat.le_of_ble_eq_true rfl) rfl rfl ⟨by omega, by omega⟩ dL_insides_4 ?_
  refine j_catch C (En := jIA) (tgt := 18) htab [⟨0, 11, 14, 19⟩] ⟨0, 11, 18, 21⟩ [⟨0, 11, 22, 23⟩] rfl (List.forall_mem_cons.mpr ⟨⟨by decide, _, w_265, List.mem_of_getElem? (i := 2) rfl⟩, fun _ h => absurd h List.not_mem_nil⟩) rfl (by decide) w_266 jxc_jIA rfl (fun qx => ?_)
  refine j_astore (lv' := [(4, .ref qx), (0, .ref dk), (1, .int a0), (2, .int a1), (3, .ref ot)]) C dL_insides_18 (by decide) rfl ?_
  refine j_iconst (v := (nI 2)) C dL_insides_20 rfl ?_
  exact j_iret C hQ rfl dL_insides_21 ⟨by omega, by omega⟩ ⟨rfl, rfl⟩
set_option maxHeartbeats 4000000 in
set_option maxRecDepth 100000 in
theorem w_insides_jIS (l : Launch) (E : jE) (A : Nat → Prop) {t sz sg la dk ot : Nat} {z g b : Nat → Int32} {cr ca cg ck : Int32} {on : Int64} {os : Value} {rest : va_W} {mcf msf : Nat} {a0 a1 : Int32} (hM : jMet l yX3_insides cX3_insides 4 (some .int) 5 mcf msf E A [.ref dk, .int a0, .int a1] (dW E t sz sg la dk z g b cr ca cg ck ((ot, .inr (4, [.long on, os])) :: rest)) jNv (jT jIS (dW E t sz sg la dk z g b cr ca cg ck ((ot, .inr (4, [.long on, os])) :: rest)))) : jMetH l yL_insides cL_insides 5 (some .int) [(0, 11, 14, 19), (0, 11, 18, 21), (0, 11, 22, 23)] 6 mcf msf E A [.ref dk, .int a0, .int a1, .ref ot] (oW E t sz sg la dk ot z g b cr ca cg ck on os rest) (jR (some (.int (nI 3))) (oW E t sz sg la dk ot z g b cr ca cg ck on os rest)) := by
  refine jMetH.intro [(0, .ref dk), (1, .int a0), (2, .int a1), (3, .ref ot)] (by decide) (by decide) (Nat.le_of_ble_eq_true rfl) rfl ?_
  intro p e R s m args below meth c Q C htab hQ
  refine j_aload_n C dL_insides_0 rfl ?_
  refine j_aload_n C dL_insides_1 rfl ?_
  refine j_iload_n C dL_insides_2 rfl ?_
  refine j_iload_n C dL_insides_3 rfl ?_
  refine j_callVx C 4 (hM) ok_X3_insides w_467 (by omega) rfl rfl (Nat.le_of_ble_eq_true rfl) rfl rfl ⟨by omega, by omega⟩ dL_insides_4 ?_
  refine j_catch C (En := jIS) (tgt := 22) htab [⟨0, 11, 14, 19⟩, ⟨0, 11, 18, 21⟩] ⟨0, 11, 22, 23⟩ [] rfl (List.forall_mem_cons.mpr ⟨⟨by decide, _, w_265, List.mem_of_getElem? (i := 4) rfl⟩, List.forall_mem_cons.mpr ⟨⟨by decide, _, w_266, List.mem_of_getElem? (i := 5) rfl⟩, fun _ h => absurd h List.not_mem_nil⟩⟩) rfl (by decide) w_267 jxc_jIS rfl (fun qx => ?_)
  refine j_astore (lv' := [(4, .ref qx), (0, .ref dk), (1, .int a0), (2, .int a1), (3, .ref ot)]) C dL_insides_22 (by decide) rfl ?_
  refine j_iconst (v := (nI 3)) C dL_insides_24 rfl ?_
  exact j_iret C hQ rfl dL_insides_25 ⟨by omega, by omega⟩ ⟨rfl, rfl⟩
set_option maxHeartbeats 4000000 in
set_option maxRecDepth 100000 in
theorem w_isEmpty_t (l : Launch) (E : jE) (A : Nat → Prop) {t sz sg la dk ot : Nat} {z g b z2 g2 b2 : Nat → Int32} {cr ca cg ck cr2 ca2 cg2 ck2 : Int32} {on : Int64} {os : Value} {rest : va_W} {mcf msf : Nat} {a0 : Int32} {rr : Int32} (hrr : ¬ rr = 0) (hM : jMet l yX3_isEmpty cX3_isEmpty 2 (some .boolean) 5 mcf msf E A [.ref dk, .int a0] (dW E t sz sg la dk z g b cr ca cg ck ((ot, .inr (4, [.long on, os])) :: rest)) (jR (some (.int rr)) (dW E t sz sg la dk z2 g2 b2 cr2 ca2 cg2 ck2 ((ot, .inr (4, [.long on, os])) :: rest))) jNo) : jMetH l yL_isEmpty cL_isEmpty 4 (some .int) [(0, 17, 20, 19), (0, 17, 23, 23)] 6 mcf msf E A [.ref dk, .int a0, .ref ot] (oW E t sz sg la dk ot z g b cr ca cg ck on os rest) (jR (some (.int (nI 0))) (oW E t sz sg la dk ot z2 g2 b2 cr2 ca2 cg2 ck2 1 os rest)) := by
  refine jMetH.intro [(0, .ref dk), (1, .int a0), (2, .ref ot)] (by decide) (by decide) (Nat.le_of_ble_eq_true rfl) rfl ?_
  intro p e R s m args below meth c Q C htab hQ
  refine j_aload_n C dL_isEmpty_0 rfl ?_
  refine j_aload_n C dL_isEmpty_1 rfl ?_
  refine j_iload_n C dL_isEmpty_2 rfl ?_
  refine j_callVr C 4 (v := .int rr) (w := (oW E t sz sg la dk ot z2 g2 b2 cr2 ca2 cg2 ck2 on os rest)) (hM) ok_X3_isEmpty w_789 (by omega) rfl rfl (Nat.le_of_ble_eq_true rfl) rfl rfl ⟨by omega, by omega⟩ dL_isEmpty_3 ?_
  refine j_if_eq_f (tgt := 13) C dL_isEmpty_6 (by decide) hrr ?_
  refine j_lconst (v := 1) C dL_isEmpty_9 rfl ?_
  refine j_goto (tgt := 14) C dL_isEmpty_10 (by decide) ?_
  refine j_putN (ws' := (oW E t sz sg la dk ot z2 g2 b2 cr2 ca2 cg2 ck2 1 os rest)) C 5 rfl inj_X4 tyX4 tyX4_ok nmX4 rfl 0 (by decide) (List.mem_of_getElem? (i := 1) rfl) rfl (tyX4_ok 0 (by decide)) rfl rfl (Nat.le_of_ble_eq_true rfl) dL_isEmpty_14 rfl ?_
  refine j_goto (tgt := 26) C dL_isEmpty_17 (by decide) ?_
  refine j_iconst (v := (nI 0)) C dL_isEmpty_26 rfl ?_
  exact j_iret C hQ rfl dL_isEmpty_27 ⟨by omega, by omega⟩ ⟨rfl, rfl⟩
set_option maxHeartbeats 4000000 in
set_option maxRecDepth 100000 in
theorem w_isEmpty_f (l : Launch) (E : jE) (A : Nat → Prop) {t sz sg la dk ot : Nat} {z g b z2 g2 b2 : Nat → Int32} {cr ca cg ck cr2 ca2 cg2 ck2 : Int32} {on : Int64} {os : Value} {rest : va_W} {mcf msf : Nat} {a0 : Int32} {rr : Int32} (hrr : rr = 0) (hM : jMet l yX3_isEmpty cX3_isEmpty 2 (some .boolean) 5 mcf msf E A [.ref dk, .int a0] (dW E t sz sg la dk z g b cr ca cg ck ((ot, .inr (4, [.long on, os])) :: rest)) (jR (some (.int rr)) (dW E t sz sg la dk z2 g2 b2 cr2 ca2 cg2 ck2 ((ot, .inr (4, [.long on, os])) :: rest))) jNo) : jMetH l yL_isEmpty cL_isEmpty 4 (some .int) [(0, 17, 20, 19), (0, 17, 23, 23)] 6 mcf msf E A [.ref dk, .int a0, .ref ot] (oW E t sz sg la dk ot z g b cr ca cg ck on os rest) (jR (some (.int (nI 0))) (oW E t sz sg la dk ot z2 g2 b2 cr2 ca2 cg2 ck2 0 os rest)) := by
  refine jMetH.intro [(0, .ref dk), (1, .int a0), (2, .ref ot)] (by decide) (by decide) (Nat.le_of_ble_eq_true rfl) rfl ?_
  intro p e R s m args below meth c Q C htab hQ
  refine j_aload_n C dL_isEmpty_0 rfl ?_
  refine j_aload_n C dL_isEmpty_1 rfl ?_
  refine j_iload_n C dL_isEmpty_2 rfl ?_
  refine j_callVr C 4 (v := .int rr) (w := (oW E t sz sg la dk ot z2 g2 b2 cr2 ca2 cg2 ck2 on os rest)) (hM) ok_X3_isEmpty w_789 (by omega) rfl rfl (Nat.le_of_ble_eq_true rfl) rfl rfl ⟨by omega, by omega⟩ dL_isEmpty_3 ?_
  refine j_if_eq_t (tgt := 13) C dL_isEmpty_6 (by decide) hrr ?_
  refine j_lconst (v := 0) C dL_isEmpty_13 rfl ?_
  refine j_putN (ws' := (oW E t sz sg la dk ot z2 g2 b2 cr2 ca2 cg2 ck2 0 os rest)) C 5 rfl inj_X4 tyX4 tyX4_ok nmX4 rfl 0 (by decide) (List.mem_of_getElem? (i := 1) rfl) rfl (tyX4_ok 0 (by decide)) rfl rfl (Nat.le_of_ble_eq_true rfl) dL_isEmpty_14 rfl ?_
  refine j_goto (tgt := 26) C dL_isEmpty_17 (by decide) ?_
  refine j_iconst (v := (nI 0)) C dL_isEmpty_26 rfl ?_
  exact j_iret C hQ rfl dL_isEmpty_27 ⟨by omega, by omega⟩ ⟨rfl, rfl⟩
set_option maxHeartbeats 4000000 in
set_option maxRecDepth 100000 in
theorem w_isEmpty_jIO (l : Launch) (E : jE) (A : Nat → Prop) {t sz sg la dk ot : Nat} {z g b : Nat → Int32} {cr ca cg ck : Int32} {on : Int64} {os : Value} {rest : va_W} {mcf msf : Nat} {a0 : Int32} (hM : jMet l yX3_isEmpty cX3_isEmpty 2 (some .boolean) 5 mcf msf E A [.ref dk, .int a0] (dW E t sz sg la dk z g b cr ca cg ck ((ot, .inr (4, [.long on, os])) :: rest)) jNv (jT jIO (dW E t sz sg la dk z g b cr ca cg ck ((ot, .inr (4, [.long on, os])) :: rest)))) : jMetH l yL_isEmpty cL_isEmpty 4 (some .int) [(0, 17, 20, 19), (0, 17, 23, 23)] 6 mcf msf E A [.ref dk, .int a0, .ref ot] (oW E t sz sg la dk ot z g b cr ca cg ck on os rest) (jR (some (.int (nI 1))) (oW E t sz sg la dk ot z g b cr ca cg ck on os rest)) := by
  refine jMetH.intro [(0, .ref dk), (1, .int a0), (2, .ref ot)] (by decide) (by decide) (Nat.le_of_ble_eq_true rfl) rfl ?_
  intro p e R s m args below meth c Q C htab hQ
  refine j_aload_n C dL_isEmpty_0 rfl ?_
  refine j_aload_n C dL_isEmpty_1 rfl ?_
  refine j_iload_n C dL_isEmpty_2 rfl ?_
  refine j_callVx C 4 (hM) ok_X3_isEmpty w_789 (by omega) rfl rfl (Nat.le_of_ble_eq_true rfl) rfl rfl ⟨by omega, by omega⟩ dL_isEmpty_3 ?_
  refine j_catch C (En := jIO) (tgt := 20) htab [] ⟨0, 17, 20, 19⟩ [⟨0, 17, 23, 23⟩] rfl (fun _ h => absurd h List.not_mem_nil) rfl (by decide) w_265 jxc_jIO rfl (fun qx => ?_)
  refine j_astore_n (lv' := [(3, .ref qx), (0, .ref dk), (1, .int a0), (2, .ref ot)]) C dL_isEmpty_20 (by decide) rfl ?_
  refine j_iconst (v := (nI 1)) C dL_isEmpty_21 rfl ?_
  exact j_iret C hQ rfl dL_isEmpty_22 ⟨by omega, by omega⟩ ⟨rfl, rfl⟩
set_option maxHeartbeats 4000000 in
set_option maxRecDepth 100000 in
theorem w_isEmpty_jIS (l : Launch) (E : jE) (A : Nat → Prop) {t sz sg la dk ot : Nat} {z g b : Nat → Int32} {cr ca cg ck : Int32} {on : Int64} {os : Value} {rest : va_W} {mcf msf : Nat} {a0 : Int32} (hM : jMet l yX3_isEmpty cX3_isEmpty 2 (some .boolean) 5 mcf msf E A [.ref dk, .int a0] (dW E t sz sg la dk z g b cr ca cg ck ((ot, .inr (4, [.long on, os])) :: rest)) jNv (jT jIS (dW E t sz sg la dk z g b cr ca cg ck ((ot, .inr (4, [.long on, os])) :: rest)))) : jMetH l yL_isEmpty cL_isEmpty 4 (some .int) [(0, 17, 20, 19), (0, 17, 23, 23)] 6 mcf msf E A [.ref dk, .int a0, .ref ot] (oW E t sz sg la dk ot z g b cr ca cg ck on os rest) (jR (some (.int (nI 2))) (oW E t sz sg la dk ot z g b cr ca cg ck on os rest)) := by
  refine jMetH.intro [(0, .ref dk), (1, .int a0), (2, .ref ot)] (by decide) (by decide) (Nat.le_of_ble_eq_true rfl) rfl ?_
  intro p e R s m args below meth c Q C htab hQ
  refine j_aload_n C dL_isEmpty_0 rfl ?_
  refine j_aload_n C dL_isEmpty_1 rfl ?_
  refine j_iload_n C dL_isEmpty_2 rfl ?_
  refine j_callVx C 4 (hM) ok_X3_isEmpty w_789 (by omega) rfl rfl (Nat.le_of_ble_eq_true rfl) rfl rfl ⟨by omega, by omega⟩ dL_isEmpty_3 ?_
  refine j_catch C (En := jIS) (tgt := 23) htab [⟨0, 17, 20, 19⟩] ⟨0, 17, 23, 23⟩ [] rfl (List.forall_mem_cons.mpr ⟨⟨by decide, _, w_265, List.mem_of_getElem? (i := 4) rfl⟩, fun _ h => absurd h List.not_mem_nil⟩) rfl (by decide) w_267 jxc_jIS rfl (fun qx => ?_)
  refine j_astore_n (lv' := [(3, .ref qx), (0, .ref dk), (1, .int a0), (2, .ref ot)]) C dL_isEmpty_23 (by decide) rfl ?_
  refine j_iconst (v := (nI 2)) C dL_isEmpty_24 rfl ?_
  exact j_iret C hQ rfl dL_isEmpty_25 ⟨by omega, by omega⟩ ⟨rfl, rfl⟩
set_option maxHeartbeats 4000000 in
set_option maxRecDepth 100000 in
theorem w_isLike_r (l : Launch) (E : jE) (A : Nat → Prop) {t sz sg la dk ot : Nat} {z g b z2 g2 b2 : Nat → Int32} {cr ca cg ck cr2 ca2 cg2 ck2 : Int32} {on : Int64} {os : Value} {rest : va_W} {mcf msf : Nat} {a0 a1 : Int32} {rr : Int32} (hM : jMet l yX3_isLike cX3_isLike 3 (some .int) 5 mcf msf E A [.ref dk, .int a0, .int a1] (dW E t sz sg la dk z g b cr ca cg ck ((ot, .inr (4, [.long on, os])) :: rest)) (jR (some (.int rr)) (dW E t sz sg la dk z2 g2 b2 cr2 ca2 cg2 ck2 ((ot, .inr (4, [.long on, os])) :: rest))) jNo) : jMetH l yL_isLike cL_isLike 5 (some .int) [(0, 11, 14, 19), (0, 11, 18, 23)] 6 mcf msf E A [.ref dk, .int a0, .int a1, .ref ot] (oW E t sz sg la dk ot z g b cr ca cg ck on os rest) (jR (some (.int (nI 0))) (oW E t sz sg la dk ot z2 g2 b2 cr2 ca2 cg2 ck2 rr.toInt64 os rest)) := by
  refine jMetH.intro [(0, .ref dk), (1, .int a0), (2, .int a1), (3, .ref ot)] (by decide) (by decide) (Nat.le_of_ble_eq_true rfl) rfl ?_
  intro p e R s m args below meth c Q C htab hQ
  refine j_aload_n C dL_isLike_0 rfl ?_
  refine j_aload_n C dL_isLike_1 rfl ?_
  refine j_iload_n C dL_isLike_2 rfl ?_
  refine j_iload_n C dL_isLike_3 rfl ?_
  refine j_callVr C 4 (v := .int rr) (w := (oW E t sz sg la dk ot z2 g2 b2 cr2 ca2 cg2 ck2 on os rest)) (hM) ok_X3_isLike w_812 (by omega) rfl rfl (Nat.le_of_ble_eq_true rfl) rfl rfl ⟨by omega, by omega⟩ dL_isLike_4 ?_
  refine j_i2l (v := rr.toInt64) C dL_isLike_7 rfl ?_
  refine j_putN (ws' := (oW E t sz sg la dk ot z2 g2 b2 cr2 ca2 cg2 ck2 rr.toInt64 os rest)) C 5 rfl inj_X4 tyX4 tyX4_ok nmX4 rfl 0 (by decide) (List.mem_of_getElem? (i := 1) rfl) rfl (tyX4_ok 0 (by decide)) rfl rfl (Nat.le_of_ble_eq_true rfl) dL_isLike_8 rfl ?_
  refine j_goto (tgt := 22) C dL_isLike_11 (by decide) ?_
  refine j_iconst (v := (nI 0)) C dL_isLike_22 rfl ?_
  exact j_iret C hQ rfl dL_isLike_23 ⟨by omega, by omega⟩ ⟨rfl, rfl⟩
set_option maxHeartbeats 4000000 in
set_option maxRecDepth 100000 in
theorem w_isLike_jIO (l : Launch) (E : jE) (A : Nat → Prop) {t sz sg la dk ot : Nat} {z g b : Nat → Int32} {cr ca cg ck : Int32} {on : Int64} {os : Value} {rest : va_W} {mcf msf : Nat} {a0 a1 : Int32} (hM : jMet l yX3_isLike cX3_isLike 3 (some .int) 5 mcf msf E A [.ref dk, .int a0, .int a1] (dW E t sz sg la dk z g b cr ca cg ck ((ot, .inr (4, [.long on, os])) :: rest)) jNv (jT jIO (dW E t sz sg la dk z g b cr ca cg ck ((ot, .inr (4, [.long on, os])) :: rest)))) : jMetH l yL_isLike cL_isLike 5 (some .int) [(0, 11, 14, 19), (0, 11, 18, 23)] 6 mcf msf E A [.ref dk, .int a0, .int a1, .ref ot] (oW E t sz sg la dk ot z g b cr ca cg ck on os rest) (jR (some (.int (nI 1))) (oW E t sz sg la dk ot z g b cr ca cg ck on os rest)) := by
  refine jMetH.intro [(0, .ref dk), (1, .int a0), (2, .int a1), (3, .ref ot)] (by decide) (by decide) (Nat.le_of_ble_eq_true rfl) rfl ?_
  intro p e R s m args below meth c Q C htab hQ
  refine j_aload_n C dL_isLike_0 rfl ?_
  refine j_aload_n C dL_isLike_1 rfl ?_
  refine j_iload_n C dL_isLike_2 rfl ?_
  refine j_iload_n C dL_isLike_3 rfl ?_
  refine j_callVx C 4 (hM) ok_X3_isLike w_812 (by omega) rfl rfl (Nat.le_of_ble_eq_true rfl) rfl rfl ⟨by omega, by omega⟩ dL_isLike_4 ?_
  refine j_catch C (En := jIO) (tgt := 14) htab [] ⟨0, 11, 14, 19⟩ [⟨0, 11, 18, 23⟩] rfl (fun _ h => absurd h List.not_mem_nil) rfl (by decide) w_265 jxc_jIO rfl (fun qx => ?_)
  refine j_astore (lv' := [(4, .ref qx), (0, .ref dk), (1, .int a0), (2, .int a1), (3, .ref ot)]) C dL_isLike_14 (by decide) rfl ?_
  refine j_iconst (v := (nI 1)) C dL_isLike_16 rfl ?_
  exact j_iret C hQ rfl dL_isLike_17 ⟨by omega, by omega⟩ ⟨rfl, rfl⟩
set_option maxHeartbeats 4000000 in
set_option maxRecDepth 100000 in
theorem w_isLike_jIS (l : Launch) (E : jE) (A : Nat → Prop) {t sz sg la dk ot : Nat} {z g b : Nat → Int32} {cr ca cg ck : Int32} {on : Int64} {os : Value} {rest : va_W} {mcf msf : Nat} {a0 a1 : Int32} (hM : jMet l yX3_isLike cX3_isLike 3 (some .int) 5 mcf msf E A [.ref dk, .int a0, .int a1] (dW E t sz sg la dk z g b cr ca cg ck ((ot, .inr (4, [.long on, os])) :: rest)) jNv (jT jIS (dW E t sz sg la dk z g b cr ca cg ck ((ot, .inr (4, [.long on, os])) :: rest)))) : jMetH l yL_isLike cL_isLike 5 (some .int) [(0, 11, 14, 19), (0, 11, 18, 23)] 6 mcf msf E A [.ref dk, .int a0, .int a1, .ref ot] (oW E t sz sg la dk ot z g b cr ca cg ck on os rest) (jR (some (.int (nI 2))) (oW E t sz sg la dk ot z g b cr ca cg ck on os rest)) := by
  refine jMetH.intro [(0, .ref dk), (1, .int a0), (2, .int a1), (3, .ref ot)] (by decide) (by decide) (Nat.le_of_ble_eq_true rfl) rfl ?_
  intro p e R s m args below meth c Q C htab hQ
  refine j_aload_n C dL_isLike_0 rfl ?_
  refine j_aload_n C dL_isLike_1 rfl ?_
  refine j_iload_n C dL_isLike_2 rfl ?_
  refine j_iload_n C dL_isLike_3 rfl ?_
  refine j_callVx C 4 (hM) ok_X3_isLike w_812 (by omega) rfl rfl (Nat.le_of_ble_eq_true rfl) rfl rfl ⟨by omega, by omega⟩ dL_isLike_4 ?_
  refine j_catch C (En := jIS) (tgt := 18) htab [⟨0, 11, 14, 19⟩] ⟨0, 11, 18, 23⟩ [] rfl (List.forall_mem_cons.mpr ⟨⟨by decide, _, w_265, List.mem_of_getElem? (i := 4) rfl⟩, fun _ h => absurd h List.not_mem_nil⟩) rfl (by decide) w_267 jxc_jIS rfl (fun qx => ?_)
  refine j_astore (lv' := [(4, .ref qx), (0, .ref dk), (1, .int a0), (2, .int a1), (3, .ref ot)]) C dL_isLike_18 (by decide) rfl ?_
  refine j_iconst (v := (nI 2)) C dL_isLike_20 rfl ?_
  exact j_iret C hQ rfl dL_isLike_21 ⟨by omega, by omega⟩ ⟨rfl, rfl⟩
set_option maxHeartbeats 4000000 in
set_option maxRecDepth 100000 in
theorem w_isMissing_t (l : Launch) (E : jE) (A : Nat → Prop) {t sz sg la dk ot : Nat} {z g b z2 g2 b2 : Nat → Int32} {cr ca cg ck cr2 ca2 cg2 ck2 : Int32} {on : Int64} {os : Value} {rest : va_W} {mcf msf : Nat} {a0 : Int32} {rr : Int32} (hrr : ¬ rr = 0) (hM : jMet l yX3_isMissing cX3_isMissing 2 (some .boolean) 5 mcf msf E A [.ref dk, .int a0] (dW E t sz sg la dk z g b cr ca cg ck ((ot, .inr (4, [.long on, os])) :: rest)) (jR (some (.int rr)) (dW E t sz sg la dk z2 g2 b2 cr2 ca2 cg2 ck2 ((ot, .inr (4, [.long on, os])) :: rest))) jNo) : jMetH l yL_isMissing cL_isMissing 4 (some .int) [(0, 17, 20, 19)] 6 mcf msf E A [.ref dk, .int a0, .ref ot] (oW E t sz sg la dk ot z g b cr ca cg ck on os rest) (jR (some (.int (nI 0))) (oW E t sz sg la dk ot z2 g2 b2 cr2 ca2 cg2 ck2 1 os rest)) := by
  refine jMetH.intro [(0, .ref dk), (1, .int a0), (2, .ref ot)] (by decide) (by decide) (Nat.le_of_ble_eq_true rfl) rfl ?_
  intro p e R s m args below meth c Q C htab hQ
  refine j_aload_n C dL_isMissing_0 rfl ?_
  refine j_aload_n C dL_isMissing_1 rfl ?_
  refine j_iload_n C dL_isMissing_2 rfl ?_
  refine j_callVr C 4 (v := .int rr) (w := (oW E t sz sg la dk ot z2 g2 b2 cr2 ca2 cg2 ck2 on os rest)) (hM) ok_X3_isMissing w_874 (by omega) rfl rfl (Nat.le_of_ble_eq_true rfl) rfl rfl ⟨by omega, by omega⟩ dL_isMissing_3 ?_
  refine j_if_eq_f (tgt := 13) C dL_isMissing_6 (by decide) hrr ?_
  refine j_lconst (v := 1) C dL_isMissing_9 rfl ?_
  refine j_goto (tgt := 14) C dL_isMissing_10 (by decide) ?_
  refine j_putN (ws' := (oW E t sz sg la dk ot z2 g2 b2 cr2 ca2 cg2 ck2 1 os rest)) C 5 rfl inj_X4 tyX4 tyX4_ok nmX4 rfl 0 (by decide) (List.mem_of_getElem? (i := 1) rfl) rfl (tyX4_ok 0 (by decide)) rfl rfl (Nat.le_of_ble_eq_true rfl) dL_isMissing_14 rfl ?_
  refine j_goto (tgt := 23) C dL_isMissing_17 (by decide) ?_
  refine j_iconst (v := (nI 0)) C dL_isMissing_23 rfl ?_
  exact j_iret C hQ rfl dL_isMissing_24 ⟨by omega, by omega⟩ ⟨rfl, rfl⟩
set_option maxHeartbeats 4000000 in
set_option maxRecDepth 100000 in
theorem w_isMissing_f (l : Launch) (E : jE) (A : Nat → Prop) {t sz sg la dk ot : Nat} {z g b z2 g2 b2 : Nat → Int32} {cr ca cg ck cr2 ca2 cg2 ck2 : Int32} {on : Int64} {os : Value} {rest : va_W} {mcf msf : Nat} {a0 : Int32} {rr : Int32} (hrr : rr = 0) (hM : jMet l yX3_isMissing cX3_isMissing 2 (some .boolean) 5 mcf msf E A [.ref dk, .int a0] (dW E t sz sg la dk z g b cr ca cg ck ((ot, .inr (4, [.long on, os])) :: rest)) (jR (some (.int rr)) (dW E t sz sg la dk z2 g2 b2 cr2 ca2 cg2 ck2 ((ot, .inr (4, [.long on, os])) :: rest))) jNo) : jMetH l yL_isMissing cL_isMissing 4 (some .int) [(0, 17, 20, 19)] 6 mcf msf E A [.ref dk, .int a0, .ref ot] (oW E t sz sg la dk ot z g b cr ca cg ck on os rest) (jR (some (.int (nI 0))) (oW E t sz sg la dk ot z2 g2 b2 cr2 ca2 cg2 ck2 0 os rest)) := by
  refine jMetH.intro [(0, .ref dk), (1, .int a0), (2, .ref ot)] (by decide) (by decide) (Nat.le_of_ble_eq_true rfl) rfl ?_
  intro p e R s m args below meth c Q C htab hQ
  refine j_aload_n C dL_isMissing_0 rfl ?_
  refine j_aload_n C dL_isMissing_1 rfl ?_
  refine j_iload_n C dL_isMissing_2 rfl ?_
  refine j_callVr C 4 (v := .int rr) (w := (oW E t sz sg la dk ot z2 g2 b2 cr2 ca2 cg2 ck2 on os rest)) (hM) ok_X3_isMissing w_874 (by omega) rfl rfl (Nat.le_of_ble_eq_true rfl) rfl rfl ⟨by omega, by omega⟩ dL_isMissing_3 ?_
  refine j_if_eq_t (tgt := 13) C dL_isMissing_6 (by decide) hrr ?_
  refine j_lconst (v := 0) C dL_isMissing_13 rfl ?_
  refine j_putN (ws' := (oW E t sz sg la dk ot z2 g2 b2 cr2 ca2 cg2 ck2 0 os rest)) C 5 rfl inj_X4 tyX4 tyX4_ok nmX4 rfl 0 (by decide) (List.mem_of_getElem? (i := 1) rfl) rfl (tyX4_ok 0 (by decide)) rfl rfl (Nat.le_of_ble_eq_true rfl) dL_isMissing_14 rfl ?_
  refine j_goto (tgt := 23) C dL_isMissing_17 (by decide) ?_
  refine j_iconst (v := (nI 0)) C dL_isMissing_23 rfl ?_
  exact j_iret C hQ rfl dL_isMissing_24 ⟨by omega, by omega⟩ ⟨rfl, rfl⟩
set_option maxHeartbeats 4000000 in
set_option maxRecDepth 100000 in
theorem w_isMissing_jIO (l : Launch) (E : jE) (A : Nat → Prop) {t sz sg la dk ot : Nat} {z g b : Nat → Int32} {cr ca cg ck : Int32} {on : Int64} {os : Value} {rest : va_W} {mcf msf : Nat} {a0 : Int32} (hM : jMet l yX3_isMissing cX3_isMissing 2 (some .boolean) 5 mcf msf E A [.ref dk, .int a0] (dW E t sz sg la dk z g b cr ca cg ck ((ot, .inr (4, [.long on, os])) :: rest)) jNv (jT jIO (dW E t sz sg la dk z g b cr ca cg ck ((ot, .inr (4, [.long on, os])) :: rest)))) : jMetH l yL_isMissing cL_isMissing 4 (some .int) [(0, 17, 20, 19)] 6 mcf msf E A [.ref dk, .int a0, .ref ot] (oW E t sz sg la dk ot z g b cr ca cg ck on os rest) (jR (some (.int (nI 1))) (oW E t sz sg la dk ot z g b cr ca cg ck on os rest)) := by
  refine jMetH.intro [(0, .ref dk), (1, .int a0), (2, .ref ot)] (by decide) (by decide) (Nat.le_of_ble_eq_true rfl) rfl ?_
  intro p e R s m args below meth c Q C htab hQ
  refine j_aload_n C dL_isMissing_0 rfl ?_
  refine j_aload_n C dL_isMissing_1 rfl ?_
  refine j_iload_n C dL_isMissing_2 rfl ?_
  refine j_callVx C 4 (hM) ok_X3_isMissing w_874 (by omega) rfl rfl (Nat.le_of_ble_eq_true rfl) rfl rfl ⟨by omega, by omega⟩ dL_isMissing_3 ?_
  refine j_catch C (En := jIO) (tgt := 20) htab [] ⟨0, 17, 20, 19⟩ [] rfl (fun _ h => absurd h List.not_mem_nil) rfl (by decide) w_265 jxc_jIO rfl (fun qx => ?_)
  refine j_astore_n (lv' := [(3, .ref qx), (0, .ref dk), (1, .int a0), (2, .ref ot)]) C dL_isMissing_20 (by decide) rfl ?_
  refine j_iconst (v := (nI 1)) C dL_isMissing_21 rfl ?_
  exact j_iret C hQ rfl dL_isMissing_22 ⟨by omega, by omega⟩ ⟨rfl, rfl⟩
set_option maxHeartbeats 4000000 in
set_option maxRecDepth 100000 in
theorem w_isThere_t (l : Launch) (E : jE) (A : Nat → Prop) {t sz sg la dk ot : Nat} {z g b z2 g2 b2 : Nat → Int32} {cr ca cg ck cr2 ca2 cg2 ck2 : Int32} {on : Int64} {os : Value} {rest : va_W} {mcf msf : Nat} {a0 : Int32} {rr : Int32} (hrr : ¬ rr = 0) (hM : jMet l yX3_isThere cX3_isThere 2 (some .boolean) 5 mcf msf E A [.ref dk, .int a0] (dW E t sz sg la dk z g b cr ca cg ck ((ot, .inr (4, [.long on, os])) :: rest)) (jR (some (.int rr)) (dW E t sz sg la dk z2 g2 b2 cr2 ca2 cg2 ck2 ((ot, .inr (4, [.long on, os])) :: rest))) jNo) : jMetH l yL_isThere cL_isThere 4 (some .int) [(0, 17, 20, 19)] 6 mcf msf E A [.ref dk, .int a0, .ref ot] (oW E t sz sg la dk ot z g b cr ca cg ck on os rest) (jR (some (.int (nI 0))) (oW E t sz sg la dk ot z2 g2 b2 cr2 ca2 cg2 ck2 1 os rest)) := by
  refine jMetH.intro [(0, .ref dk), (1, .int a0), (2, .ref ot)] (by decide) (by decide) (Nat.le_of_ble_eq_true rfl) rfl ?_
  intro p e R s m args below meth c Q C htab hQ
  refine j_aload_n C dL_isThere_0 rfl ?_
  refine j_aload_n C dL_isThere_1 rfl ?_
  refine j_iload_n C dL_isThere_2 rfl ?_
  refine j_callVr C 4 (v := .int rr) (w := (oW E t sz sg la dk ot z2 g2 b2 cr2 ca2 cg2 ck2 on os rest)) (hM) ok_X3_isThere w_881 (by omega) rfl rfl (Nat.le_of_ble_eq_true rfl) rfl rfl ⟨by omega, by omega⟩ dL_isThere_3 ?_
  refine j_if_eq_f (tgt := 13) C dL_isThere_6 (by decide) hrr ?_
  refine j_lconst (v := 1) C dL_isThere_9 rfl ?_
  refine j_goto (tgt := 14) C dL_isThere_10 (by decide) ?_
  refine j_putN (ws' := (oW E t sz sg la dk ot z2 g2 b2 cr2 ca2 cg2 ck2 1 os rest)) C 5 rfl inj_X4 tyX4 tyX4_ok nmX4 rfl 0 (by decide) (List.mem_of_getElem? (i := 1) rfl) rfl (tyX4_ok 0 (by decide)) rfl rfl (Nat.le_of_ble_eq_true rfl) dL_isThere_14 rfl ?_
  refine j_goto (tgt := 23) C dL_isThere_17 (by decide) ?_
  refine j_iconst (v := (nI 0)) C dL_isThere_23 rfl ?_
  exact j_iret C hQ rfl dL_isThere_24 ⟨by omega, by omega⟩ ⟨rfl, rfl⟩
set_option maxHeartbeats 4000000 in
set_option maxRecDepth 100000 in
theorem w_isThere_f (l : Launch) (E : jE) (A : Nat → Prop) {t sz sg la dk ot : Nat} {z g b z2 g2 b2 : Nat → Int32} {cr ca cg ck cr2 ca2 cg2 ck2 : Int32} {on : Int64} {os : Value} {rest : va_W} {mcf msf : Nat} {a0 : Int32} {rr : Int32} (hrr : rr = 0) (hM : jMet l yX3_isThere cX3_isThere 2 (some .boolean) 5 mcf msf E A [.ref dk, .int a0] (dW E t sz sg la dk z g b cr ca cg ck ((ot, .inr (4, [.long on, os])) :: rest)) (jR (some (.int rr)) (dW E t sz sg la dk z2 g2 b2 cr2 ca2 cg2 ck2 ((ot, .inr (4, [.long on, os])) :: rest))) jNo) : jMetH l yL_isThere cL_isThere 4 (some .int) [(0, 17, 20, 19)] 6 mcf msf E A [.ref dk, .int a0, .ref ot] (oW E t sz sg la dk ot z g b cr ca cg ck on os rest) (jR (some (.int (nI 0))) (oW E t sz sg la dk ot z2 g2 b2 cr2 ca2 cg2 ck2 0 os rest)) := by
  refine jMetH.intro [(0, .ref dk), (1, .int a0), (2, .ref ot)] (by decide) (by decide) (Nat.le_of_ble_eq_true rfl) rfl ?_
  intro p e R s m args below meth c Q C htab hQ
  refine j_aload_n C dL_isThere_0 rfl ?_
  refine j_aload_n C dL_isThere_1 rfl ?_
  refine j_iload_n C dL_isThere_2 rfl ?_
  refine j_callVr C 4 (v := .int rr) (w := (oW E t sz sg la dk ot z2 g2 b2 cr2 ca2 cg2 ck2 on os rest)) (hM) ok_X3_isThere w_881 (by omega) rfl rfl (Nat.le_of_ble_eq_true rfl) rfl rfl ⟨by omega, by omega⟩ dL_isThere_3 ?_
  refine j_if_eq_t (tgt := 13) C dL_isThere_6 (by decide) hrr ?_
  refine j_lconst (v := 0) C dL_isThere_13 rfl ?_
  refine j_putN (ws' := (oW E t sz sg la dk ot z2 g2 b2 cr2 ca2 cg2 ck2 0 os rest)) C 5 rfl inj_X4 tyX4 tyX4_ok nmX4 rfl 0 (by decide) (List.mem_of_getElem? (i := 1) rfl) rfl (tyX4_ok 0 (by decide)) rfl rfl (Nat.le_of_ble_eq_true rfl) dL_isThere_14 rfl ?_
  refine j_goto (tgt := 23) C dL_isThere_17 (by decide) ?_
  refine j_iconst (v := (nI 0)) C dL_isThere_23 rfl ?_
  exact j_iret C hQ rfl dL_isThere_24 ⟨by omega, by omega⟩ ⟨rfl, rfl⟩
set_option maxHeartbeats 4000000 in
set_option maxRecDepth 100000 in
theorem w_isThere_jIO (l : Launch) (E : jE) (A : Nat → Prop) {t sz sg la dk ot : Nat} {z g b : Nat → Int32} {cr ca cg ck : Int32} {on : Int64} {os : Value} {rest : va_W} {mcf msf : Nat} {a0 : Int32} (hM : jMet l yX3_isThere cX3_isThere 2 (some .boolean) 5 mcf msf E A [.ref dk, .int a0] (dW E t sz sg la dk z g b cr ca cg ck ((ot, .inr (4, [.long on, os])) :: rest)) jNv (jT jIO (dW E t sz sg la dk z g b cr ca cg ck ((ot, .inr (4, [.long on, os])) :: rest)))) : jMetH l yL_isThere cL_isThere 4 (some .int) [(0, 17, 20, 19)] 6 mcf msf E A [.ref dk, .int a0, .ref ot] (oW E t sz sg la dk ot z g b cr ca cg ck on os rest) (jR (some (.int (nI 1))) (oW E t sz sg la dk ot z g b cr ca cg ck on os rest)) := by
  refine jMetH.intro [(0, .ref dk), (1, .int a0), (2, .ref ot)] (by decide) (by decide) (Nat.le_of_ble_eq_true rfl) rfl ?_
  intro p e R s m args below meth c Q C htab hQ
  refine j_aload_n C dL_isThere_0 rfl ?_
  refine j_aload_n C dL_isThere_1 rfl ?_
  refine j_iload_n C dL_isThere_2 rfl ?_
  refine j_callVx C 4 (hM) ok_X3_isThere w_881 (by omega) rfl rfl (Nat.le_of_ble_eq_true rfl) rfl rfl ⟨by omega, by omega⟩ dL_isThere_3 ?_
  refine j_catch C (En := jIO) (tgt := 20) htab [] ⟨0, 17, 20, 19⟩ [] rfl (fun _ h => absurd h List.not_mem_nil) rfl (by decide) w_265 jxc_jIO rfl (fun qx => ?_)
  refine j_astore_n (lv' := [(3, .ref qx), (0, .ref dk), (1, .int a0), (2, .ref ot)]) C dL_isThere_20 (by decide) rfl ?_
  refine j_iconst (v := (nI 1)) C dL_isThere_21 rfl ?_
  exact j_iret C hQ rfl dL_isThere_22 ⟨by omega, by omega⟩ ⟨rfl, rfl⟩
set_option maxHeartbeats 4000000 in
set_option maxRecDepth 100000 in
theorem w_leave_r (l : Launch) (E : jE) (A : Nat → Prop) {t sz sg la dk ot : Nat} {z g b z2 g2 b2 : Nat → Int32} {cr ca cg ck cr2 ca2 cg2 ck2 : Int32} {on : Int64} {os : Value} {rest : va_W} {mcf msf : Nat} {a0 : Int32} {rr : Int32} (hM : jMet l yX3_leave cX3_leave 3 (some .int) 5 mcf msf E A [.ref dk, .int a0] (dW E t sz sg la dk z g b cr ca cg ck ((ot, .inr (4, [.long on, os])) :: rest)) (jR (some (.int rr)) (dW E t sz sg la dk z2 g2 b2 cr2 ca2 cg2 ck2 ((ot, .inr (4, [.long on, os])) :: rest))) jNo) : jMetH l yL_leave cL_leave 4 (some .int) [(0, 10, 13, 19)] 6 mcf msf E A [.ref dk, .int a0, .ref ot] (oW E t sz sg la dk ot z g b cr ca cg ck on os rest) (jR (some (.int (nI 0))) (oW E t sz sg la dk ot z2 g2 b2 cr2 ca2 cg2 ck2 rr.toInt64 os rest)) := by
  refine jMetH.intro [(0, .ref dk), (1, .int a0), (2, .ref ot)] (by decide) (by decide) (Nat.le_of_ble_eq_true rfl) rfl ?_
  intro p e R s m args below meth c Q C htab hQ
  refine j_aload_n C dL_leave_0 rfl ?_
  refine j_aload_n C dL_leave_1 rfl ?_
  refine j_iload_n C dL_leave_2 rfl ?_
  refine j_callVr C 4 (v := .int rr) (w := (oW E t sz sg la dk ot z2 g2 b2 cr2 ca2 cg2 ck2 on os rest)) (hM) ok_X3_leave w_456 (by omega) rfl rfl (Nat.le_of_ble_eq_true rfl) rfl rfl ⟨by omega, by omega⟩ dL_leave_3 ?_
  refine j_i2l (v := rr.toInt64) C dL_leave_6 rfl ?_
  refine j_putN (ws' := (oW E t sz sg la dk ot z2 g2 b2 cr2 ca2 cg2 ck2 rr.toInt64 os rest)) C 5 rfl inj_X4 tyX4 tyX4_ok nmX4 rfl 0 (by decide) (List.mem_of_getElem? (i := 1) rfl) rfl (tyX4_ok 0 (by decide)) rfl rfl (Nat.le_of_ble_eq_true rfl) dL_leave_7 rfl ?_
  refine j_goto (tgt := 16) C dL_leave_10 (by decide) ?_
  refine j_iconst (v := (nI 0)) C dL_leave_16 rfl ?_
  exact j_iret C hQ rfl dL_leave_17 ⟨by omega, by omega⟩ ⟨rfl, rfl⟩
set_option maxHeartbeats 4000000 in
set_option maxRecDepth 100000 in
theorem w_leave_jIO (l : Launch) (E : jE) (A : Nat → Prop) {t sz sg la dk ot : Nat} {z g b : Nat → Int32} {cr ca cg ck : Int32} {on : Int64} {os : Value} {rest : va_W} {mcf msf : Nat} {a0 : Int32} (hM : jMet l yX3_leave cX3_leave 3 (some .int) 5 mcf msf E A [.ref dk, .int a0] (dW E t sz sg la dk z g b cr ca cg ck ((ot, .inr (4, [.long on, os])) :: rest)) jNv (jT jIO (dW E t sz sg la dk z g b cr ca cg ck ((ot, .inr (4, [.long on, os])) :: rest)))) : jMetH l yL_leave cL_leave 4 (some .int) [(0, 10, 13, 19)] 6 mcf msf E A [.ref dk, .int a0, .ref ot] (oW E t sz sg la dk ot z g b cr ca cg ck on os rest) (jR (some (.int (nI 1))) (oW E t sz sg la dk ot z g b cr ca cg ck on os rest)) := by
  refine jMetH.intro [(0, .ref dk), (1, .int a0), (2, .ref ot)] (by decide) (by decide) (Nat.le_of_ble_eq_true rfl) rfl ?_
  intro p e R s m args below meth c Q C htab hQ
  refine j_aload_n C dL_leave_0 rfl ?_
  refine j_aload_n C dL_leave_1 rfl ?_
  refine j_iload_n C dL_leave_2 rfl ?_
  refine j_callVx C 4 (hM) ok_X3_leave w_456 (by omega) rfl rfl (Nat.le_of_ble_eq_true rfl) rfl rfl ⟨by omega, by omega⟩ dL_leave_3 ?_
  refine j_catch C (En := jIO) (tgt := 13) htab [] ⟨0, 10, 13, 19⟩ [] rfl (fun _ h => absurd h List.not_mem_nil) rfl (by decide) w_265 jxc_jIO rfl (fun qx => ?_)
  refine j_astore_n (lv' := [(3, .ref qx), (0, .ref dk), (1, .int a0), (2, .ref ot)]) C dL_leave_13 (by decide) rfl ?_
  refine j_iconst (v := (nI 1)) C dL_leave_14 rfl ?_
  exact j_iret C hQ rfl dL_leave_15 ⟨by omega, by omega⟩ ⟨rfl, rfl⟩
set_option maxHeartbeats 4000000 in
set_option maxRecDepth 100000 in
theorem w_length_r (l : Launch) (E : jE) (A : Nat → Prop) {t sz sg la dk ot : Nat} {z g b z2 g2 b2 : Nat → Int32} {cr ca cg ck cr2 ca2 cg2 ck2 : Int32} {on : Int64} {os : Value} {rest : va_W} {mcf msf : Nat} {a0 : Int32} {rr : Int32} (hM : jMet l yX3_length cX3_length 2 (some .int) 5 mcf msf E A [.ref dk, .int a0] (dW E t sz sg la dk z g b cr ca cg ck ((ot, .inr (4, [.long on, os])) :: rest)) (jR (some (.int rr)) (dW E t sz sg la dk z2 g2 b2 cr2 ca2 cg2 ck2 ((ot, .inr (4, [.long on, os])) :: rest))) jNo) : jMetH l yL_length cL_length 4 (some .int) [(0, 10, 13, 19)] 6 mcf msf E A [.ref dk, .int a0, .ref ot] (oW E t sz sg la dk ot z g b cr ca cg ck on os rest) (jR (some (.int (nI 0))) (oW E t sz sg la dk ot z2 g2 b2 cr2 ca2 cg2 ck2 rr.toInt64 os rest)) := by
  refine jMetH.intro [(0, .ref dk), (1, .int a0), (2, .ref ot)] (by decide) (by decide) (Nat.le_of_ble_eq_true rfl) rfl ?_
  intro p e R s m args below meth c Q C htab hQ
  refine j_aload_n C dL_length_0 rfl ?_
  refine j_aload_n C dL_length_1 rfl ?_
  refine j_iload_n C dL_length_2 rfl ?_
  refine j_callVr C 4 (v := .int rr) (w := (oW E t sz sg la dk ot z2 g2 b2 cr2 ca2 cg2 ck2 on os rest)) (hM) ok_X3_length w_762 (by omega) rfl rfl (Nat.le_of_ble_eq_true rfl) rfl rfl ⟨by omega, by omega⟩ dL_length_3 ?_
  refine j_i2l (v := rr.toInt64) C dL_length_6 rfl ?_
  refine j_putN (ws' := (oW E t sz sg la dk ot z2 g2 b2 cr2 ca2 cg2 ck2 rr.toInt64 os rest)) C 5 rfl inj_X4 tyX4 tyX4_ok nmX4 rfl 0 (by decide) (List.mem_of_getElem? (i := 1) rfl) rfl (tyX4_ok 0 (by decide)) rfl rfl (Nat.le_of_ble_eq_true rfl) dL_length_7 rfl ?_
  refine j_goto (tgt := 16) C dL_length_10 (by decide) ?_
  refine j_iconst (v := (nI 0)) C dL_length_16 rfl ?_
  exact j_iret C hQ rfl dL_length_17 ⟨by omega, by omega⟩ ⟨rfl, rfl⟩
set_option maxHeartbeats 4000000 in
set_option maxRecDepth 100000 in
theorem w_length_jIO (l : Launch) (E : jE) (A : Nat → Prop) {t sz sg la dk ot : Nat} {z g b : Nat → Int32} {cr ca cg ck : Int32} {on : Int64} {os : Value} {rest : va_W} {mcf msf : Nat} {a0 : Int32} (hM : jMet l yX3_length cX3_length 2 (some .int) 5 mcf msf E A [.ref dk, .int a0] (dW E t sz sg la dk z g b cr ca cg ck ((ot, .inr (4, [.long on, os])) :: rest)) jNv (jT jIO (dW E t sz sg la dk z g b cr ca cg ck ((ot, .inr (4, [.long on, os])) :: rest)))) : jMetH l yL_length cL_length 4 (some .int) [(0, 10, 13, 19)] 6 mcf msf E A [.ref dk, .int a0, .ref ot] (oW E t sz sg la dk ot z g b cr ca cg ck on os rest) (jR (some (.int (nI 1))) (oW E t sz sg la dk ot z g b cr ca cg ck on os rest)) := by
  refine jMetH.intro [(0, .ref dk), (1, .int a0), (2, .ref ot)] (by decide) (by decide) (Nat.le_of_ble_eq_true rfl) rfl ?_
  intro p e R s m args below meth c Q C htab hQ
  refine j_aload_n C dL_length_0 rfl ?_
  refine j_aload_n C dL_length_1 rfl ?_
  refine j_iload_n C dL_length_2 rfl ?_
  refine j_callVx C 4 (hM) ok_X3_length w_762 (by omega) rfl rfl (Nat.le_of_ble_eq_true rfl) rfl rfl ⟨by omega, by omega⟩ dL_length_3 ?_
  refine j_catch C (En := jIO) (tgt := 13) htab [] ⟨0, 10, 13, 19⟩ [] rfl (fun _ h => absurd h List.not_mem_nil) rfl (by decide) w_265 jxc_jIO rfl (fun qx => ?_)
  refine j_astore_n (lv' := [(3, .ref qx), (0, .ref dk), (1, .int a0), (2, .ref ot)]) C dL_length_13 (by decide) rfl ?_
  refine j_iconst (v := (nI 1)) C dL_length_14 rfl ?_
  exact j_iret C hQ rfl dL_length_15 ⟨by omega, by omega⟩ ⟨rfl, rfl⟩
set_option maxHeartbeats 4000000 in
set_option maxRecDepth 100000 in
theorem w_must_r (l : Launch) (E : jE) (A : Nat → Prop) {t sz sg la dk ot : Nat} {z g b z2 g2 b2 : Nat → Int32} {cr ca cg ck cr2 ca2 cg2 ck2 : Int32} {on : Int64} {os : Value} {rest : va_W} {mcf msf : Nat} {a0 : Int32} {rr : Int32} (hM : jMet l yX3_must cX3_must 2 (some .int) 5 mcf msf E A [.ref dk, .int a0] (dW E t sz sg la dk z g b cr ca cg ck ((ot, .inr (4, [.long on, os])) :: rest)) (jR (some (.int rr)) (dW E t sz sg la dk z2 g2 b2 cr2 ca2 cg2 ck2 ((ot, .inr (4, [.long on, os])) :: rest))) jNo) : jMetH l yL_must cL_must 4 (some .int) [(0, 10, 13, 19)] 6 mcf msf E A [.ref dk, .int a0, .ref ot] (oW E t sz sg la dk ot z g b cr ca cg ck on os rest) (jR (some (.int (nI 0))) (oW E t sz sg la dk ot z2 g2 b2 cr2 ca2 cg2 ck2 rr.toInt64 os rest)) := by
  refine jMetH.intro [(0, .ref dk), (1, .int a0), (2, .ref ot)] (by decide) (by decide) (Nat.le_of_ble_eq_true rfl) rfl ?_
  intro p e R s m args below meth c Q C htab hQ
  refine j_aload_n C dL_must_0 rfl ?_
  refine j_aload_n C dL_must_1 rfl ?_
  refine j_iload_n C dL_must_2 rfl ?_
  refine j_callVr C 4 (v := .int rr) (w := (oW E t sz sg la dk ot z2 g2 b2 cr2 ca2 cg2 ck2 on os rest)) (hM) ok_X3_must w_842 (by omega) rfl rfl (Nat.le_of_ble_eq_true rfl) rfl rfl ⟨by omega, by omega⟩ dL_must_3 ?_
  refine j_i2l (v := rr.toInt64) C dL_must_6 rfl ?_
  refine j_putN (ws' := (oW E t sz sg la dk ot z2 g2 b2 cr2 ca2 cg2 ck2 rr.toInt64 os rest)) C 5 rfl inj_X4 tyX4 tyX4_ok nmX4 rfl 0 (by decide) (List.mem_of_getElem? (i := 1) rfl) rfl (tyX4_ok 0 (by decide)) rfl rfl (Nat.le_of_ble_eq_true rfl) dL_must_7 rfl ?_
  refine j_goto (tgt := 16) C dL_must_10 (by decide) ?_
  refine j_iconst (v := (nI 0)) C dL_must_16 rfl ?_
  exact j_iret C hQ rfl dL_must_17 ⟨by omega, by omega⟩ ⟨rfl, rfl⟩
set_option maxHeartbeats 4000000 in
set_option maxRecDepth 100000 in
theorem w_must_jIO (l : Launch) (E : jE) (A : Nat → Prop) {t sz sg la dk ot : Nat} {z g b : Nat → Int32} {cr ca cg ck : Int32} {on : Int64} {os : Value} {rest : va_W} {mcf msf : Nat} {a0 : Int32} (hM : jMet l yX3_must cX3_must 2 (some .int) 5 mcf msf E A [.ref dk, .int a0] (dW E t sz sg la dk z g b cr ca cg ck ((ot, .inr (4, [.long on, os])) :: rest)) jNv (jT jIO (dW E t sz sg la dk z g b cr ca cg ck ((ot, .inr (4, [.long on, os])) :: rest)))) : jMetH l yL_must cL_must 4 (some .int) [(0, 10, 13, 19)] 6 mcf msf E A [.ref dk, .int a0, .ref ot] (oW E t sz sg la dk ot z g b cr ca cg ck on os rest) (jR (some (.int (nI 1))) (oW E t sz sg la dk ot z g b cr ca cg ck on os rest)) := by
  refine jMetH.intro [(0, .ref dk), (1, .int a0), (2, .ref ot)] (by decide) (by decide) (Nat.le_of_ble_eq_true rfl) rfl ?_
  intro p e R s m args below meth c Q C htab hQ
  refine j_aload_n C dL_must_0 rfl ?_
  refine j_aload_n C dL_must_1 rfl ?_
  refine j_iload_n C dL_must_2 rfl ?_
  refine j_callVx C 4 (hM) ok_X3_must w_842 (by omega) rfl rfl (Nat.le_of_ble_eq_true rfl) rfl rfl ⟨by omega, by omega⟩ dL_must_3 ?_
  refine j_catch C (En := jIO) (tgt := 13) htab [] ⟨0, 10, 13, 19⟩ [] rfl (fun _ h => absurd h List.not_mem_nil) rfl (by decide) w_265 jxc_jIO rfl (fun qx => ?_)
  refine j_astore_n (lv' := [(3, .ref qx), (0, .ref dk), (1, .int a0), (2, .ref ot)]) C dL_must_13 (by decide) rfl ?_
  refine j_iconst (v := (nI 1)) C dL_must_14 rfl ?_
  exact j_iret C hQ rfl dL_must_15 ⟨by omega, by omega⟩ ⟨rfl, rfl⟩
set_option maxHeartbeats 4000000 in
set_option maxRecDepth 100000 in
theorem w_mustSaying_r (l : Launch) (E : jE) (A : Nat → Prop) {t sz sg la dk ot : Nat} {z g b z2 g2 b2 : Nat → Int32} {cr ca cg ck cr2 ca2 cg2 ck2 : Int32} {on : Int64} {os : Value} {rest : va_W} {mcf msf : Nat} {a0 : Int32} {rr : Int32} (hM : jMet l yX3_mustSaying cX3_mustSaying 2 (some .int) 5 mcf msf E A [.ref dk, .int a0] (dW E t sz sg la dk z g b cr ca cg ck ((ot, .inr (4, [.long on, os])) :: rest)) (jR (some (.int rr)) (dW E t sz sg la dk z2 g2 b2 cr2 ca2 cg2 ck2 ((ot, .inr (4, [.long on, os])) :: rest))) jNo) : jMetH l yL_mustSaying cL_mustSaying 4 (some .int) [(0, 10, 13, 19)] 6 mcf msf E A [.ref dk, .int a0, .ref ot] (oW E t sz sg la dk ot z g b cr ca cg ck on os rest) (jR (some (.int (nI 0))) (oW E t sz sg la dk ot z2 g2 b2 cr2 ca2 cg2 ck2 rr.toInt64 os rest)) := by
  refine jMetH.intro [(0, .ref dk), (1, .int a0), (2, .ref ot)] (by decide) (by decide) (Nat.le_of_ble_eq_true rfl) rfl ?_
  intro p e R s m args below meth c Q C htab hQ
  refine j_aload_n C dL_mustSaying_0 rfl ?_
  refine j_aload_n C dL_mustSaying_1 rfl ?_
  refine j_iload_n C dL_mustSaying_2 rfl ?_
  refine j_callVr C 4 (v := .int rr) (w := (oW E t sz sg la dk ot z2 g2 b2 cr2 ca2 cg2 ck2 on os rest)) (hM) ok_X3_mustSaying w_849 (by omega) rfl rfl (Nat.le_of_ble_eq_true rfl) rfl rfl ⟨by omega, by omega⟩ dL_mustSaying_3 ?_
  refine j_i2l (v := rr.toInt64) C dL_mustSaying_6 rfl ?_
  refine j_putN (ws' := (oW E t sz sg la dk ot z2 g2 b2 cr2 ca2 cg2 ck2 rr.toInt64 os rest)) C 5 rfl inj_X4 tyX4 tyX4_ok nmX4 rfl 0 (by decide) (List.mem_of_getElem? (i := 1) rfl) rfl (tyX4_ok 0 (by decide)) rfl rfl (Nat.le_of_ble_eq_true rfl) dL_mustSaying_7 rfl ?_
  refine j_goto (tgt := 16) C dL_mustSaying_10 (by decide) ?_
  refine j_iconst (v := (nI 0)) C dL_mustSaying_16 rfl ?_
  exact j_iret C hQ rfl dL_mustSaying_17 ⟨by omega, by omega⟩ ⟨rfl, rfl⟩
set_option maxHeartbeats 4000000 in
set_option maxRecDepth 100000 in
theorem w_mustSaying_jIO (l : Launch) (E : jE) (A : Nat → Prop) {t sz sg la dk ot : Nat} {z g b : Nat → Int32} {cr ca cg ck : Int32} {on : Int64} {os : Value} {rest : va_W} {mcf msf : Nat} {a0 : Int32} (hM : jMet l yX3_mustSaying cX3_mustSaying 2 (some .int) 5 mcf msf E A [.ref dk, .int a0] (dW E t sz sg la dk z g b cr ca cg ck ((ot, .inr (4, [.long on, os])) :: rest)) jNv (jT jIO (dW E t sz sg la dk z g b cr ca cg ck ((ot, .inr (4, [.long on, os])) :: rest)))) : jMetH l yL_mustSaying cL_mustSaying 4 (some .int) [(0, 10, 13, 19)] 6 mcf msf E A [.ref dk, .int a0, .ref ot] (oW E t sz sg la dk ot z g b cr ca cg ck on os rest) (jR (some (.int (nI 1))) (oW E t sz sg la dk ot z g b cr ca cg ck on os rest)) := by
  refine jMetH.intro [(0, .ref dk), (1, .int a0), (2, .ref ot)] (by decide) (by decide) (Nat.le_of_ble_eq_true rfl) rfl ?_
  intro p e R s m args below meth c Q C htab hQ
  refine j_aload_n C dL_mustSaying_0 rfl ?_
  refine j_aload_n C dL_mustSaying_1 rfl ?_
  refine j_iload_n C dL_mustSaying_2 rfl ?_
  refine j_callVx C 4 (hM) ok_X3_mustSaying w_849 (by omega) rfl rfl (Nat.le_of_ble_eq_true rfl) rfl rfl ⟨by omega, by omega⟩ dL_mustSaying_3 ?_
  refine j_catch C (En := jIO) (tgt := 13) htab [] ⟨0, 10, 13, 19⟩ [] rfl (fun _ h => absurd h List.not_mem_nil) rfl (by decide) w_265 jxc_jIO rfl (fun qx => ?_)
  refine j_astore_n (lv' := [(3, .ref qx), (0, .ref dk), (1, .int a0), (2, .ref ot)]) C dL_mustSaying_13 (by decide) rfl ?_
  refine j_iconst (v := (nI 1)) C dL_mustSaying_14 rfl ?_
  exact j_iret C hQ rfl dL_mustSaying_15 ⟨by omega, by omega⟩ ⟨rfl, rfl⟩
set_option maxHeartbeats 4000000 in
set_option maxRecDepth 100000 in
theorem w_orElse_r (l : Launch) (E : jE) (A : Nat → Prop) {t sz sg la dk ot : Nat} {z g b z2 g2 : Nat → Int32} {cr ca cg ck cr2 ca2 cg2 ck2 : Int32} {on : Int64} {os : Value} {rest : va_W} {mcf msf : Nat} {a0 a1 : Int32} (hM : jMet l yX3_orElse cX3_orElse 3 (some (.object "java/lang/String")) 10 mcf msf E A [.ref dk, .int a0, .int a1] (dW E t sz sg la dk z g b cr ca cg ck ((ot, .inr (4, [.long on, os])) :: rest)) (fun v w => ∃ (aa : Nat) (bb : Nat → Int32), v = some (.ref aa) ∧ w = dW E t sz sg la dk z2 g2 bb cr2 ca2 cg2 ck2 ((ot, .inr (4, [.long on, os])) :: rest)) jNo) : jMetH l yL_orElse cL_orElse 5 (some .int) [(0, 10, 13, 19)] 11 mcf msf E A [.ref dk, .int a0, .int a1, .ref ot] (oW E t sz sg la dk ot z g b cr ca cg ck on os rest) (fun v w => ∃ (aa : Nat) (bb : Nat → Int32), v = some (.int (nI 0)) ∧ w = oW E t sz sg la dk ot z2 g2 bb cr2 ca2 cg2 ck2 on (.ref aa) rest) := by
  refine jMetH.intro [(0, .ref dk), (1, .int a0), (2, .int a1), (3, .ref ot)] (by decide) (by decide) (Nat.le_of_ble_eq_true rfl) rfl ?_
  intro p e R s m args below meth c Q C htab hQ
  refine j_aload_n C dL_orElse_0 rfl ?_
  refine j_aload_n C dL_orElse_1 rfl ?_
  refine j_iload_n C dL_orElse_2 rfl ?_
  refine j_iload_n C dL_orElse_3 rfl ?_
  refine j_callV C (q0 := 4) (hM) ok_X3_orElse w_856 (by omega) rfl rfl (Nat.le_of_ble_eq_true rfl) rfl rfl ⟨by omega, by omega⟩ dL_orElse_4 (fun _ _ h => h.elim) (fun _ _ h => ?_)
  obtain ⟨aa, bb, rfl, rfl⟩ := h
  refine j_putN (ws' := (oW E t sz sg la dk ot z2 g2 bb cr2 ca2 cg2 ck2 on (.ref aa) rest)) C 5 rfl inj_X4 tyX4 tyX4_ok nmX4 rfl 1 (by decide) (List.mem_of_getElem? (i := 2) rfl) rfl (tyX4_ok 1 (by decide)) rfl rfl (Nat.le_of_ble_eq_true rfl) dL_orElse_7 rfl ?_
  refine j_goto (tgt := 17) C dL_orElse_10 (by decide) ?_
  refine j_iconst (v := (nI 0)) C dL_orElse_17 rfl ?_
  exact j_iret C hQ rfl dL_orElse_18 ⟨by omega, by omega⟩ ⟨aa, bb, rfl, rfl⟩
set_option maxHeartbeats 4000000 in
set_option maxRecDepth 100000 in
theorem w_orElse_jIO (l : Launch) (E : jE) (A : Nat → Prop) {t sz sg la dk ot : Nat} {z g b : Nat → Int32} {cr ca cg ck : Int32} {on : Int64} {os : Value} {rest : va_W} {mcf msf : Nat} {a0 a1 : Int32} (hM : jMet l yX3_orElse cX3_orElse 3 (some (.object "java/lang/String")) 10 mcf msf E A [.ref dk, .int a0, .int a1] (dW E t sz sg la dk z g b cr ca cg ck ((ot, .inr (4, [.long on, os])) :: rest)) jNv (jT jIO (dW E t sz sg la dk z g b cr ca cg ck ((ot, .inr (4, [.long on, os])) :: rest)))) : jMetH l yL_orElse cL_orElse 5 (some .int) [(0, 10, 13, 19)] 11 mcf msf E A [.ref dk, .int a0, .int a1, .ref ot] (oW E t sz sg la dk ot z g b cr ca cg ck on os rest) (jR (some (.int (nI 1))) (oW E t sz sg la dk ot z g b cr ca cg ck on os rest)) := by
  refine jMetH.intro [(0, .ref dk), (1, .int a0), (2, .int a1), (3, .ref ot)] (by decide) (by decide) (Nat.le_of_ble_eq_true rfl) rfl ?_
  intro p e R s m args below meth c Q C htab hQ
  refine j_aload_n C dL_orElse_0 rfl ?_
  refine j_aload_n C dL_orElse_1 rfl ?_
  refine j_iload_n C dL_orElse_2 rfl ?_
  refine j_iload_n C dL_orElse_3 rfl ?_
  refine j_callVx C 4 (hM) ok_X3_orElse w_856 (by omega) rfl rfl (Nat.le_of_ble_eq_true rfl) rfl rfl ⟨by omega, by omega⟩ dL_orElse_4 ?_
  refine j_catch C (En := jIO) (tgt := 13) htab [] ⟨0, 10, 13, 19⟩ [] rfl (fun _ h => absurd h List.not_mem_nil) rfl (by decide) w_265 jxc_jIO rfl (fun qx => ?_)
  refine j_astore (lv' := [(4, .ref qx), (0, .ref dk), (1, .int a0), (2, .int a1), (3, .ref ot)]) C dL_orElse_13 (by decide) rfl ?_
  refine j_iconst (v := (nI 1)) C dL_orElse_15 rfl ?_
  exact j_iret C hQ rfl dL_orElse_16 ⟨by omega, by omega⟩ ⟨rfl, rfl⟩
set_option maxHeartbeats 4000000 in
set_option maxRecDepth 100000 in
theorem w_orGiven_r (l : Launch) (E : jE) (A : Nat → Prop) {t sz sg la dk ot : Nat} {z g b z2 g2 : Nat → Int32} {cr ca cg ck cr2 ca2 cg2 ck2 : Int32} {on : Int64} {os : Value} {rest : va_W} {mcf msf : Nat} {a0 a1 : Int32} (hM : jMet l yX3_orGiven cX3_orGiven 3 (some (.object "java/lang/String")) 10 mcf msf E A [.ref dk, .int a0, .int a1] (dW E t sz sg la dk z g b cr ca cg ck ((ot, .inr (4, [.long on, os])) :: rest)) (fun v w => ∃ (aa : Nat) (bb : Nat → Int32), v = some (.ref aa) ∧ w = dW E t sz sg la dk z2 g2 bb cr2 ca2 cg2 ck2 ((ot, .inr (4, [.long on, os])) :: rest)) jNo) : jMetH l yL_orGiven cL_orGiven 5 (some .int) [(0, 10, 13, 19)] 11 mcf msf E A [.ref dk, .int a0, .int a1, .ref ot] (oW E t sz sg la dk ot z g b cr ca cg ck on os rest) (fun v w => ∃ (aa : Nat) (bb : Nat → Int32), v = some (.int (nI 0)) ∧ w = oW E t sz sg la dk ot z2 g2 bb cr2 ca2 cg2 ck2 on (.ref aa) rest) := by
  refine jMetH.intro [(0, .ref dk), (1, .int a0), (2, .int a1), (3, .ref ot)] (by decide) (by decide) (Nat.le_of_ble_eq_true rfl) rfl ?_
  intro p e R s m args below meth c Q C htab hQ
  refine j_aload_n C dL_orGiven_0 rfl ?_
  refine j_aload_n C dL_orGiven_1 rfl ?_
  refine j_iload_n C dL_orGiven_2 rfl ?_
  refine j_iload_n C dL_orGiven_3 rfl ?_
  refine j_callV C (q0 := 4) (hM) ok_X3_orGiven w_867 (by omega) rfl rfl (Nat.le_of_ble_eq_true rfl) rfl rfl ⟨by omega, by omega⟩ dL_orGiven_4 (fun _ _ h => h.elim) (fun _ _ h => ?_)
  obtain ⟨aa, bb, rfl, rfl⟩ := h
  refine j_putN (ws' := (oW E t sz sg la dk ot z2 g2 bb cr2 ca2 cg2 ck2 on (.ref aa) rest)) C 5 rfl inj_X4 tyX4 tyX4_ok nmX4 rfl 1 (by decide) (List.mem_of_getElem? (i := 2) rfl) rfl (tyX4_ok 1 (by decide)) rfl rfl (Nat.le_of_ble_eq_true rfl) dL_orGiven_7 rfl ?_
  refine j_goto (tgt := 17) C dL_orGiven_10 (by decide) ?_
  refine j_iconst (v := (nI 0)) C dL_orGiven_17 rfl ?_
  exact j_iret C hQ rfl dL_orGiven_18 ⟨by omega, by omega⟩ ⟨aa, bb, rfl, rfl⟩
set_option maxHeartbeats 4000000 in
set_option maxRecDepth 100000 in
theorem w_orGiven_jIO (l : Launch) (E : jE) (A : Nat → Prop) {t sz sg la dk ot : Nat} {z g b : Nat → Int32} {cr ca cg ck : Int32} {on : Int64} {os : Value} {rest : va_W} {mcf msf : Nat} {a0 a1 : Int32} (hM : jMet l yX3_orGiven cX3_orGiven 3 (some (.object "java/lang/String")) 10 mcf msf E A [.ref dk, .int a0, .int a1] (dW E t sz sg la dk z g b cr ca cg ck ((ot, .inr (4, [.long on, os])) :: rest)) jNv (jT jIO (dW E t sz sg la dk z g b cr ca cg ck ((ot, .inr (4, [.long on, os])) :: rest)))) : jMetH l yL_orGiven cL_orGiven 5 (some .int) [(0, 10, 13, 19)] 11 mcf msf E A [.ref dk, .int a0, .int a1, .ref ot] (oW E t sz sg la dk ot z g b cr ca cg ck on os rest) (jR (some (.int (nI 1))) (oW E t sz sg la dk ot z g b cr ca cg ck on os rest)) := by
  refine jMetH.intro [(0, .ref dk), (1, .int a0), (2, .int a1), (3, .ref ot)] (by decide) (by decide) (Nat.le_of_ble_eq_true rfl) rfl ?_
  intro p e R s m args below meth c Q C htab hQ
  refine j_aload_n C dL_orGiven_0 rfl ?_
  refine j_aload_n C dL_orGiven_1 rfl ?_
  refine j_iload_n C dL_orGiven_2 rfl ?_
  refine j_iload_n C dL_orGiven_3 rfl ?_
  refine j_callVx C 4 (hM) ok_X3_orGiven w_867 (by omega) rfl rfl (Nat.le_of_ble_eq_true rfl) rfl rfl ⟨by omega, by omega⟩ dL_orGiven_4 ?_
  refine j_catch C (En := jIO) (tgt := 13) htab [] ⟨0, 10, 13, 19⟩ [] rfl (fun _ h => absurd h List.not_mem_nil) rfl (by decide) w_265 jxc_jIO rfl (fun qx => ?_)
  refine j_astore (lv' := [(4, .ref qx), (0, .ref dk), (1, .int a0), (2, .int a1), (3, .ref ot)]) C dL_orGiven_13 (by decide) rfl ?_
  refine j_iconst (v := (nI 1)) C dL_orGiven_15 rfl ?_
  exact j_iret C hQ rfl dL_orGiven_16 ⟨by omega, by omega⟩ ⟨rfl, rfl⟩
set_option maxHeartbeats 4000000 in
set_option maxRecDepth 100000 in
theorem w_order_r (l : Launch) (E : jE) (A : Nat → Prop) {t sz sg la dk ot : Nat} {z g b z2 g2 b2 : Nat → Int32} {cr ca cg ck cr2 ca2 cg2 ck2 : Int32} {on : Int64} {os : Value} {rest : va_W} {mcf msf : Nat} {a0 a1 a2 : Int32} {rr : Int32} (hM : jMet l yX3_order cX3_order 4 (some .int) 5 mcf msf E A [.ref dk, .int a0, .int a1, .int a2] (dW E t sz sg la dk z g b cr ca cg ck ((ot, .inr (4, [.long on, os])) :: rest)) (jR (some (.int rr)) (dW E t sz sg la dk z2 g2 b2 cr2 ca2 cg2 ck2 ((ot, .inr (4, [.long on, os])) :: rest))) jNo) : jMetH l yL_order cL_order 6 (some .int) [(0, 13, 16, 19), (0, 13, 20, 21)] 6 mcf msf E A [.ref dk, .int a0, .int a1, .int a2, .ref ot] (oW E t sz sg la dk ot z g b cr ca cg ck on os rest) (jR (some (.int (nI 0))) (oW E t sz sg la dk ot z2 g2 b2 cr2 ca2 cg2 ck2 rr.toInt64 os rest)) := by
  refine jMetH.intro [(0, .ref dk), (1, .int a0), (2, .int a1), (3, .int a2), (4, .ref ot)] (by decide) (by decide) (Nat.le_of_ble_eq_true rfl) rfl ?_
  intro p e R s m args below meth c Q C htab hQ
  refine j_aload C dL_order_0 rfl ?_
  refine j_aload_n C dL_order_2 rfl ?_
  refine j_iload_n C dL_order_3 rfl ?_
  refine j_iload_n C dL_order_4 rfl ?_
  refine j_iload_n C dL_order_5 rfl ?_
  refine j_callVr C 4 (v := .int rr) (w := (oW E t sz sg la dk ot z2 g2 b2 cr2 ca2 cg2 ck2 on os rest)) (hM) ok_X3_order w_824 (by omega) rfl rfl (Nat.le_of_ble_eq_true rfl) rfl rfl ⟨by omega, by omega⟩ dL_order_6 ?_
  refine j_i2l (v := rr.toInt64) C dL_order_9 rfl ?_
  refine j_putN (ws' := (oW E t sz sg la dk ot z2 g2 b2 cr2 ca2 cg2 ck2 rr.toInt64 os rest)) C 5 rfl inj_X4 tyX4 tyX4_ok nmX4 rfl 0 (by decide) (List.mem_of_getElem? (i := 1) rfl) rfl (tyX4_ok 0 (by decide)) rfl rfl (Nat.le_of_ble_eq_true rfl) dL_order_10 rfl ?_
  refine j_goto (tgt := 24) C dL_order_13 (by decide) ?_
  refine j_iconst (v := (nI 0)) C dL_order_24 rfl ?_
  exact j_iret C hQ rfl dL_order_25 ⟨by omega, by omega⟩ ⟨rfl, rfl⟩
set_option maxHeartbeats 4000000 in
set_option maxRecDepth 100000 in
theorem w_order_jIO (l : Launch) (E : jE) (A : Nat → Prop) {t sz sg la dk ot : Nat} {z g b : Nat → Int32} {cr ca cg ck : Int32} {on : Int64} {os : Value} {rest : va_W} {mcf msf : Nat} {a0 a1 a2 : Int32} (hM : jMet l yX3_order cX3_order 4 (some .int) 5 mcf msf E A [.ref dk, .int a0, .int a1, .int a2] (dW E t sz sg la dk z g b cr ca cg ck ((ot, .inr (4, [.long on, os])) :: rest)) jNv (jT jIO (dW E t sz sg la dk z g b cr ca cg ck ((ot, .inr (4, [.long on, os])) :: rest)))) : jMetH l yL_order cL_order 6 (some .int) [(0, 13, 16, 19), (0, 13, 20, 21)] 6 mcf msf E A [.ref dk, .int a0, .int a1, .int a2, .ref ot] (oW E t sz sg la dk ot z g b cr ca cg ck on os rest) (jR (some (.int (nI 1))) (oW E t sz sg la dk ot z g b cr ca cg ck on os rest)) := by
  refine jMetH.intro [(0, .ref dk), (1, .int a0), (2, .int a1), (3, .int a2), (4, .ref ot)] (by decide) (by decide) (Nat.le_of_ble_eq_true rfl) rfl ?_
  intro p e R s m args below meth c Q C htab hQ
  refine j_aload C dL_order_0 rfl ?_
  refine j_aload_n C dL_order_2 rfl ?_
  refine j_iload_n C dL_order_3 rfl ?_
  refine j_iload_n C dL_order_4 rfl ?_
  refine j_iload_n C dL_order_5 rfl ?_
  refine j_callVx C 4 (hM) ok_X3_order w_824 (by omega) rfl rfl (Nat.le_of_ble_eq_true rfl) rfl rfl ⟨by omega, by omega⟩ dL_order_6 ?_
  refine j_catch C (En := jIO) (tgt := 16) htab [] ⟨0, 13, 16, 19⟩ [⟨0, 13, 20, 21⟩] rfl (fun _ h => absurd h List.not_mem_nil) rfl (by decide) w_265 jxc_jIO rfl (fun qx => ?_)
  refine j_astore (lv' := [(5, .ref qx), (0, .ref dk), (1, .int a0), (2, .int a1), (3, .int a2), (4, .ref ot)]) C dL_order_16 (by decide) rfl ?_
  refine j_iconst (v := (nI 1)) C dL_order_18 rfl ?_
  exact j_iret C hQ rfl dL_order_19 ⟨by omega, by omega⟩ ⟨rfl, rfl⟩
set_option maxHeartbeats 4000000 in
set_option maxRecDepth 100000 in
theorem w_order_jIA (l : Launch) (E : jE) (A : Nat → Prop) {t sz sg la dk ot : Nat} {z g b : Nat → Int32} {cr ca cg ck : Int32} {on : Int64} {os : Value} {rest : va_W} {mcf msf : Nat} {a0 a1 a2 : Int32} (hM : jMet l yX3_order cX3_order 4 (some .int) 5 mcf msf E A [.ref dk, .int a0, .int a1, .int a2] (dW E t sz sg la dk z g b cr ca cg ck ((ot, .inr (4, [.long on, os])) :: rest)) jNv (jT jIA (dW E t sz sg la dk z g b cr ca cg ck ((ot, .inr (4, [.long on, os])) :: rest)))) : jMetH l yL_order cL_order 6 (some .int) [(0, 13, 16, 19), (0, 13, 20, 21)] 6 mcf msf E A [.ref dk, .int a0, .int a1, .int a2, .ref ot] (oW E t sz sg la dk ot z g b cr ca cg ck on os rest) (jR (some (.int (nI 2))) (oW E t sz sg la dk ot z g b cr ca cg ck on os rest)) := by
  refine jMetH.intro [(0, .ref dk), (1, .int a0), (2, .int a1), (3, .int a2), (4, .ref ot)] (by decide) (by decide) (Nat.le_of_ble_eq_true rfl) rfl ?_
  intro p e R s m args below meth c Q C htab hQ
  refine j_aload C dL_order_0 rfl ?_
  refine j_aload_n C dL_order_2 rfl ?_
  refine j_iload_n C dL_order_3 rfl ?_
  refine j_iload_n C dL_order_4 rfl ?_
  refine j_iload_n C dL_order_5 rfl ?_
  refine j_callVx C 4 (hM) ok_X3_order w_824 (by omega) rfl rfl (Nat.le_of_ble_eq_true rfl) rfl rfl ⟨by omega, by omega⟩ dL_order_6 ?_
  refine j_catch C (En := jIA) (tgt := 20) htab [⟨0, 13, 16, 19⟩] ⟨0, 13, 20, 21⟩ [] rfl (List.forall_mem_cons.mpr ⟨⟨by decide, _, w_265, List.mem_of_getElem? (i := 2) rfl⟩, fun _ h => absurd h List.not_mem_nil⟩) rfl (by decide) w_266 jxc_jIA rfl (fun qx => ?_)
  refine j_astore (lv' := [(5, .ref qx), (0, .ref dk), (1, .int a0), (2, .int a1), (3, .int a2), (4, .ref ot)]) C dL_order_20 (by decide) rfl ?_
  refine j_iconst (v := (nI 2)) C dL_order_22 rfl ?_
  exact j_iret C hQ rfl dL_order_23 ⟨by omega, by omega⟩ ⟨rfl, rfl⟩
set_option maxHeartbeats 4000000 in
set_option maxRecDepth 100000 in
theorem w_part_r (l : Launch) (E : jE) (A : Nat → Prop) {t sz sg la dk ot : Nat} {z g b z2 g2 : Nat → Int32} {cr ca cg ck cr2 ca2 cg2 ck2 : Int32} {on : Int64} {os : Value} {rest : va_W} {mcf msf : Nat} {a0 a1 a2 : Int32} (hM : jMet l yX3_part cX3_part 4 (some (.object "java/lang/String")) 10 mcf msf E A [.ref dk, .int a0, .int a1, .int a2] (dW E t sz sg la dk z g b cr ca cg ck ((ot, .inr (4, [.long on, os])) :: rest)) (fun v w => ∃ (aa : Nat) (bb : Nat → Int32), v = some (.ref aa) ∧ w = dW E t sz sg la dk z2 g2 bb cr2 ca2 cg2 ck2 ((ot, .inr (4, [.long on, os])) :: rest)) jNo) : jMetH l yL_part cL_part 6 (some .int) [(0, 12, 15, 19)] 11 mcf msf E A [.ref dk, .int a0, .int a1, .int a2, .ref ot] (oW E t sz sg la dk ot z g b cr ca cg ck on os rest) (fun v w => ∃ (aa : Nat) (bb : Nat → Int32), v = some (.int (nI 0)) ∧ w = oW E t sz sg la dk ot z2 g2 bb cr2 ca2 cg2 ck2 on (.ref aa) rest) := by
  refine jMetH.intro [(0, .ref dk), (1, .int a0), (2, .int a1), (3, .int a2), (4, .ref ot)] (by decide) (by decide) (Nat.le_of_ble_eq_true rfl) rfl ?_
  intro p e R s m args below meth c Q C htab hQ
  refine j_aload C dL_part_0 rfl ?_
  refine j_aload_n C dL_part_2 rfl ?_
  refine j_iload_n C dL_part_3 rfl ?_
  refine j_iload_n C dL_part_4 rfl ?_
  refine j_iload_n C dL_part_5 rfl ?_
  refine j_callV C (q0 := 4) (hM) ok_X3_part w_776 (by omega) rfl rfl (Nat.le_of_ble_eq_true rfl) rfl rfl ⟨by omega, by omega⟩ dL_part_6 (fun _ _ h => h.elim) (fun _ _ h => ?_)
  obtain ⟨aa, bb, rfl, rfl⟩ := h
  refine j_putN (ws' := (oW E t sz sg la dk ot z2 g2 bb cr2 ca2 cg2 ck2 on (.ref aa) rest)) C 5 rfl inj_X4 tyX4 tyX4_ok nmX4 rfl 1 (by decide) (List.mem_of_getElem? (i := 2) rfl) rfl (tyX4_ok 1 (by decide)) rfl rfl (Nat.le_of_ble_eq_true rfl) dL_part_9 rfl ?_
  refine j_goto (tgt := 19) C dL_part_12 (by decide) ?_
  refine j_iconst (v := (nI 0)) C dL_part_19 rfl ?_
  exact j_iret C hQ rfl dL_part_20 ⟨by omega, by omega⟩ ⟨aa, bb, rfl, rfl⟩
set_option maxHeartbeats 4000000 in
set_option maxRecDepth 100000 in
theorem w_part_jIO (l : Launch) (E : jE) (A : Nat → Prop) {t sz sg la dk ot : Nat} {z g b : Nat → Int32} {cr ca cg ck : Int32} {on : Int64} {os : Value} {rest : va_W} {mcf msf : Nat} {a0 a1 a2 : Int32} (hM : jMet l yX3_part cX3_part 4 (some (.object "java/lang/String")) 10 mcf msf E A [.ref dk, .int a0, .int a1, .int a2] (dW E t sz sg la dk z g b cr ca cg ck ((ot, .inr (4, [.long on, os])) :: rest)) jNv (jT jIO (dW E t sz sg la dk z g b cr ca cg ck ((ot, .inr (4, [.long on, os])) :: rest)))) : jMetH l yL_part cL_part 6 (some .int) [(0, 12, 15, 19)] 11 mcf msf E A [.ref dk, .int a0, .int a1, .int a2, .ref ot] (oW E t sz sg la dk ot z g b cr ca cg ck on os rest) (jR (some (.int (nI 1))) (oW E t sz sg la dk ot z g b cr ca cg ck on os rest)) := by
  refine jMetH.intro [(0, .ref dk), (1, .int a0), (2, .int a1), (3, .int a2), (4, .ref ot)] (by decide) (by decide) (Nat.le_of_ble_eq_true rfl) rfl ?_
  intro p e R s m args below meth c Q C htab hQ
  refine j_aload C dL_part_0 rfl ?_
  refine j_aload_n C dL_part_2 rfl ?_
  refine j_iload_n C dL_part_3 rfl ?_
  refine j_iload_n C dL_part_4 rfl ?_
  refine j_iload_n C dL_part_5 rfl ?_
  refine j_callVx C 4 (hM) ok_X3_part w_776 (by omega) rfl rfl (Nat.le_of_ble_eq_true rfl) rfl rfl ⟨by omega, by omega⟩ dL_part_6 ?_
  refine j_catch C (En := jIO) (tgt := 15) htab [] ⟨0, 12, 15, 19⟩ [] rfl (fun _ h => absurd h List.not_mem_nil) rfl (by decide) w_265 jxc_jIO rfl (fun qx => ?_)
  refine j_astore (lv' := [(5, .ref qx), (0, .ref dk), (1, .int a0), (2, .int a1), (3, .int a2), (4, .ref ot)]) C dL_part_15 (by decide) rfl ?_
  refine j_iconst (v := (nI 1)) C dL_part_17 rfl ?_
  exact j_iret C hQ rfl dL_part_18 ⟨by omega, by omega⟩ ⟨rfl, rfl⟩
set_option maxHeartbeats 4000000 in
set_option maxRecDepth 100000 in
theorem w_put_r (l : Launch) (E : jE) (A : Nat → Prop) {t sz sg la dk ot : Nat} {z g b z2 g2 b2 : Nat → Int32} {cr ca cg ck cr2 ca2 cg2 ck2 : Int32} {on : Int64} {os : Value} {rest : va_W} {mcf msf : Nat} {a0 a1 a2 : Int32} {rr : Int32} (hM : jMet l yX3_put cX3_put 5 (some .int) 5 mcf msf E A [.ref dk, .int a0, .int a1, .int a2] (dW E t sz sg la dk z g b cr ca cg ck ((ot, .inr (4, [.long on, os])) :: rest)) (jR (some (.int rr)) (dW E t sz sg la dk z2 g2 b2 cr2 ca2 cg2 ck2 ((ot, .inr (4, [.long on, os])) :: rest))) jNo) : jMetH l yL_put cL_put 6 (some .int) [(0, 13, 16, 19), (0, 13, 20, 21), (0, 13, 24, 23)] 6 mcf msf E A [.ref dk, .int a0, .int a1, .int a2, .ref ot] (oW E t sz sg la dk ot z g b cr ca cg ck on os rest) (jR (some (.int (nI 0))) (oW E t sz sg la dk ot z2 g2 b2 cr2 ca2 cg2 ck2 rr.toInt64 os rest)) := by
  refine jMetH.intro [(0, .ref dk), (1, .int a0), (2, .int a1), (3, .int a2), (4, .ref ot)] (by decide) (by decide) (Nat.le_of_ble_eq_true rfl) rfl ?_
  intro p e R s m args below meth c Q C htab hQ
  refine j_aload C dL_put_0 rfl ?_
  refine j_aload_n C dL_put_2 rfl ?_
  refine j_iload_n C dL_put_3 rfl ?_
  refine j_iload_n C dL_put_4 rfl ?_
  refine j_iload_n C dL_put_5 rfl ?_
  refine j_callVr C 4 (v := .int rr) (w := (oW E t sz sg la dk ot z2 g2 b2 cr2 ca2 cg2 ck2 on os rest)) (hM) ok_X3_put w_436 (by omega) rfl rfl (Nat.le_of_ble_eq_true rfl) rfl rfl ⟨by omega, by omega⟩ dL_put_6 ?_
  refine j_i2l (v := rr.toInt64) C dL_put_9 rfl ?_
  refine j_putN (ws' := (oW E t sz sg la dk ot z2 g2 b2 cr2 ca2 cg2 ck2 rr.toInt64 os rest)) C 5 rfl inj_X4 tyX4 tyX4_ok nmX4 rfl 0 (by decide) (List.mem_of_getElem? (i := 1) rfl) rfl (tyX4_ok 0 (by decide)) rfl rfl (Nat.le_of_ble_eq_true rfl) dL_put_10 rfl ?_
  refine j_goto (tgt := 28) C dL_put_13 (by decide) ?_
  refine j_iconst (v := (nI 0)) C dL_put_28 rfl ?_
  exact j_iret C hQ rfl dL_put_29 ⟨by omega, by omega⟩ ⟨rfl, rfl⟩
set_option maxHeartbeats 4000000 in
set_option maxRecDepth 100000 in
theorem w_put_jIO (l : Launch) (E : jE) (A : Nat → Prop) {t sz sg la dk ot : Nat} {z g b : Nat → Int32} {cr ca cg ck : Int32} {on : Int64} {os : Value} {rest : va_W} {mcf msf : Nat} {a0 a1 a2 : Int32} (hM : jMet l yX3_put cX3_put 5 (some .int) 5 mcf msf E A [.ref dk, .int a0, .int a1, .int a2] (dW E t sz sg la dk z g b cr ca cg ck ((ot, .inr (4, [.long on, os])) :: rest)) jNv (jT jIO (dW E t sz sg la dk z g b cr ca cg ck ((ot, .inr (4, [.long on, os])) :: rest)))) : jMetH l yL_put cL_put 6 (some .int) [(0, 13, 16, 19), (0, 13, 20, 21), (0, 13, 24, 23)] 6 mcf msf E A [.ref dk, .int a0, .int a1, .int a2, .ref ot] (oW E t sz sg la dk ot z g b cr ca cg ck on os rest) (jR (some (.int (nI 1))) (oW E t sz sg la dk ot z g b cr ca cg ck on os rest)) := by
  refine jMetH.intro [(0, .ref dk), (1, .int a0), (2, .int a1), (3, .int a2), (4, .ref ot)] (by decide) (by decide) (Nat.le_of_ble_eq_true rfl) rfl ?_
  intro p e R s m args below meth c Q C htab hQ
  refine j_aload C dL_put_0 rfl ?_
  refine j_aload_n C dL_put_2 rfl ?_
  refine j_iload_n C dL_put_3 rfl ?_
  refine j_iload_n C dL_put_4 rfl ?_
  refine j_iload_n C dL_put_5 rfl ?_
  refine j_callVx C 4 (hM) ok_X3_put w_436 (by omega) rfl rfl (Nat.le_of_ble_eq_true rfl) rfl rfl ⟨by omega, by omega⟩ dL_put_6 ?_
  refine j_catch C (En := jIO) (tgt := 16) htab [] ⟨0, 13, 16, 19⟩ [⟨0, 13, 20, 21⟩, ⟨0, 13, 24, 23⟩] rfl (fun _ h => absurd h List.not_mem_nil) rfl (by decide) w_265 jxc_jIO rfl (fun qx => ?_)
  refine j_astore (lv' := [(5, .ref qx), (0, .ref dk), (1, .int a0), (2, .int a1), (3, .int a2), (4, .ref ot)]) C dL_put_16 (by decide) rfl ?_
  refine j_iconst (v := (nI 1)) C dL_put_18 rfl ?_
  exact j_iret C hQ rfl dL_put_19 ⟨by omega, by omega⟩ ⟨rfl, rfl⟩
set_option maxHeartbeats 4000000 in
set_option maxRecDepth 100000 in
theorem w_put_jIA (l : Launch) (E : jE) (A : Nat → Prop) {t sz sg la dk ot : Nat} {z g b : Nat → Int32} {cr ca cg ck : Int32} {on : Int64} {os : Value} {rest : va_W} {mcf msf : Nat} {a0 a1 a2 : Int32} (hM : jMet l yX3_put cX3_put 5 (some .int) 5 mcf msf E A [.ref dk, .int a0, .int a1, .int a2] (dW E t sz sg la dk z g b cr ca cg ck ((ot, .inr (4, [.long on, os])) :: rest)) jNv (jT jIA (dW E t sz sg la dk z g b cr ca cg ck ((ot, .inr (4, [.long on, os])) :: rest)))) : jMetH l yL_put cL_put 6 (some .int) [(0, 13, 16, 19), (0, 13, 20, 21), (0, 13, 24, 23)] 6 mcf msf E A [.ref dk, .int a0, .int a1, .int a2, .ref ot] (oW E t sz sg la dk ot z g b cr ca cg ck on os rest) (jR (some (.int (nI 2))) (oW E t sz sg la dk ot z g b cr ca cg ck on os rest)) := by
  refine jMetH.intro [(0, .ref dk), (1, .int a0), (2, .int a1), (3, .int a2), (4, .ref ot)] (by decide) (by decide) (Nat.le_of_ble_eq_true rfl) rfl ?_
  intro p e R s m args below meth c Q C htab hQ
  refine j_aload C dL_put_0 rfl ?_
  refine j_aload_n C dL_put_2 rfl ?_
  refine j_iload_n C dL_put_3 rfl ?_
  refine j_iload_n C dL_put_4 rfl ?_
  refine j_iload_n C dL_put_5 rfl ?_
  refine j_callVx C 4 (hM) ok_X3_put w_436 (by omega) rfl rfl (Nat.le_of_ble_eq_true rfl) rfl rfl ⟨by omega, by omega⟩ dL_put_6 ?_
  refine j_catch C (En := jIA) (tgt := 20) htab [⟨0, 13, 16, 19⟩] ⟨0, 13, 20, 21⟩ [⟨0, 13, 24, 23⟩] rfl (List.forall_mem_cons.mpr ⟨⟨by decide, _, w_265, List.mem_of_getElem? (i := 2) rfl⟩, fun _ h => absurd h List.not_mem_nil⟩) rfl (by decide) w_266 jxc_jIA rfl (fun qx => ?_)
  refine j_astore (lv' := [(5, .ref qx), (0, .ref dk), (1, .int a0), (2, .int a1), (3, .int a2), (4, .ref ot)]) C dL_put_20 (by decide) rfl ?_
  refine j_iconst (v := (nI 2)) C dL_put_22 rfl ?_
  exact j_iret C hQ rfl dL_put_23 ⟨by omega, by omega⟩ ⟨rfl, rfl⟩
set_option maxHeartbeats 4000000 in
set_option maxRecDepth 100000 in
theorem w_put_jIS (l : Launch) (E : jE) (A : Nat → Prop) {t sz sg la dk ot : Nat} {z g b : Nat → Int32} {cr ca cg ck : Int32} {on : Int64} {os : Value} {rest : va_W} {mcf msf : Nat} {a0 a1 a2 : Int32} (hM : jMet l yX3_put cX3_put 5 (some .int) 5 mcf msf E A [.ref dk, .int a0, .int a1, .int a2] (dW E t sz sg la dk z g b cr ca cg ck ((ot, .inr (4, [.long on, os])) :: rest)) jNv (jT jIS (dW E t sz sg la dk z g b cr ca cg ck ((ot, .inr (4, [.long on, os])) :: rest)))) : jMetH l yL_put cL_put 6 (some .int) [(0, 13, 16, 19), (0, 13, 20, 21), (0, 13, 24, 23)] 6 mcf msf E A [.ref dk, .int a0, .int a1, .int a2, .ref ot] (oW E t sz sg la dk ot z g b cr ca cg ck on os rest) (jR (some (.int (nI 3))) (oW E t sz sg la dk ot z g b cr ca cg ck on os rest)) := by
  refine jMetH.intro [(0, .ref dk), (1, .int a0), (2, .int a1), (3, .int a2), (4, .ref ot)] (by decide) (by decide) (Nat.le_of_ble_eq_true rfl) rfl ?_
  intro p e R s m args below meth c Q C htab hQ
  refine j_aload C dL_put_0 rfl ?_
  refine j_aload_n C dL_put_2 rfl ?_
  refine j_iload_n C dL_put_3 rfl ?_
  refine j_iload_n C dL_put_4 rfl ?_
  refine j_iload_n C dL_put_5 rfl ?_
  refine j_callVx C 4 (hM) ok_X3_put w_436 (by omega) rfl rfl (Nat.le_of_ble_eq_true rfl) rfl rfl ⟨by omega, by omega⟩ dL_put_6 ?_
  refine j_catch C (En := jIS) (tgt := 24) htab [⟨0, 13, 16, 19⟩, ⟨0, 13, 20, 21⟩] ⟨0, 13, 24, 23⟩ [] rfl (List.forall_mem_cons.mpr ⟨⟨by decide, _, w_265, List.mem_of_getElem? (i := 4) rfl⟩, List.forall_mem_cons.mpr ⟨⟨by decide, _, w_266, List.mem_of_getElem? (i := 5) rfl⟩, fun _ h => absurd h List.not_mem_nil⟩⟩) rfl (by decide) w_267 jxc_jIS rfl (fun qx => ?_)
  refine j_astore (lv' := [(5, .ref qx), (0, .ref dk), (1, .int a0), (2, .int a1), (3, .int a2), (4, .ref ot)]) C dL_put_24 (by decide) rfl ?_
  refine j_iconst (v := (nI 3)) C dL_put_26 rfl ?_
  exact j_iret C hQ rfl dL_put_27 ⟨by omega, by omega⟩ ⟨rfl, rfl⟩
set_option maxHeartbeats 4000000 in
set_option maxRecDepth 100000 in
theorem w_signAt_r (l : Launch) (E : jE) (A : Nat → Prop) {t sz sg la dk ot : Nat} {z g b z2 g2 b2 : Nat → Int32} {cr ca cg ck cr2 ca2 cg2 ck2 : Int32} {on : Int64} {os : Value} {rest : va_W} {mcf msf : Nat} {a0 a1 : Int32} {rr : Int32} (hM : jMet l yX3_signAt cX3_signAt 3 (some .int) 5 mcf msf E A [.ref dk, .int a0, .int a1] (dW E t sz sg la dk z g b cr ca cg ck ((ot, .inr (4, [.long on, os])) :: rest)) (jR (some (.int rr)) (dW E t sz sg la dk z2 g2 b2 cr2 ca2 cg2 ck2 ((ot, .inr (4, [.long on, os])) :: rest))) jNo) : jMetH l yL_signAt cL_signAt 5 (some .int) [(0, 11, 14, 19)] 6 mcf msf E A [.ref dk, .int a0, .int a1, .ref ot] (oW E t sz sg la dk ot z g b cr ca cg ck on os rest) (jR (some (.int (nI 0))) (oW E t sz sg la dk ot z2 g2 b2 cr2 ca2 cg2 ck2 rr.toInt64 os rest)) := by
  refine jMetH.intro [(0, .ref dk), (1, .int a0), (2, .int a1), (3, .ref ot)] (by decide) (by decide) (Nat.le_of_ble_eq_true rfl) rfl ?_
  intro p e R s m args below meth c Q C htab hQ
  refine j_aload_n C dL_signAt_0 rfl ?_
  refine j_aload_n C dL_signAt_1 rfl ?_
  refine j_iload_n C dL_signAt_2 rfl ?_
  refine j_iload_n C dL_signAt_3 rfl ?_
  refine j_callVr C 4 (v := .int rr) (w := (oW E t sz sg la dk ot z2 g2 b2 cr2 ca2 cg2 ck2 on os rest)) (hM) ok_X3_signAt w_769 (by omega) rfl rfl (Nat.le_of_ble_eq_true rfl) rfl rfl ⟨by omega, by omega⟩ dL_signAt_4 ?_
  refine j_i2l (v := rr.toInt64) C dL_signAt_7 rfl ?_
  refine j_putN (ws' := (oW E t sz sg la dk ot z2 g2 b2 cr2 ca2 cg2 ck2 rr.toInt64 os rest)) C 5 rfl inj_X4 tyX4 tyX4_ok nmX4 rfl 0 (by decide) (List.mem_of_getElem? (i := 1) rfl) rfl (tyX4_ok 0 (by decide)) rfl rfl (Nat.le_of_ble_eq_true rfl) dL_signAt_8 rfl ?_
  refine j_goto (tgt := 18) C dL_signAt_11 (by decide) ?_
  refine j_iconst (v := (nI 0)) C dL_signAt_18 rfl ?_
  exact j_iret C hQ rfl dL_signAt_19 ⟨by omega, by omega⟩ ⟨rfl, rfl⟩
set_option maxHeartbeats 4000000 in
set_option maxRecDepth 100000 in
theorem w_signAt_jIO (l : Launch) (E : jE) (A : Nat → Prop) {t sz sg la dk ot : Nat} {z g b : Nat → Int32} {cr ca cg ck : Int32} {on : Int64} {os : Value} {rest : va_W} {mcf msf : Nat} {a0 a1 : Int32} (hM : jMet l yX3_signAt cX3_signAt 3 (some .int) 5 mcf msf E A [.ref dk, .int a0, .int a1] (dW E t sz sg la dk z g b cr ca cg ck ((ot, .inr (4, [.long on, os])) :: rest)) jNv (jT jIO (dW E t sz sg la dk z g b cr ca cg ck ((ot, .inr (4, [.long on, os])) :: rest)))) : jMetH l yL_signAt cL_signAt 5 (some .int) [(0, 11, 14, 19)] 6 mcf msf E A [.ref dk, .int a0, .int a1, .ref ot] (oW E t sz sg la dk ot z g b cr ca cg ck on os rest) (jR (some (.int (nI 1))) (oW E t sz sg la dk ot z g b cr ca cg ck on os rest)) := by
  refine jMetH.intro [(0, .ref dk), (1, .int a0), (2, .int a1), (3, .ref ot)] (by decide) (by decide) (Nat.le_of_ble_eq_true rfl) rfl ?_
  intro p e R s m args below meth c Q C htab hQ
  refine j_aload_n C dL_signAt_0 rfl ?_
  refine j_aload_n C dL_signAt_1 rfl ?_
  refine j_iload_n C dL_signAt_2 rfl ?_
  refine j_iload_n C dL_signAt_3 rfl ?_
  refine j_callVx C 4 (hM) ok_X3_signAt w_769 (by omega) rfl rfl (Nat.le_of_ble_eq_true rfl) rfl rfl ⟨by omega, by omega⟩ dL_signAt_4 ?_
  refine j_catch C (En := jIO) (tgt := 14) htab [] ⟨0, 11, 14, 19⟩ [] rfl (fun _ h => absurd h List.not_mem_nil) rfl (by decide) w_265 jxc_jIO rfl (fun qx => ?_)
  refine j_astore (lv' := [(4, .ref qx), (0, .ref dk), (1, .int a0), (2, .int a1), (3, .ref ot)]) C dL_signAt_14 (by decide) rfl ?_
  refine j_iconst (v := (nI 1)) C dL_signAt_16 rfl ?_
  exact j_iret C hQ rfl dL_signAt_17 ⟨by omega, by omega⟩ ⟨rfl, rfl⟩
set_option maxHeartbeats 4000000 in
set_option maxRecDepth 100000 in
theorem w_take_r (l : Launch) (E : jE) (A : Nat → Prop) {t sz sg la dk ot : Nat} {z g b z2 g2 b2 : Nat → Int32} {cr ca cg ck cr2 ca2 cg2 ck2 : Int32} {on : Int64} {os : Value} {rest : va_W} {mcf msf : Nat} {a0 a1 a2 : Int32} {rr : Int32} (hM : jMet l yX3_take cX3_take 4 (some .int) 5 mcf msf E A [.ref dk, .int a0, .int a1, .int a2] (dW E t sz sg la dk z g b cr ca cg ck ((ot, .inr (4, [.long on, os])) :: rest)) (jR (some (.int rr)) (dW E t sz sg la dk z2 g2 b2 cr2 ca2 cg2 ck2 ((ot, .inr (4, [.long on, os])) :: rest))) jNo) : jMetH l yL_take cL_take 6 (some .int) [(0, 13, 16, 19), (0, 13, 20, 23)] 6 mcf msf E A [.ref dk, .int a0, .int a1, .int a2, .ref ot] (oW E t sz sg la dk ot z g b cr ca cg ck on os rest) (jR (some (.int (nI 0))) (oW E t sz sg la dk ot z2 g2 b2 cr2 ca2 cg2 ck2 rr.toInt64 os rest)) := by
  refine jMetH.intro [(0, .ref dk), (1, .int a0), (2, .int a1), (3, .int a2), (4, .ref ot)] (by decide) (by decide) (Nat.le_of_ble_eq_true rfl) rfl ?_
  intro p e R s m args below meth c Q C htab hQ
  refine j_aload C dL_take_0 rfl ?_
  refine j_aload_n C dL_take_2 rfl ?_
  refine j_iload_n C dL_take_3 rfl ?_
  refine j_iload_n C dL_take_4 rfl ?_
  refine j_iload_n C dL_take_5 rfl ?_
  refine j_callVr C 4 (v := .int rr) (w := (oW E t sz sg la dk ot z2 g2 b2 cr2 ca2 cg2 ck2 on os rest)) (hM) ok_X3_take w_429 (by omega) rfl rfl (Nat.le_of_ble_eq_true rfl) rfl rfl ⟨by omega, by omega⟩ dL_take_6 ?_
  refine j_i2l (v := rr.toInt64) C dL_take_9 rfl ?_
  refine j_putN (ws' := (oW E t sz sg la dk ot z2 g2 b2 cr2 ca2 cg2 ck2 rr.toInt64 os rest)) C 5 rfl inj_X4 tyX4 tyX4_ok nmX4 rfl 0 (by decide) (List.mem_of_getElem? (i := 1) rfl) rfl (tyX4_ok 0 (by decide)) rfl rfl (Nat.le_of_ble_eq_true rfl) dL_take_10 rfl ?_
  refine j_goto (tgt := 24) C dL_take_13 (by decide) ?_
  refine j_iconst (v := (nI 0)) C dL_take_24 rfl ?_
  exact j_iret C hQ rfl dL_take_25 ⟨by omega, by omega⟩ ⟨rfl, rfl⟩
set_option maxHeartbeats 4000000 in
set_option maxRecDepth 100000 in
theorem w_take_jIO (l : Launch) (E : jE) (A : Nat → Prop) {t sz sg la dk ot : Nat} {z g b : Nat → Int32} {cr ca cg ck : Int32} {on : Int64} {os : Value} {rest : va_W} {mcf msf : Nat} {a0 a1 a2 : Int32} (hM : jMet l yX3_take cX3_take 4 (some .int) 5 mcf msf E A [.ref dk, .int a0, .int a1, .int a2] (dW E t sz sg la dk z g b cr ca cg ck ((ot, .inr (4, [.long on, os])) :: rest)) jNv (jT jIO (dW E t sz sg la dk z g b cr ca cg ck ((ot, .inr (4, [.long on, os])) :: rest)))) : jMetH l yL_take cL_take 6 (some .int) [(0, 13, 16, 19), (0, 13, 20, 23)] 6 mcf msf E A [.ref dk, .int a0, .int a1, .int a2, .ref ot] (oW E t sz sg la dk ot z g b cr ca cg ck on os rest) (jR (some (.int (nI 1))) (oW E t sz sg la dk ot z g b cr ca cg ck on os rest)) := by
  refine jMetH.intro [(0, .ref dk), (1, .int a0), (2, .int a1), (3, .int a2), (4, .ref ot)] (by decide) (by decide) (Nat.le_of_ble_eq_true rfl) rfl ?_
  intro p e R s m args below meth c Q C htab hQ
  refine j_aload C dL_take_0 rfl ?_
  refine j_aload_n C dL_take_2 rfl ?_
  refine j_iload_n C dL_take_3 rfl ?_
  refine j_iload_n C dL_take_4 rfl ?_
  refine j_iload_n C dL_take_5 rfl ?_
  refine j_callVx C 4 (hM) ok_X3_take w_429 (by omega) rfl rfl (Nat.le_of_ble_eq_true rfl) rfl rfl ⟨by omega, by omega⟩ dL_take_6 ?_
  refine j_catch C (En := jIO) (tgt := 16) htab [] ⟨0, 13, 16, 19⟩ [⟨0, 13, 20, 23⟩] rfl (fun _ h => absurd h List.not_mem_nil) rfl (by decide) w_265 jxc_jIO rfl (fun qx => ?_)
  refine j_astore (lv' := [(5, .ref qx), (0, .ref dk), (1, .int a0), (2, .int a1), (3, .int a2), (4, .ref ot)]) C dL_take_16 (by decide) rfl ?_
  refine j_iconst (v := (nI 1)) C dL_take_18 rfl ?_
  exact j_iret C hQ rfl dL_take_19 ⟨by omega, by omega⟩ ⟨rfl, rfl⟩
set_option maxHeartbeats 4000000 in
set_option maxRecDepth 100000 in
theorem w_take_jIS (l : Launch) (E : jE) (A : Nat → Prop) {t sz sg la dk ot : Nat} {z g b : Nat → Int32} {cr ca cg ck : Int32} {on : Int64} {os : Value} {rest : va_W} {mcf msf : Nat} {a0 a1 a2 : Int32} (hM : jMet l yX3_take cX3_take 4 (some .int) 5 mcf msf E A [.ref dk, .int a0, .int a1, .int a2] (dW E t sz sg la dk z g b cr ca cg ck ((ot, .inr (4, [.long on, os])) :: rest)) jNv (jT jIS (dW E t sz sg la dk z g b cr ca cg ck ((ot, .inr (4, [.long on, os])) :: rest)))) : jMetH l yL_take cL_take 6 (some .int) [(0, 13, 16, 19), (0, 13, 20, 23)] 6 mcf msf E A [.ref dk, .int a0, .int a1, .int a2, .ref ot] (oW E t sz sg la dk ot z g b cr ca cg ck on os rest) (jR (some (.int (nI 2))) (oW E t sz sg la dk ot z g b cr ca cg ck on os rest)) := by
  refine jMetH.intro [(0, .ref dk), (1, .int a0), (2, .int a1), (3, .int a2), (4, .ref ot)] (by decide) (by decide) (Nat.le_of_ble_eq_true rfl) rfl ?_
  intro p e R s m args below meth c Q C htab hQ
  refine j_aload C dL_take_0 rfl ?_
  refine j_aload_n C dL_take_2 rfl ?_
  refine j_iload_n C dL_take_3 rfl ?_
  refine j_iload_n C dL_take_4 rfl ?_
  refine j_iload_n C dL_take_5 rfl ?_
  refine j_callVx C 4 (hM) ok_X3_take w_429 (by omega) rfl rfl (Nat.le_of_ble_eq_true rfl) rfl rfl ⟨by omega, by omega⟩ dL_take_6 ?_
  refine j_catch C (En := jIS) (tgt := 20) htab [⟨0, 13, 16, 19⟩] ⟨0, 13, 20, 23⟩ [] rfl (List.forall_mem_cons.mpr ⟨⟨by decide, _, w_265, List.mem_of_getElem? (i := 4) rfl⟩, fun _ h => absurd h List.not_mem_nil⟩) rfl (by decide) w_267 jxc_jIS rfl (fun qx => ?_)
  refine j_astore (lv' := [(5, .ref qx), (0, .ref dk), (1, .int a0), (2, .int a1), (3, .int a2), (4, .ref ot)]) C dL_take_20 (by decide) rfl ?_
  refine j_iconst (v := (nI 2)) C dL_take_22 rfl ?_
  exact j_iret C hQ rfl dL_take_23 ⟨by omega, by omega⟩ ⟨rfl, rfl⟩
set_option maxHeartbeats 4000000 in
set_option maxRecDepth 100000 in
theorem w_text_r (l : Launch) (E : jE) (A : Nat → Prop) {t sz sg la dk ot : Nat} {z g b z2 g2 : Nat → Int32} {cr ca cg ck cr2 ca2 cg2 ck2 : Int32} {on : Int64} {os : Value} {rest : va_W} {mcf msf : Nat} {a0 : Int32} (hM : jMet l yX3_text cX3_text 2 (some (.object "java/lang/String")) 10 mcf msf E A [.ref dk, .int a0] (dW E t sz sg la dk z g b cr ca cg ck ((ot, .inr (4, [.long on, os])) :: rest)) (fun v w => ∃ (aa : Nat) (bb : Nat → Int32), v = some (.ref aa) ∧ w = dW E t sz sg la dk z2 g2 bb cr2 ca2 cg2 ck2 ((ot, .inr (4, [.long on, os])) :: rest)) jNo) : jMetH l yL_text cL_text 4 (some .int) [(0, 9, 12, 19)] 11 mcf msf E A [.ref dk, .int a0, .ref ot] (oW E t sz sg la dk ot z g b cr ca cg ck on os rest) (fun v w => ∃ (aa : Nat) (bb : Nat → Int32), v = some (.int (nI 0)) ∧ w = oW E t sz sg la dk ot z2 g2 bb cr2 ca2 cg2 ck2 on (.ref aa) rest) := by
  refine jMetH.intro [(0, .ref dk), (1, .int a0), (2, .ref ot)] (by decide) (by decide) (Nat.le_of_ble_eq_true rfl) rfl ?_
  intro p e R s m args below meth c Q C htab hQ
  refine j_aload_n C dL_text_0 rfl ?_
  refine j_aload_n C dL_text_1 rfl ?_
  refine j_iload_n C dL_text_2 rfl ?_
  refine j_callV C (q0 := 4) (hM) ok_X3_text w_486 (by omega) rfl rfl (Nat.le_of_ble_eq_true rfl) rfl rfl ⟨by omega, by omega⟩ dL_text_3 (fun _ _ h => h.elim) (fun _ _ h => ?_)
  obtain ⟨aa, bb, rfl, rfl⟩ := h
  refine j_putN (ws' := (oW E t sz sg la dk ot z2 g2 bb cr2 ca2 cg2 ck2 on (.ref aa) rest)) C 5 rfl inj_X4 tyX4 tyX4_ok nmX4 rfl 1 (by decide) (List.mem_of_getElem? (i := 2) rfl) rfl (tyX4_ok 1 (by decide)) rfl rfl (Nat.le_of_ble_eq_true rfl) dL_text_6 rfl ?_
  refine j_goto (tgt := 15) C dL_text_9 (by decide) ?_
  refine j_iconst (v := (nI 0)) C dL_text_15 rfl ?_
  exact j_iret C hQ rfl dL_text_16 ⟨by omega, by omega⟩ ⟨aa, bb, rfl, rfl⟩
set_option maxHeartbeats 4000000 in
set_option maxRecDepth 100000 in
theorem w_text_jIO (l : Launch) (E : jE) (A : Nat → Prop) {t sz sg la dk ot : Nat} {z g b : Nat → Int32} {cr ca cg ck : Int32} {on : Int64} {os : Value} {rest : va_W} {mcf msf : Nat} {a0 : Int32} (hM : jMet l yX3_text cX3_text 2 (some (.object "java/lang/String")) 10 mcf msf E A [.ref dk, .int a0] (dW E t sz sg la dk z g b cr ca cg ck ((ot, .inr (4, [.long on, os])) :: rest)) jNv (jT jIO (dW E t sz sg la dk z g b cr ca cg ck ((ot, .inr (4, [.long on, os])) :: rest)))) : jMetH l yL_text cL_text 4 (some .int) [(0, 9, 12, 19)] 11 mcf msf E A [.ref dk, .int a0, .ref ot] (oW E t sz sg la dk ot z g b cr ca cg ck on os rest) (jR (some (.int (nI 1))) (oW E t sz sg la dk ot z g b cr ca cg ck on os rest)) := by
  refine jMetH.intro [(0, .ref dk), (1, .int a0), (2, .ref ot)] (by decide) (by decide) (Nat.le_of_ble_eq_true rfl) rfl ?_
  intro p e R s m args below meth c Q C htab hQ
  refine j_aload_n C dL_text_0 rfl ?_
  refine j_aload_n C dL_text_1 rfl ?_
  refine j_iload_n C dL_text_2 rfl ?_
  refine j_callVx C 4 (hM) ok_X3_text w_486 (by omega) rfl rfl (Nat.le_of_ble_eq_true rfl) rfl rfl ⟨by omega, by omega⟩ dL_text_3 ?_
  refine j_catch C (En := jIO) (tgt := 12) htab [] ⟨0, 9, 12, 19⟩ [] rfl (fun _ h => absurd h List.not_mem_nil) rfl (by decide) w_265 jxc_jIO rfl (fun qx => ?_)
  refine j_astore_n (lv' := [(3, .ref qx), (0, .ref dk), (1, .int a0), (2, .ref ot)]) C dL_text_12 (by decide) rfl ?_
  refine j_iconst (v := (nI 1)) C dL_text_13 rfl ?_
  exact j_iret C hQ rfl dL_text_14 ⟨by omega, by omega⟩ ⟨rfl, rfl⟩
set_option maxHeartbeats 4000000 in
set_option maxRecDepth 100000 in
theorem w_write_r (l : Launch) (E : jE) (A : Nat → Prop) {t sz sg la dk ot : Nat} {z g b z2 g2 b2 : Nat → Int32} {cr ca cg ck cr2 ca2 cg2 ck2 : Int32} {on : Int64} {os : Value} {rest : va_W} {mcf msf : Nat} {a0 a1 a2 a3 : Int32} {rr : Int32} (hM : jMet l yX3_write cX3_write 6 (some .int) 5 mcf msf E A [.ref dk, .int a0, .int a1, .int a2, .int a3] (dW E t sz sg la dk z g b cr ca cg ck ((ot, .inr (4, [.long on, os])) :: rest)) (jR (some (.int rr)) (dW E t sz sg la dk z2 g2 b2 cr2 ca2 cg2 ck2 ((ot, .inr (4, [.long on, os])) :: rest))) jNo) : jMetH l yL_write cL_write 7 (some .int) [(0, 15, 18, 19), (0, 15, 22, 21), (0, 15, 26, 23)] 6 mcf msf E A [.ref dk, .int a0, .int a1, .int a2, .int a3, .ref ot] (oW E t sz sg la dk ot z g b cr ca cg ck on os rest) (jR (some (.int (nI 0))) (oW E t sz sg la dk ot z2 g2 b2 cr2 ca2 cg2 ck2 rr.toInt64 os rest)) := by
  refine jMetH.intro [(0, .ref dk), (1, .int a0), (2, .int a1), (3, .int a2), (4, .int a3), (5, .ref ot)] (by decide) (by decide) (Nat.le_of_ble_eq_true rfl) rfl ?_
  intro p e R s m args below meth c Q C htab hQ
  refine j_aload C dL_write_0 rfl ?_
  refine j_aload_n C dL_write_2 rfl ?_
  refine j_iload_n C dL_write_3 rfl ?_
  refine j_iload_n C dL_write_4 rfl ?_
  refine j_iload_n C dL_write_5 rfl ?_
  refine j_iload C dL_write_6 rfl ?_
  refine j_callVr C 4 (v := .int rr) (w := (oW E t sz sg la dk ot z2 g2 b2 cr2 ca2 cg2 ck2 on os rest)) (hM) ok_X3_write w_268 (by omega) rfl rfl (Nat.le_of_ble_eq_true rfl) rfl rfl ⟨by omega, by omega⟩ dL_write_8 ?_
  refine j_i2l (v := rr.toInt64) C dL_write_11 rfl ?_
  refine j_putN (ws' := (oW E t sz sg la dk ot z2 g2 b2 cr2 ca2 cg2 ck2 rr.toInt64 os rest)) C 5 rfl inj_X4 tyX4 tyX4_ok nmX4 rfl 0 (by decide) (List.mem_of_getElem? (i := 1) rfl) rfl (tyX4_ok 0 (by decide)) rfl rfl (Nat.le_of_ble_eq_true rfl) dL_write_12 rfl ?_
  refine j_goto (tgt := 30) C dL_write_15 (by decide) ?_
  refine j_iconst (v := (nI 0)) C dL_write_30 rfl ?_
  exact j_iret C hQ rfl dL_write_31 ⟨by omega, by omega⟩ ⟨rfl, rfl⟩
set_option maxHeartbeats 4000000 in
set_option maxRecDepth 100000 in
theorem w_write_jIO (l : Launch) (E : jE) (A : Nat → Prop) {t sz sg la dk ot : Nat} {z g b : Nat → Int32} {cr ca cg ck : Int32} {on : Int64} {os : Value} {rest : va_W} {mcf msf : Nat} {a0 a1 a2 a3 : Int32} (hM : jMet l yX3_write cX3_write 6 (some .int) 5 mcf msf E A [.ref dk, .int a0, .int a1, .int a2, .int a3] (dW E t sz sg la dk z g b cr ca cg ck ((ot, .inr (4, [.long on, os])) :: rest)) jNv (jT jIO (dW E t sz sg la dk z g b cr ca cg ck ((ot, .inr (4, [.long on, os])) :: rest)))) : jMetH l yL_write cL_write 7 (some .int) [(0, 15, 18, 19), (0, 15, 22, 21), (0, 15, 26, 23)] 6 mcf msf E A [.ref dk, .int a0, .int a1, .int a2, .int a3, .ref ot] (oW E t sz sg la dk ot z g b cr ca cg ck on os rest) (jR (some (.int (nI 1))) (oW E t sz sg la dk ot z g b cr ca cg ck on os rest)) := by
  refine jMetH.intro [(0, .ref dk), (1, .int a0), (2, .int a1), (3, .int a2), (4, .int a3), (5, .ref ot)] (by decide) (by decide) (Nat.le_of_ble_eq_true rfl) rfl ?_
  intro p e R s m args below meth c Q C htab hQ
  refine j_aload C dL_write_0 rfl ?_
  refine j_aload_n C dL_write_2 rfl ?_
  refine j_iload_n C dL_write_3 rfl ?_
  refine j_iload_n C dL_write_4 rfl ?_
  refine j_iload_n C dL_write_5 rfl ?_
  refine j_iload C dL_write_6 rfl ?_
  refine j_callVx C 4 (hM) ok_X3_write w_268 (by omega) rfl rfl (Nat.le_of_ble_eq_true rfl) rfl rfl ⟨by omega, by omega⟩ dL_write_8 ?_
  refine j_catch C (En := jIO) (tgt := 18) htab [] ⟨0, 15, 18, 19⟩ [⟨0, 15, 22, 21⟩, ⟨0, 15, 26, 23⟩] rfl (fun _ h => absurd h List.not_mem_nil) rfl (by decide) w_265 jxc_jIO rfl (fun qx => ?_)
  refine j_astore (lv' := [(6, .ref qx), (0, .ref dk), (1, .int a0), (2, .int a1), (3, .int a2), (4, .int a3), (5, .ref ot)]) C dL_write_18 (by decide) rfl ?_
  refine j_iconst (v := (nI 1)) C dL_write_20 rfl ?_
  exact j_iret C hQ rfl dL_write_21 ⟨by omega, by omega⟩ ⟨rfl, rfl⟩
set_option maxHeartbeats 4000000 in
set_option maxRecDepth 100000 in
theorem w_write_jIA (l : Launch) (E : jE) (A : Nat → Prop) {t sz sg la dk ot : Nat} {z g b : Nat → Int32} {cr ca cg ck : Int32} {on : Int64} {os : Value} {rest : va_W} {mcf msf : Nat} {a0 a1 a2 a3 : Int32} (hM : jMet l yX3_write cX3_write 6 (some .int) 5 mcf msf E A [.ref dk, .int a0, .int a1, .int a2, .int a3] (dW E t sz sg la dk z g b cr ca cg ck ((ot, .inr (4, [.long on, os])) :: rest)) jNv (jT jIA (dW E t sz sg la dk z g b cr ca cg ck ((ot, .inr (4, [.long on, os])) :: rest)))) : jMetH l yL_write cL_write 7 (some .int) [(0, 15, 18, 19), (0, 15, 22, 21), (0, 15, 26, 23)] 6 mcf msf E A [.ref dk, .int a0, .int a1, .int a2, .int a3, .ref ot] (oW E t sz sg la dk ot z g b cr ca cg ck on os rest) (jR (some (.int (nI 2))) (oW E t sz sg la dk ot z g b cr ca cg ck on os rest)) := by
  refine jMetH.intro [(0, .ref dk), (1, .int a0), (2, .int a1), (3, .int a2), (4, .int a3), (5, .ref ot)] (by decide) (by decide) (Nat.le_of_ble_eq_true rfl) rfl ?_
  intro p e R s m args below meth c Q C htab hQ
  refine j_aload C dL_write_0 rfl ?_
  refine j_aload_n C dL_write_2 rfl ?_
  refine j_iload_n C dL_write_3 rfl ?_
  refine j_iload_n C dL_write_4 rfl ?_
  refine j_iload_n C dL_write_5 rfl ?_
  refine j_iload C dL_write_6 rfl ?_
  refine j_callVx C 4 (hM) ok_X3_write w_268 (by omega) rfl rfl (Nat.le_of_ble_eq_true rfl) rfl rfl ⟨by omega, by omega⟩ dL_write_8 ?_
  refine j_catch C (En := jIA) (tgt := 22) htab [⟨0, 15, 18, 19⟩] ⟨0, 15, 22, 21⟩ [⟨0, 15, 26, 23⟩] rfl (List.forall_mem_cons.mpr ⟨⟨by decide, _, w_265, List.mem_of_getElem? (i := 2) rfl⟩, fun _ h => absurd h List.not_mem_nil⟩) rfl (by decide) w_266 jxc_jIA rfl (fun qx => ?_)
  refine j_astore (lv' := [(6, .ref qx), (0, .ref dk), (1, .int a0), (2, .int a1), (3, .int a2), (4, .int a3), (5, .ref ot)]) C dL_write_22 (by decide) rfl ?_
  refine j_iconst (v := (nI 2)) C dL_write_24 rfl ?_
  exact j_iret C hQ rfl dL_write_25 ⟨by omega, by omega⟩ ⟨rfl, rfl⟩
set_option maxHeartbeats 4000000 in
set_option maxRecDepth 100000 in
theorem w_write_jIS (l : Launch) (E : jE) (A : Nat → Prop) {t sz sg la dk ot : Nat} {z g b : Nat → Int32} {cr ca cg ck : Int32} {on : Int64} {os : Value} {rest : va_W} {mcf msf : Nat} {a0 a1 a2 a3 : Int32} (hM : jMet l yX3_write cX3_write 6 (some .int) 5 mcf msf E A [.ref dk, .int a0, .int a1, .int a2, .int a3] (dW E t sz sg la dk z g b cr ca cg ck ((ot, .inr (4, [.long on, os])) :: rest)) jNv (jT jIS (dW E t sz sg la dk z g b cr ca cg ck ((ot, .inr (4, [.long on, os])) :: rest)))) : jMetH l yL_write cL_write 7 (some .int) [(0, 15, 18, 19), (0, 15, 22, 21), (0, 15, 26, 23)] 6 mcf msf E A [.ref dk, .int a0, .int a1, .int a2, .int a3, .ref ot] (oW E t sz sg la dk ot z g b cr ca cg ck on os rest) (jR (some (.int (nI 3))) (oW E t sz sg la dk ot z g b cr ca cg ck on os rest)) := by
  refine jMetH.intro [(0, .ref dk), (1, .int a0), (2, .int a1), (3, .int a2), (4, .int a3), (5, .ref ot)] (by decide) (by decide) (Nat.le_of_ble_eq_true rfl) rfl ?_
  intro p e R s m args below meth c Q C htab hQ
  refine j_aload C dL_write_0 rfl ?_
  refine j_aload_n C dL_write_2 rfl ?_
  refine j_iload_n C dL_write_3 rfl ?_
  refine j_iload_n C dL_write_4 rfl ?_
  refine j_iload_n C dL_write_5 rfl ?_
  refine j_iload C dL_write_6 rfl ?_
  refine j_callVx C 4 (hM) ok_X3_write w_268 (by omega) rfl rfl (Nat.le_of_ble_eq_true rfl) rfl rfl ⟨by omega, by omega⟩ dL_write_8 ?_
  refine j_catch C (En := jIS) (tgt := 26) htab [⟨0, 15, 18, 19⟩, ⟨0, 15, 22, 21⟩] ⟨0, 15, 26, 23⟩ [] rfl (List.forall_mem_cons.mpr ⟨⟨by decide, _, w_265, List.mem_of_getElem? (i := 4) rfl⟩, List.forall_mem_cons.mpr ⟨⟨by decide, _, w_266, List.mem_of_getElem? (i := 5) rfl⟩, fun _ h => absurd h List.not_mem_nil⟩⟩) rfl (by decide) w_267 jxc_jIS rfl (fun qx => ?_)
  refine j_astore (lv' := [(6, .ref qx), (0, .ref dk), (1, .int a0), (2, .int a1), (3, .int a2), (4, .int a3), (5, .ref ot)]) C dL_write_26 (by decide) rfl ?_
  refine j_iconst (v := (nI 3)) C dL_write_28 rfl ?_
  exact j_iret C hQ rfl dL_write_29 ⟨by omega, by omega⟩ ⟨rfl, rfl⟩
