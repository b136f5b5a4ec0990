/-! contracts, laid by program (wip/gen) -/
set_option maxHeartbeats 4000000 in
set_option maxRecDepth 100000 in
theorem c_ord_mm (l : Launch) (E : jE) (A : Nat → Prop) {t sz sg la : Nat} {z g b : Nat → Int32} {rest : va_W} {i j : Nat} (hi : i < 9) (hj : j < 9) {w : Nat} (hzi : z i = -1) (hzj : z j = -1) : jMet l yX2_ordered cX2_ordered 4 (some .int) 3 0 0 E A [.ref t, .int (nI i), .int (nI j), .int (nI w)] (tW E t sz sg la z g b rest) (jR (some (.int (smI (nI 0) (nI 0)))) (tW E t sz sg la z g b rest)) jNo := by
  refine jMet.intro' [(0, .ref t), (1, .int (nI i)), (2, .int (nI j)), (3, .int (nI w))] (by decide) (Nat.le_of_ble_eq_true rfl) rfl ?_
  intro p e R s m args below meth c Q C hQ
  refine j_aload_n C dX2_ordered_0 rfl ?_
  refine j_iload_n C dX2_ordered_1 rfl ?_
  refine j_callVr C 0 (v := .int (bI (z i = -1))) (w := (tW E t sz sg la z g b rest)) (c_isAway l E A (by omega)) ok_X2_isAway w_190 (by decide) rfl rfl (Nat.le_of_ble_eq_true rfl) rfl rfl ⟨Nat.le_of_ble_eq_true rfl, Nat.le_of_ble_eq_true rfl⟩ dX2_ordered_2 ?_
  refine j_ifb_ne_t (tgt := 16) C dX2_ordered_5 (by decide) hzi ?_
  refine j_aload_n C dX2_ordered_16 rfl ?_
  refine j_iload_n C dX2_ordered_17 rfl ?_
  refine j_callVr C 0 (v := .int (bI (z i = -1))) (w := (tW E t sz sg la z g b rest)) (c_isAway l E A (by omega)) ok_X2_isAway w_190 (by decide) rfl rfl (Nat.le_of_ble_eq_true rfl) rfl rfl ⟨Nat.le_of_ble_eq_true rfl, Nat.le_of_ble_eq_true rfl⟩ dX2_ordered_18 ?_
  refine j_ifb_eq_f (tgt := 28) C dX2_ordered_21 (by decide) hzi ?_
  refine j_iconst (v := (nI 0)) C dX2_ordered_24 rfl ?_
  refine j_goto (tgt := 29) C dX2_ordered_25 (by decide) ?_
  refine j_aload_n C dX2_ordered_29 rfl ?_
  refine j_iload_n C dX2_ordered_30 rfl ?_
  refine j_callVr C 0 (v := .int (bI (z j = -1))) (w := (tW E t sz sg la z g b rest)) (c_isAway l E A (by omega)) ok_X2_isAway w_190 (by decide) rfl rfl (Nat.le_of_ble_eq_true rfl) rfl rfl ⟨Nat.le_of_ble_eq_true rfl, Nat.le_of_ble_eq_true rfl⟩ dX2_ordered_31 ?_
  refine j_ifb_eq_f (tgt := 41) C dX2_ordered_34 (by decide) hzj ?_
  refine j_iconst (v := (nI 0)) C dX2_ordered_37 rfl ?_
  refine j_goto (tgt := 42) C dX2_ordered_38 (by decide) ?_
  refine j_callSr C (v := .int (smI (nI 0) (nI 0))) (w := (tW E t sz sg la z g b rest)) (c_smaller l E A) ok_X2_smaller w_180 (by decide) rfl rfl (Nat.le_of_ble_eq_true rfl) ⟨Nat.le_of_ble_eq_true rfl, Nat.le_of_ble_eq_true rfl⟩ dX2_ordered_42 ?_
  exact j_iret C hQ rfl dX2_ordered_45 ⟨Nat.le_of_ble_eq_true rfl, Nat.le_of_ble_eq_true rfl⟩ ⟨rfl, rfl⟩
set_option maxHeartbeats 4000000 in
set_option maxRecDepth 100000 in
theorem c_ord_mk (l : Launch) (E : jE) (A : Nat → Prop) {t sz sg la : Nat} {z g b : Nat → Int32} {rest : va_W} {i j : Nat} (hi : i < 9) (hj : j < 9) {w : Nat} (hzi : z i = -1) {o : Nat} (ho : o ≤ 24) (hzj : z j = nI o) : jMet l yX2_ordered cX2_ordered 4 (some .int) 3 0 0 E A [.ref t, .int (nI i), .int (nI j), .int (nI w)] (tW E t sz sg la z g b rest) (jR (some (.int (smI (nI 0) (nI 1)))) (tW E t sz sg la z g b rest)) jNo := by
  refine jMet.intro' [(0, .ref t), (1, .int (nI i)), (2, .int (nI j)), (3, .int (nI w))] (by decide) (Nat.le_of_ble_eq_true rfl) rfl ?_
  intro p e R s m args below meth c Q C hQ
  refine j_aload_n C dX2_ordered_0 rfl ?_
  refine j_iload_n C dX2_ordered_1 rfl ?_
  refine j_callVr C 0 (v := .int (bI (z i = -1))) (w := (tW E t sz sg la z g b rest)) (c_isAway l E A (by omega)) ok_X2_isAway w_190 (by decide) rfl rfl (Nat.le_of_ble_eq_true rfl) rfl rfl ⟨Nat.le_of_ble_eq_true rfl, Nat.le_of_ble_eq_true rfl⟩ dX2_ordered_2 ?_
  refine j_ifb_ne_t (tgt := 16) C dX2_ordered_5 (by decide) hzi ?_
  refine j_aload_n C dX2_ordered_16 rfl ?_
  refine j_iload_n C dX2_ordered_17 rfl ?_
  refine j_callVr C 0 (v := .int (bI (z i = -1))) (w := (tW E t sz sg la z g b rest)) (c_isAway l E A (by omega)) ok_X2_isAway w_190 (by decide) rfl rfl (Nat.le_of_ble_eq_true rfl) rfl rfl ⟨Nat.le_of_ble_eq_true rfl, Nat.le_of_ble_eq_true rfl⟩ dX2_ordered_18 ?_
  refine j_ifb_eq_f (tgt := 28) C dX2_ordered_21 (by decide) hzi ?_
  refine j_iconst (v := (nI 0)) C dX2_ordered_24 rfl ?_
  refine j_goto (tgt := 29) C dX2_ordered_25 (by decide) ?_
  refine j_aload_n C dX2_ordered_29 rfl ?_
  refine j_iload_n C dX2_ordered_30 rfl ?_
  refine j_callVr C 0 (v := .int (bI (z j = -1))) (w := (tW E t sz sg la z g b rest)) (c_isAway l E A (by omega)) ok_X2_isAway w_190 (by decide) rfl rfl (Nat.le_of_ble_eq_true rfl) rfl rfl ⟨Nat.le_of_ble_eq_true rfl, Nat.le_of_ble_eq_true rfl⟩ dX2_ordered_31 ?_
  refine j_ifb_eq_t (tgt := 41) C dX2_ordered_34 (by decide) (by rw [hzj]; exact nI_ne_m (by omega)) ?_
  refine j_iconst (v := (nI 1)) C dX2_ordered_41 rfl ?_
  refine j_callSr C (v := .int (smI (nI 0) (nI 1))) (w := (tW E t sz sg la z g b rest)) (c_smaller l E A) ok_X2_smaller w_180 (by decide) rfl rfl (Nat.le_of_ble_eq_true rfl) ⟨Nat.le_of_ble_eq_true rfl, Nat.le_of_ble_eq_true rfl⟩ dX2_ordered_42 ?_
  exact j_iret C hQ rfl dX2_ordered_45 ⟨Nat.le_of_ble_eq_true rfl, Nat.le_of_ble_eq_true rfl⟩ ⟨rfl, rfl⟩
set_option maxHeartbeats 4000000 in
set_option maxRecDepth 100000 in
theorem c_ord_km (l : Launch) (E : jE) (A : Nat → Prop) {t sz sg la : Nat} {z g b : Nat → Int32} {rest : va_W} {i j : Nat} (hi : i < 9) (hj : j < 9) {w : Nat} {n : Nat} (hn : n ≤ 24) (hzi : z i = nI n) (hzj : z j = -1) : jMet l yX2_ordered cX2_ordered 4 (some .int) 3 0 0 E A [.ref t, .int (nI i), .int (nI j), .int (nI w)] (tW E t sz sg la z g b rest) (jR (some (.int (smI (nI 1) (nI 0)))) (tW E t sz sg la z g b rest)) jNo := by
  refine jMet.intro' [(0, .ref t), (1, .int (nI i)), (2, .int (nI j)), (3, .int (nI w))] (by decide) (Nat.le_of_ble_eq_true rfl) rfl ?_
  intro p e R s m args below meth c Q C hQ
  refine j_aload_n C dX2_ordered_0 rfl ?_
  refine j_iload_n C dX2_ordered_1 rfl ?_
  refine j_callVr C 0 (v := .int (bI (z i = -1))) (w := (tW E t sz sg la z g b rest)) (c_isAway l E A (by omega)) ok_X2_isAway w_190 (by decide) rfl rfl (Nat.le_of_ble_eq_true rfl) rfl rfl ⟨Nat.le_of_ble_eq_true rfl, Nat.le_of_ble_eq_true rfl⟩ dX2_ordered_2 ?_
  refine j_ifb_ne_f (tgt := 16) C dX2_ordered_5 (by decide) (by rw [hzi]; exact nI_ne_m (by omega)) ?_
  refine j_aload_n C dX2_ordered_8 rfl ?_
  refine j_iload_n C dX2_ordered_9 rfl ?_
  refine j_callVr C 0 (v := .int (bI (z j = -1))) (w := (tW E t sz sg la z g b rest)) (c_isAway l E A (by omega)) ok_X2_isAway w_190 (by decide) rfl rfl (Nat.le_of_ble_eq_true rfl) rfl rfl ⟨Nat.le_of_ble_eq_true rfl, Nat.le_of_ble_eq_true rfl⟩ dX2_ordered_10 ?_
  refine j_ifb_eq_f (tgt := 46) C dX2_ordered_13 (by decide) hzj ?_
  refine j_aload_n C dX2_ordered_16 rfl ?_
  refine j_iload_n C dX2_ordered_17 rfl ?_
  refine j_callVr C 0 (v := .int (bI (z i = -1))) (w := (tW E t sz sg la z g b rest)) (c_isAway l E A (by omega)) ok_X2_isAway w_190 (by decide) rfl rfl (Nat.le_of_ble_eq_true rfl) rfl rfl ⟨Nat.le_of_ble_eq_true rfl, Nat.le_of_ble_eq_true rfl⟩ dX2_ordered_18 ?_
  refine j_ifb_eq_t (tgt := 28) C dX2_ordered_21 (by decide) (by rw [hzi]; exact nI_ne_m (by omega)) ?_
  refine j_iconst (v := (nI 1)) C dX2_ordered_28 rfl ?_
  refine j_aload_n C dX2_ordered_29 rfl ?_
  refine j_iload_n C dX2_ordered_30 rfl ?_
  refine j_callVr C 0 (v := .int (bI (z j = -1))) (w := (tW E t sz sg la z g b rest)) (c_isAway l E A (by omega)) ok_X2_isAway w_190 (by decide) rfl rfl (Nat.le_of_ble_eq_true rfl) rfl rfl ⟨Nat.le_of_ble_eq_true rfl, Nat.le_of_ble_eq_true rfl⟩ dX2_ordered_31 ?_
  refine j_ifb_eq_f (tgt := 41) C dX2_ordered_34 (by decide) hzj ?_
  refine j_iconst (v := (nI 0)) C dX2_ordered_37 rfl ?_
  refine j_goto (tgt := 42) C dX2_ordered_38 (by decide) ?_
  refine j_callSr C (v := .int (smI (nI 1) (nI 0))) (w := (tW E t sz sg la z g b rest)) (c_smaller l E A) ok_X2_smaller w_180 (by decide) rfl rfl (Nat.le_of_ble_eq_true rfl) ⟨Nat.le_of_ble_eq_true rfl, Nat.le_of_ble_eq_true rfl⟩ dX2_ordered_42 ?_
  exact j_iret C hQ rfl dX2_ordered_45 ⟨Nat.le_of_ble_eq_true rfl, Nat.le_of_ble_eq_true rfl⟩ ⟨rfl, rfl⟩
set_option maxHeartbeats 4000000 in
set_option maxRecDepth 100000 in
theorem c_ord_0 (l : Launch) (E : jE) (A : Nat → Prop) {t sz sg la : Nat} {z g b : Nat → Int32} {rest : va_W} {i j : Nat} (hi : i < 9) (hj : j < 9) {n : Nat} (hn : n ≤ 24) (hzi : z i = nI n) {o : Nat} (ho : o ≤ 24) (hzj : z j = nI o) : jMet l yX2_ordered cX2_ordered 4 (some .int) 3 0 0 E A [.ref t, .int (nI i), .int (nI j), .int (nI 0)] (tW E t sz sg la z g b rest) (jR (some (.int (cmpF (fun q => g (i * 24 + q)) (fun q => g (j * 24 + q)) (smI (nI n) (nI o)) 0 (min n o - 0)))) (tW E t sz sg la z g b rest)) jNo := by
  refine jMet.intro' [(0, .ref t), (1, .int (nI i)), (2, .int (nI j)), (3, .int (nI 0))] (by decide) (Nat.le_of_ble_eq_true rfl) rfl ?_
  intro p e R s m args below meth c Q C hQ
  refine j_aload_n C dX2_ordered_0 rfl ?_
  refine j_iload_n C dX2_ordered_1 rfl ?_
  refine j_callVr C 0 (v := .int (bI (z i = -1))) (w := (tW E t sz sg la z g b rest)) (c_isAway l E A (by omega)) ok_X2_isAway w_190 (by decide) rfl rfl (Nat.le_of_ble_eq_true rfl) rfl rfl ⟨Nat.le_of_ble_eq_true rfl, Nat.le_of_ble_eq_true rfl⟩ dX2_ordered_2 ?_
  refine j_ifb_ne_f (tgt := 16) C dX2_ordered_5 (by decide) (by rw [hzi]; exact nI_ne_m (by omega)) ?_
  refine j_aload_n C dX2_ordered_8 rfl ?_
  refine j_iload_n C dX2_ordered_9 rfl ?_
  refine j_callVr C 0 (v := .int (bI (z j = -1))) (w := (tW E t sz sg la z g b rest)) (c_isAway l E A (by omega)) ok_X2_isAway w_190 (by decide) rfl rfl (Nat.le_of_ble_eq_true rfl) rfl rfl ⟨Nat.le_of_ble_eq_true rfl, Nat.le_of_ble_eq_true rfl⟩ dX2_ordered_10 ?_
  refine j_ifb_eq_t (tgt := 46) C dX2_ordered_13 (by decide) (by rw [hzj]; exact nI_ne_m (by omega)) ?_
  refine j_iload_n C dX2_ordered_46 rfl ?_
  refine j_tableIn (off := 25) (tgt := 72) C dX2_ordered_47 (by decide) (by decide) (by decide) (by decide) ?_
  refine j_aload_n C dX2_ordered_72 rfl ?_
  refine j_iload_n C dX2_ordered_73 rfl ?_
  refine j_iload_n C dX2_ordered_74 rfl ?_
  refine j_callVr C 0 (v := .int (cmpF (fun q => g (i * 24 + q)) (fun q => g (j * 24 + q)) (smI (nI n) (nI o)) 0 (min n o - 0))) (w := (tW E t sz sg la z g b rest)) (c_compared l E A (by omega) (by omega) hzi hzj (by omega) (by omega)) ok_X2_compared w_191 (by decide) rfl rfl (Nat.le_of_ble_eq_true rfl) rfl rfl ⟨Nat.le_of_ble_eq_true rfl, Nat.le_of_ble_eq_true rfl⟩ dX2_ordered_75 ?_
  exact j_iret C hQ rfl dX2_ordered_78 ⟨Nat.le_of_ble_eq_true rfl, Nat.le_of_ble_eq_true rfl⟩ ⟨rfl, rfl⟩
set_option maxHeartbeats 4000000 in
set_option maxRecDepth 100000 in
theorem c_ord_1 (l : Launch) (E : jE) (A : Nat → Prop) {t sz sg la : Nat} {z g b : Nat → Int32} {rest : va_W} {i j : Nat} (hi : i < 9) (hj : j < 9) {n : Nat} (hn : n ≤ 24) (hzi : z i = nI n) {o : Nat} (ho : o ≤ 24) (hzj : z j = nI o) : jMet l yX2_ordered cX2_ordered 4 (some .int) 3 0 0 E A [.ref t, .int (nI i), .int (nI j), .int (nI 1)] (tW E t sz sg la z g b rest) (jR (some (.int (cmpF (fun q => g (j * 24 + q)) (fun q => g (i * 24 + q)) (smI (nI o) (nI n)) 0 (min o n - 0)))) (tW E t sz sg la z g b rest)) jNo := by
  refine jMet.intro' [(0, .ref t), (1, .int (nI i)), (2, .int (nI j)), (3, .int (nI 1))] (by decide) (Nat.le_of_ble_eq_true rfl) rfl ?_
  intro p e R s m args below meth c Q C hQ
  refine j_aload_n C dX2_ordered_0 rfl ?_
  refine j_iload_n C dX2_ordered_1 rfl ?_
  refine j_callVr C 0 (v := .int (bI (z i = -1))) (w := (tW E t sz sg la z g b rest)) (c_isAway l E A (by omega)) ok_X2_isAway w_190 (by decide) rfl rfl (Nat.le_of_ble_eq_true rfl) rfl rfl ⟨Nat.le_of_ble_eq_true rfl, Nat.le_of_ble_eq_true rfl⟩ dX2_ordered_2 ?_
  refine j_ifb_ne_f (tgt := 16) C dX2_ordered_5 (by decide) (by rw [hzi]; exact nI_ne_m (by omega)) ?_
  refine j_aload_n C dX2_ordered_8 rfl ?_
  refine j_iload_n C dX2_ordered_9 rfl ?_
  refine j_callVr C 0 (v := .int (bI (z j = -1))) (w := (tW E t sz sg la z g b rest)) (c_isAway l E A (by omega)) ok_X2_isAway w_190 (by decide) rfl rfl (Nat.le_of_ble_eq_true rfl) rfl rfl ⟨Nat.le_of_ble_eq_true rfl, Nat.le_of_ble_eq_true rfl⟩ dX2_ordered_10 ?_
  refine j_ifb_eq_t (tgt := 46) C dX2_ordered_13 (by decide) (by rw [hzj]; exact nI_ne_m (by omega)) ?_
  refine j_iload_n C dX2_ordered_46 rfl ?_
  refine j_tableIn (off := 32) (tgt := 79) C dX2_ordered_47 (by decide) (by decide) (by decide) (by decide) ?_
  refine j_aload_n C dX2_ordered_79 rfl ?_
  refine j_iload_n C dX2_ordered_80 rfl ?_
  refine j_iload_n C dX2_ordered_81 rfl ?_
  refine j_callVr C 0 (v := .int (cmpF (fun q => g (j * 24 + q)) (fun q => g (i * 24 + q)) (smI (nI o) (nI n)) 0 (min o n - 0))) (w := (tW E t sz sg la z g b rest)) (c_compared l E A (by omega) (by omega) hzj hzi (by omega) (by omega)) ok_X2_compared w_191 (by decide) rfl rfl (Nat.le_of_ble_eq_true rfl) rfl rfl ⟨Nat.le_of_ble_eq_true rfl, Nat.le_of_ble_eq_true rfl⟩ dX2_ordered_82 ?_
  exact j_iret C hQ rfl dX2_ordered_85 ⟨Nat.le_of_ble_eq_true rfl, Nat.le_of_ble_eq_true rfl⟩ ⟨rfl, rfl⟩
set_option maxHeartbeats 4000000 in
set_option maxRecDepth 100000 in
theorem c_ord_2e (l : Launch) (E : jE) (A : Nat → Prop) {t sz sg la : Nat} {z g b : Nat → Int32} {rest : va_W} {i j : Nat} (hi : i < 9) (hj : j < 9) {n : Nat} (hn : n ≤ 24) (hzi : z i = nI n) {o : Nat} (ho : o ≤ 24) (hzj : z j = nI o) (hno : n = o) : jMet l yX2_ordered cX2_ordered 4 (some .int) 3 0 0 E A [.ref t, .int (nI i), .int (nI j), .int (nI 2)] (tW E t sz sg la z g b rest) (jR (some (.int (cmpF (fun q => g (i * 24 + q)) (fun q => g (j * 24 + q)) (smI (nI n) (nI o)) 0 (min n o - 0)))) (tW E t sz sg la z g b rest)) jNo := by
  refine jMet.intro' [(0, .ref t), (1, .int (nI i)), (2, .int (nI j)), (3, .int (nI 2))] (by decide) (Nat.le_of_ble_eq_true rfl) rfl ?_
  intro p e R s m args below meth c Q C hQ
  refine j_aload_n C dX2_ordered_0 rfl ?_
  refine j_iload_n C dX2_ordered_1 rfl ?_
  refine j_callVr C 0 (v := .int (bI (z i = -1))) (w := (tW E t sz sg la z g b rest)) (c_isAway l E A (by omega)) ok_X2_isAway w_190 (by decide) rfl rfl (Nat.le_of_ble_eq_true rfl) rfl rfl ⟨Nat.le_of_ble_eq_true rfl, Nat.le_of_ble_eq_true rfl⟩ dX2_ordered_2 ?_
  refine j_ifb_ne_f (tgt := 16) C dX2_ordered_5 (by decide) (by rw [hzi]; exact nI_ne_m (by omega)) ?_
  refine j_aload_n C dX2_ordered_8 rfl ?_
  refine j_iload_n C dX2_ordered_9 rfl ?_
  refine j_callVr C 0 (v := .int (bI (z j = -1))) (w := (tW E t sz sg la z g b rest)) (c_isAway l E A (by omega)) ok_X2_isAway w_190 (by decide) rfl rfl (Nat.le_of_ble_eq_true rfl) rfl rfl ⟨Nat.le_of_ble_eq_true rfl, Nat.le_of_ble_eq_true rfl⟩ dX2_ordered_10 ?_
  refine j_ifb_eq_t (tgt := 46) C dX2_ordered_13 (by decide) (by rw [hzj]; exact nI_ne_m (by omega)) ?_
  refine j_iload_n C dX2_ordered_46 rfl ?_
  refine j_tableIn (off := 39) (tgt := 86) C dX2_ordered_47 (by decide) (by decide) (by decide) (by decide) ?_
  refine j_aload_n C dX2_ordered_86 rfl ?_
  refine j_get C 0 rfl inj_X2 rfl 0 (by decide) w_62 rfl dX2_ordered_87 ?_
  refine j_iload_n C dX2_ordered_90 rfl ?_
  refine j_iaload (z := (nI n)) C 1 i rfl rfl (by omega) (by first | decide | omega) hzi dX2_ordered_91 ?_
  refine j_aload_n C dX2_ordered_92 rfl ?_
  refine j_get C 0 rfl inj_X2 rfl 0 (by decide) w_62 rfl dX2_ordered_93 ?_
  refine j_iload_n C dX2_ordered_96 rfl ?_
  refine j_iaload (z := (nI o)) C 1 j rfl rfl (by omega) (by first | decide | omega) hzj dX2_ordered_97 ?_
  refine j_icmpn_ne_f (tgt := 110) C dX2_ordered_98 (by decide) (by omega) (by omega) hno ?_
  refine j_aload_n C dX2_ordered_101 rfl ?_
  refine j_iload_n C dX2_ordered_102 rfl ?_
  refine j_iload_n C dX2_ordered_103 rfl ?_
  refine j_callVr C 0 (v := .int (cmpF (fun q => g (i * 24 + q)) (fun q => g (j * 24 + q)) (smI (nI n) (nI o)) 0 (min n o - 0))) (w := (tW E t sz sg la z g b rest)) (c_compared l E A (by omega) (by omega) hzi hzj (by omega) (by omega)) ok_X2_compared w_191 (by decide) rfl rfl (Nat.le_of_ble_eq_true rfl) rfl rfl ⟨Nat.le_of_ble_eq_true rfl, Nat.le_of_ble_eq_true rfl⟩ dX2_ordered_104 ?_
  refine j_goto (tgt := 125) C dX2_ordered_107 (by decide) ?_
  exact j_iret C hQ rfl dX2_ordered_125 ⟨Nat.le_of_ble_eq_true rfl, Nat.le_of_ble_eq_true rfl⟩ ⟨rfl, rfl⟩
set_option maxHeartbeats 4000000 in
set_option maxRecDepth 100000 in
theorem c_ord_2n (l : Launch) (E : jE) (A : Nat → Prop) {t sz sg la : Nat} {z g b : Nat → Int32} {rest : va_W} {i j : Nat} (hi : i < 9) (hj : j < 9) {n : Nat} (hn : n ≤ 24) (hzi : z i = nI n) {o : Nat} (ho : o ≤ 24) (hzj : z j = nI o) (hno : n ≠ o) : jMet l yX2_ordered cX2_ordered 4 (some .int) 3 0 0 E A [.ref t, .int (nI i), .int (nI j), .int (nI 2)] (tW E t sz sg la z g b rest) (jR (some (.int (smI (nI n) (nI o)))) (tW E t sz sg la z g b rest)) jNo := by
  refine jMet.intro' [(0, .ref t), (1, .int (nI i)), (2, .int (nI j)), (3, .int (nI 2))] (by decide) (Nat.le_of_ble_eq_true rfl) rfl ?_
  intro p e R s m args below meth c Q C hQ
  refine j_aload_n C dX2_ordered_0 rfl ?_
  refine j_iload_n C dX2_ordered_1 rfl ?_
  refine j_callVr C 0 (v := .int (bI (z i = -1))) (w := (tW E t sz sg la z g b rest)) (c_isAway l E A (by omega)) ok_X2_isAway w_190 (by decide) rfl rfl (Nat.le_of_ble_eq_true rfl) rfl rfl ⟨Nat.le_of_ble_eq_true rfl, Nat.le_of_ble_eq_true rfl⟩ dX2_ordered_2 ?_
  refine j_ifb_ne_f (tgt := 16) C dX2_ordered_5 (by decide) (by rw [hzi]; exact nI_ne_m (by omega)) ?_
  refine j_aload_n C dX2_ordered_8 rfl ?_
  refine j_iload_n C dX2_ordered_9 rfl ?_
  refine j_callVr C 0 (v := .int (bI (z j = -1))) (w := (tW E t sz sg la z g b rest)) (c_isAway l E A (by omega)) ok_X2_isAway w_190 (by decide) rfl rfl (Nat.le_of_ble_eq_true rfl) rfl rfl ⟨Nat.le_of_ble_eq_true rfl, Nat.le_of_ble_eq_true rfl⟩ dX2_ordered_10 ?_
  refine j_ifb_eq_t (tgt := 46) C dX2_ordered_13 (by decide) (by rw [hzj]; exact nI_ne_m (by omega)) ?_
  refine j_iload_n C dX2_ordered_46 rfl ?_
  refine j_tableIn (off := 39) (tgt := 86) C dX2_ordered_47 (by decide) (by decide) (by decide) (by decide) ?_
  refine j_aload_n C dX2_ordered_86 rfl ?_
  refine j_get C 0 rfl inj_X2 rfl 0 (by decide) w_62 rfl dX2_ordered_87 ?_
  refine j_iload_n C dX2_ordered_90 rfl ?_
  refine j_iaload (z := (nI n)) C 1 i rfl rfl (by omega) (by first | decide | omega) hzi dX2_ordered_91 ?_
  refine j_aload_n C dX2_ordered_92 rfl ?_
  refine j_get C 0 rfl inj_X2 rfl 0 (by decide) w_62 rfl dX2_ordered_93 ?_
  refine j_iload_n C dX2_ordered_96 rfl ?_
  refine j_iaload (z := (nI o)) C 1 j rfl rfl (by omega) (by first | decide | omega) hzj dX2_ordered_97 ?_
  refine j_icmpn_ne_t (tgt := 110) C dX2_ordered_98 (by decide) (by omega) (by omega) hno ?_
  refine j_aload_n C dX2_ordered_110 rfl ?_
  refine j_get C 0 rfl inj_X2 rfl 0 (by decide) w_62 rfl dX2_ordered_111 ?_
  refine j_iload_n C dX2_ordered_114 rfl ?_
  refine j_iaload (z := (nI n)) C 1 i rfl rfl (by omega) (by first | decide | omega) hzi dX2_ordered_115 ?_
  refine j_aload_n C dX2_ordered_116 rfl ?_
  refine j_get C 0 rfl inj_X2 rfl 0 (by decide) w_62 rfl dX2_ordered_117 ?_
  refine j_iload_n C dX2_ordered_120 rfl ?_
  refine j_iaload (z := (nI o)) C 1 j rfl rfl (by omega) (by first | decide | omega) hzj dX2_ordered_121 ?_
  refine j_callSr C (v := .int (smI (nI n) (nI o))) (w := (tW E t sz sg la z g b rest)) (c_smaller l E A) ok_X2_smaller w_180 (by decide) rfl rfl (Nat.le_of_ble_eq_true rfl) ⟨Nat.le_of_ble_eq_true rfl, Nat.le_of_ble_eq_true rfl⟩ dX2_ordered_122 ?_
  exact j_iret C hQ rfl dX2_ordered_125 ⟨Nat.le_of_ble_eq_true rfl, Nat.le_of_ble_eq_true rfl⟩ ⟨rfl, rfl⟩
set_option maxHeartbeats 4000000 in
set_option maxRecDepth 100000 in
theorem c_ord_3 (l : Launch) (E : jE) (A : Nat → Prop) {t sz sg la : Nat} {z g b : Nat → Int32} {rest : va_W} {i j : Nat} (hi : i < 9) (hj : j < 9) {n : Nat} (hn : n ≤ 24) (hzi : z i = nI n) {o : Nat} (ho : o ≤ 24) (hzj : z j = nI o) : jMet l yX2_ordered cX2_ordered 4 (some .int) 3 0 0 E A [.ref t, .int (nI i), .int (nI j), .int (nI 3)] (tW E t sz sg la z g b rest) (jR (some (.int (smI (nI (cntF (fun q => g (i * 24 + q)) (nI 6) n)) (nI (cntF (fun q => g (j * 24 + q)) (nI 6) o))))) (tW E t sz sg la z g b rest)) jNo := by
  refine jMet.intro' [(0, .ref t), (1, .int (nI i)), (2, .int (nI j)), (3, .int (nI 3))] (by decide) (Nat.le_of_ble_eq_true rfl) rfl ?_
  intro p e R s m args below meth c Q C hQ
  refine j_aload_n C dX2_ordered_0 rfl ?_
  refine j_iload_n C dX2_ordered_1 rfl ?_
  refine j_callVr C 0 (v := .int (bI (z i = -1))) (w := (tW E t sz sg la z g b rest)) (c_isAway l E A (by omega)) ok_X2_isAway w_190 (by decide) rfl rfl (Nat.le_of_ble_eq_true rfl) rfl rfl ⟨Nat.le_of_ble_eq_true rfl, Nat.le_of_ble_eq_true rfl⟩ dX2_ordered_2 ?_
  refine j_ifb_ne_f (tgt := 16) C dX2_ordered_5 (by decide) (by rw [hzi]; exact nI_ne_m (by omega)) ?_
  refine j_aload_n C dX2_ordered_8 rfl ?_
  refine j_iload_n C dX2_ordered_9 rfl ?_
  refine j_callVr C 0 (v := .int (bI (z j = -1))) (w := (tW E t sz sg la z g b rest)) (c_isAway l E A (by omega)) ok_X2_isAway w_190 (by decide) rfl rfl (Nat.le_of_ble_eq_true rfl) rfl rfl ⟨Nat.le_of_ble_eq_true rfl, Nat.le_of_ble_eq_true rfl⟩ dX2_ordered_10 ?_
  refine j_ifb_eq_t (tgt := 46) C dX2_ordered_13 (by decide) (by rw [hzj]; exact nI_ne_m (by omega)) ?_
  refine j_iload_n C dX2_ordered_46 rfl ?_
  refine j_tableOut (tgt := 126) C dX2_ordered_47 (by decide) (by decide) ?_
  refine j_aload_n C dX2_ordered_126 rfl ?_
  refine j_iload_n C dX2_ordered_127 rfl ?_
  refine j_bipush (v := (nI 6)) C dX2_ordered_128 rfl ?_
  refine j_callVr C 0 (v := .int (nI (cntF (fun q => g (i * 24 + q)) (nI 6) n))) (w := (tW E t sz sg la z g b rest)) (c_countOf l E A (by omega) hzi (by omega)) ok_X2_countOf w_196 (by decide) rfl rfl (Nat.le_of_ble_eq_true rfl) rfl rfl ⟨Nat.le_of_ble_eq_true rfl, Nat.le_of_ble_eq_true rfl⟩ dX2_ordered_130 ?_
  refine j_aload_n C dX2_ordered_133 rfl ?_
  refine j_iload_n C dX2_ordered_134 rfl ?_
  refine j_bipush (v := (nI 6)) C dX2_ordered_135 rfl ?_
  refine j_callVr C 0 (v := .int (nI (cntF (fun q => g (j * 24 + q)) (nI 6) o))) (w := (tW E t sz sg la z g b rest)) (c_countOf l E A (by omega) hzj (by omega)) ok_X2_countOf w_196 (by decide) rfl rfl (Nat.le_of_ble_eq_true rfl) rfl rfl ⟨Nat.le_of_ble_eq_true rfl, Nat.le_of_ble_eq_true rfl⟩ dX2_ordered_137 ?_
  refine j_callSr C (v := .int (smI (nI (cntF (fun q => g (i * 24 + q)) (nI 6) n)) (nI (cntF (fun q => g (j * 24 + q)) (nI 6) o)))) (w := (tW E t sz sg la z g b rest)) (c_smaller l E A) ok_X2_smaller w_180 (by decide) rfl rfl (Nat.le_of_ble_eq_true rfl) ⟨Nat.le_of_ble_eq_true rfl, Nat.le_of_ble_eq_true rfl⟩ dX2_ordered_140 ?_
  exact j_iret C hQ rfl dX2_ordered_143 ⟨Nat.le_of_ble_eq_true rfl, Nat.le_of_ble_eq_true rfl⟩ ⟨rfl, rfl⟩
/-- an order of two seats -/
def cmpS (z g : Nat → Int32) (i j : Nat) : Int32 := cmpF (fun q => g (i * 24 + q)) (fun q => g (j * 24 + q)) (smI (z i) (z j)) 0 (min (z i).toNatClampNeg (z j).toNatClampNeg - 0)
def cntS (z g : Nat → Int32) (i : Nat) : Nat := cntF (fun q => g (i * 24 + q)) (nI 6) (z i).toNatClampNeg
def ordV (z g : Nat → Int32) (i j o : Nat) : Int32 :=
  if z i = -1 then (if z j = -1 then smI (nI 0) (nI 0) else smI (nI 0) (nI 1)) else if z j = -1 then smI (nI 1) (nI 0) else
  if o = 0 then cmpS z g i j else if o = 1 then cmpS z g j i else if o = 2 then (if z i = z j then cmpS z g i j else smI (z i) (z j)) else smI (nI (cntS z g i)) (nI (cntS z g j))
theorem cmpS_n {z g : Nat → Int32} {i j n o : Nat} (hn : n ≤ 24) (hzi : z i = nI n) (ho : o ≤ 24) (hzj : z j = nI o) : cmpS z g i j = cmpF (fun q => g (i * 24 + q)) (fun q => g (j * 24 + q)) (smI (nI n) (nI o)) 0 (min n o - 0) := by
  unfold cmpS
  rw [hzi, hzj, nI_clamp (by omega), nI_clamp (by omega)]
theorem cntS_n {z g : Nat → Int32} {i n : Nat} (hn : n ≤ 24) (hzi : z i = nI n) : cntS z g i = cntF (fun q => g (i * 24 + q)) (nI 6) n := by
  unfold cntS
  rw [hzi, nI_clamp (by omega)]
theorem c_ordered (l : Launch) (E : jE) (A : Nat → Prop) {t sz sg la : Nat} {z g b : Nat → Int32} {rest : va_W} {i j o : Nat} (hi : i < 9) (hj : j < 9) (ho : o < 4) (hT : ∀ i, i < 9 → txOk z g i) : jMet l yX2_ordered cX2_ordered 4 (some .int) 3 0 0 E A [.ref t, .int (nI i), .int (nI j), .int (nI o)] (tW E t sz sg la z g b rest) (jR (some (.int (ordV z g i j o))) (tW E t sz sg la z g b rest)) jNo := by
  unfold ordV
  rcases hT i hi with h1 | ⟨n1, q1, h1, -⟩ <;> rcases hT j hj with h2 | ⟨n2, q2, h2, -⟩
  · rw [if_pos h1, if_pos h2]; exact c_ord_mm l E A hi hj h1 h2
  · have e2 : ¬ z j = -1 := by rw [h2]; exact nI_ne_m (by omega)
    rw [if_pos h1, if_neg e2]; exact c_ord_mk l E A hi hj h1 q2 h2
  · have e1 : ¬ z i = -1 := by rw [h1]; exact nI_ne_m (by omega)
    rw [if_neg e1, if_pos h2]; exact c_ord_km l E A hi hj q1 h1 h2
  · have e1 : ¬ z i = -1 := by rw [h1]; exact nI_ne_m (by omega)
    have e2 : ¬ z j = -1 := by rw [h2]; exact nI_ne_m (by omega)
    rw [if_neg e1, if_neg e2]
    obtain rfl | rfl | rfl | rfl : o = 0 ∨ o = 1 ∨ o = 2 ∨ o = 3 := by omega
    · rw [if_pos rfl, cmpS_n q1 h1 q2 h2]; exact c_ord_0 l E A hi hj q1 h1 q2 h2
    · rw [if_neg (by decide), if_pos rfl, cmpS_n q2 h2 q1 h1]; exact c_ord_1 l E A hi hj q1 h1 q2 h2
    · rw [if_neg (by decide), if_neg (by decide), if_pos rfl]
      by_cases e : n1 = n2
      · rw [if_pos (by rw [h1, h2, e]), cmpS_n q1 h1 q2 h2]; exact c_ord_2e l E A hi hj q1 h1 q2 h2 e
      · rw [if_neg (by rw [h1, h2]; exact fun w => e ((nI_eq (by omega) (by omega)).mp w)), h1, h2]; exact c_ord_2n l E A hi hj q1 h1 q2 h2 e
    · rw [if_neg (by decide), if_neg (by decide), if_neg (by decide), cntS_n q1 h1, cntS_n q2 h2]; exact c_ord_3 l E A hi hj q1 h1 q2 h2
/-- of two seats that are there -/
theorem c_cmpS (l : Launch) (E : jE) (A : Nat → Prop) {t sz sg la : Nat} {z g b : Nat → Int32} {rest : va_W} {i j : Nat} (hi : i < 9) (hj : j < 9) (hT : ∀ i, i < 9 → txOk z g i) (e1 : ¬ z i = -1) (e2 : ¬ z j = -1) : jMet l yX2_compared cX2_compared 3 (some .int) 2 0 0 E A [.ref t, .int (nI i), .int (nI j)] (tW E t sz sg la z g b rest) (jR (some (.int (cmpS z g i j))) (tW E t sz sg la z g b rest)) jNo := by
  rcases hT i hi with h1 | ⟨n1, q1, h1, -⟩
  · exact absurd h1 e1
  rcases hT j hj with h2 | ⟨n2, q2, h2, -⟩
  · exact absurd h2 e2
  rw [cmpS_n q1 h1 q2 h2]
  exact c_compared l E A hi hj h1 h2 q1 q2
def samS (z g : Nat → Int32) (i j : Nat) : Int32 := if ¬ z i = z j then nI 0 else if z i = -1 then nI 1 else sameV (fun q => g (i * 24 + q)) (fun q => g (j * 24 + q)) 0 (z i).toNatClampNeg
theorem samS_b (z g : Nat → Int32) (i j : Nat) : samS z g i j = 1 ∨ samS z g i j = 0 := by
  unfold samS
  split
  · exact Or.inr rfl
  · split
    · exact Or.inl rfl
    · exact sameV_b _ _ _ _
theorem samS_nar (z g : Nat → Int32) (i j : Nat) : narrow .boolean (.int (samS z g i j)) = .int (samS z g i j) := by
  rcases samS_b z g i j with h | h <;> rw [h] <;> rfl
theorem c_samS (l : Launch) (E : jE) (A : Nat → Prop) {t sz sg la : Nat} {z g b : Nat → Int32} {rest : va_W} {i j : Nat} (hi : i < 9) (hj : j < 9) (hT : ∀ i, i < 9 → txOk z g i) : jMet l yX2_haveSameSigns cX2_haveSameSigns 4 (some .boolean) 1 0 0 E A [.ref t, .int (nI i), .int (nI j)] (tW E t sz sg la z g b rest) (jR (some (.int (samS z g i j))) (tW E t sz sg la z g b rest)) jNo := by
  unfold samS
  by_cases e : z i = z j
  · rw [if_neg (not_not_intro e)]
    rcases hT i hi with h1 | ⟨n1, q1, h1, -⟩
    · rw [if_pos h1]; exact c_same_m l E A hi hj h1 (e.symm.trans h1)
    · rw [if_neg (by rw [h1]; exact nI_ne_m (by omega)), h1, nI_clamp (by omega)]
      exact c_same_n l E A hi hj h1 (e.symm.trans h1) q1
  · rw [if_pos e]; exact c_same_d l E A hi hj e
