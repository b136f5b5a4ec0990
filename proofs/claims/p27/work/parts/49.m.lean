/-! contracts, laid by program (wip/gen) -/
abbrev gW (E : jE) (t sz sg la dk ot mo ou : Nat) (z g b : Nat → Int32) (cr ca cg ck : Int32) (on : Int64) (os : Value) (th re ak gv kn : Int32) (ro : Nat → Option Nat) (LL : List Nat) (ff : Nat → va_E) : va_W := mW E (t, .inr (2, [.ref sz, .ref sg, .ref la])) (sz, .inl (E.2.1, 9, .inl z)) (sg, .inl (E.2.1, 216, .inl g)) (la, .inl (E.2.1, 24, .inl b)) (dk, .inr (3, [.ref t, .int cr, .int ca, .int cg, .int ck])) (ot, .inr (4, [.long on, os])) mo ou th re ak gv kn ro LL ff
set_option maxHeartbeats 4000000 in
set_option maxRecDepth 100000 in
theorem op_write (l : Launch) (hl : l.stackTraces = false) (E : jE) (A : Nat → Prop) {t sz sg la dk ot mo ou : Nat} {z g b : Nat → Int32} {cr ca cg ck : Int32} {on : Int64} {os : Value} {th : Int32} {ro : Nat → Option Nat} {LL : List Nat} {ff : Nat → va_E} {p : Program} {e : Env} {R : Room} {s : State} {m : MethodId} {args : Array Value} {below : List Frame} {meth : Method} {c : Code} {Q : State → Prop} {nn mc ms bs Ln q cs sl : Nat} {xs : Nat → Int32} {x1 x2 x3 x4 : Int32} (C : jC p l e R s m args below meth c x code 7 ret 2000 mc ms E A) (hX : va_X bs Ln xs s s.heap) (hbl : bs < s.heap.size) (hbA : ¬ A bs) (hLn : Ln ≤ 2560) (hq : 5 * q + 5 ≤ Ln) (hmc : cs + 600 ≤ mc) (hms : sl + 10000 ≤ ms) (es1 : xs (5 * q + 1) = x1) (es2 : xs (5 * q + 2) = x2) (es3 : xs (5 * q + 3) = x3) (es4 : xs (5 * q + 4) = x4) (hR : Rel E z g ro LL ff) (kk : ∀ (z' g' b' : Nat → Int32) (cr' ca' cg' ck' : Int32) (on' : Int64) (os' : Value) (th' : Int32) (ro' : Nat → Option Nat) (L' : List Nat) (f' : Nat → va_E), Rel E z' g' ro' L' f' → jJ p l e R s m args below meth c E A 7 Q (cs + 600) (sl + 10000) 1674 [(4, .int (nI (5 * q))), (3, .ref ot), (2, .ref mo), (1, .ref dk), (0, .ref bs)] [] (gW E t sz sg la dk ot mo ou (z') (g') (b') (cr') (ca') (cg') (ck') (on') (os') (th') (cr') (ca') (cg') (ck') (ro') (L') (f'))) : jJ p l e R s m args below meth c E A 7 Q cs sl 204 [(4, .int (nI (5 * q))), (3, .ref ot), (2, .ref mo), (1, .ref dk), (0, .ref bs)] [] (gW E t sz sg la dk ot mo ou z g b cr ca cg ck on os th cr ca cg ck ro LL ff) := by
  have hT := hR.tx
  obtain ⟨W, M, hW, hM, hW1, hM3⟩ := wr_some x2 x3 x4
  rcases seat_cases x1 9 (by decide) with ⟨i, hi, rfl⟩ | hbx1
  · skip
    rcases okS_cases x2 with ha | ho
    · skip
      rcases okS_cases x3 with hv | ho
      · skip
        rcases okS_cases x4 with hw | ho
        · skip
          rcases hR.1 i (by omega) with ⟨hz_i, hr_i⟩ | ⟨a_i, n_i, h_i, hn_i, hz_i, hr_i, hm_i, hf_i, hs_i⟩
          · skip
            refine j_aload_n C dL_law_204 rfl ?_
            refine j_aload_n C dL_law_205 rfl ?_
            refine j_iload C dL_law_206 rfl ?_
            refine j_iconst (v := (nI 1)) C dL_law_208 rfl ?_
            refine j_iadd (z := (nI (5 * q + 1))) C dL_law_209 (nI_add _ _) ?_
            refine j_sld (z := (nI i)) C hX hbl hbA (5 * q + 1) rfl (by omega) (by omega) es1 dL_law_210 ?_
            refine j_aload_n C dL_law_211 rfl ?_
            refine j_iload C dL_law_212 rfl ?_
            refine j_iconst (v := (nI 2)) C dL_law_214 rfl ?_
            refine j_iadd (z := (nI (5 * q + 2))) C dL_law_215 (nI_add _ _) ?_
            refine j_sld (z := x2) C hX hbl hbA (5 * q + 2) rfl (by omega) (by omega) es2 dL_law_216 ?_
            refine j_aload_n C dL_law_217 rfl ?_
            refine j_iload C dL_law_218 rfl ?_
            refine j_iconst (v := (nI 3)) C dL_law_220 rfl ?_
            refine j_iadd (z := (nI (5 * q + 3))) C dL_law_221 (nI_add _ _) ?_
            refine j_sld (z := x3) C hX hbl hbA (5 * q + 3) rfl (by omega) (by omega) es3 dL_law_222 ?_
            refine j_aload_n C dL_law_223 rfl ?_
            refine j_iload C dL_law_224 rfl ?_
            refine j_iconst (v := (nI 4)) C dL_law_226 rfl ?_
            refine j_iadd (z := (nI (5 * q + 4))) C dL_law_227 (nI_add _ _) ?_
            refine j_sld (z := x4) C hX hbl hbA (5 * q + 4) rfl (by omega) (by omega) es4 dL_law_228 ?_
            refine j_aload_n C dL_law_229 rfl ?_
            refine j_callSH C (w_write_jIS l E A (f_write_m l hl E A hi ha hv hw hz_i)) ok_L_write w_262 (by decide) rfl rfl (Nat.le_of_ble_eq_true rfl) ⟨by omega, by omega⟩ dL_law_230 (fun _ _ h => ?_)
            obtain ⟨rfl, rfl⟩ := h
            refine j_istore (lv' := [(5, .int (nI 3)), (4, .int (nI (5 * q))), (3, .ref ot), (2, .ref mo), (1, .ref dk), (0, .ref bs)]) C dL_law_233 (by decide) rfl ?_
            refine j_aload_n C dL_law_235 rfl ?_
            refine j_aload_n C dL_law_236 rfl ?_
            refine j_iload C dL_law_237 rfl ?_
            refine j_iconst (v := (nI 1)) C dL_law_239 rfl ?_
            refine j_iadd (z := (nI (5 * q + 1))) C dL_law_240 (nI_add _ _) ?_
            refine j_sld (z := (nI i)) C hX hbl hbA (5 * q + 1) rfl (by omega) (by omega) es1 dL_law_241 ?_
            refine j_aload_n C dL_law_242 rfl ?_
            refine j_iload C dL_law_243 rfl ?_
            refine j_iconst (v := (nI 2)) C dL_law_245 rfl ?_
            refine j_iadd (z := (nI (5 * q + 2))) C dL_law_246 (nI_add _ _) ?_
            refine j_sld (z := x2) C hX hbl hbA (5 * q + 2) rfl (by omega) (by omega) es2 dL_law_247 ?_
            refine j_aload_n C dL_law_248 rfl ?_
            refine j_iload C dL_law_249 rfl ?_
            refine j_iconst (v := (nI 3)) C dL_law_251 rfl ?_
            refine j_iadd (z := (nI (5 * q + 3))) C dL_law_252 (nI_add _ _) ?_
            refine j_sld (z := x3) C hX hbl hbA (5 * q + 3) rfl (by omega) (by omega) es3 dL_law_253 ?_
            refine j_aload_n C dL_law_254 rfl ?_
            refine j_iload C dL_law_255 rfl ?_
            refine j_iconst (v := (nI 4)) C dL_law_257 rfl ?_
            refine j_iadd (z := (nI (5 * q + 4))) C dL_law_258 (nI_add _ _) ?_
            refine j_sld (z := x4) C hX hbl hbA (5 * q + 4) rfl (by omega) (by omega) es4 dL_law_259 ?_
            refine j_callV C (q0 := 6) (g_write_m l E A hi hr_i (Or.inl ⟨rfl, ha, hv, hw⟩) hM) ok_X5_write w_944 (by decide) rfl rfl (Nat.le_of_ble_eq_true rfl) rfl rfl ⟨by omega, by omega⟩ dL_law_260 (fun _ _ h => h.elim) (fun _ _ h => ?_)
            obtain ⟨qa, hh, hq, rfl, rfl⟩ := h
            refine j_istore (lv' := [(6, .int (nI 0)), (5, .int (nI 3)), (4, .int (nI (5 * q))), (3, .ref ot), (2, .ref mo), (1, .ref dk), (0, .ref bs)]) C dL_law_263 (by decide) rfl ?_
            refine j_goto (tgt := 1674) C dL_law_265 (by decide) ?_
            refine j_lv (lv' := [(4, .int (nI (5 * q))), (3, .ref ot), (2, .ref mo), (1, .ref dk), (0, .ref bs)]) (by simp only [List.mem_cons, List.not_mem_nil, or_false, forall_eq_or_imp, forall_eq, true_or, or_true, and_self, Nat.add_zero]) ?_
            refine j_widen (k := cs + 600) (n := sl + 10000) (by omega) (by omega) ?_
            exact kk _ _ _ _ _ _ _ _ _ _ _ _ _ (hR.ext (ext_1 hq))
          · skip
            by_cases e0 : x2 = -1
            · skip
              have ho : n_i + 0 ≤ 24 := hn_i
              refine j_aload_n C dL_law_204 rfl ?_
              refine j_aload_n C dL_law_205 rfl ?_
              refine j_iload C dL_law_206 rfl ?_
              refine j_iconst (v := (nI 1)) C dL_law_208 rfl ?_
              refine j_iadd (z := (nI (5 * q + 1))) C dL_law_209 (nI_add _ _) ?_
              refine j_sld (z := (nI i)) C hX hbl hbA (5 * q + 1) rfl (by omega) (by omega) es1 dL_law_210 ?_
              refine j_aload_n C dL_law_211 rfl ?_
              refine j_iload C dL_law_212 rfl ?_
              refine j_iconst (v := (nI 2)) C dL_law_214 rfl ?_
              refine j_iadd (z := (nI (5 * q + 2))) C dL_law_215 (nI_add _ _) ?_
              refine j_sld (z := x2) C hX hbl hbA (5 * q + 2) rfl (by omega) (by omega) es2 dL_law_216 ?_
              refine j_aload_n C dL_law_217 rfl ?_
              refine j_iload C dL_law_218 rfl ?_
              refine j_iconst (v := (nI 3)) C dL_law_220 rfl ?_
              refine j_iadd (z := (nI (5 * q + 3))) C dL_law_221 (nI_add _ _) ?_
              refine j_sld (z := x3) C hX hbl hbA (5 * q + 3) rfl (by omega) (by omega) es3 dL_law_222 ?_
              refine j_aload_n C dL_law_223 rfl ?_
              refine j_iload C dL_law_224 rfl ?_
              refine j_iconst (v := (nI 4)) C dL_law_226 rfl ?_
              refine j_iadd (z := (nI (5 * q + 4))) C dL_law_227 (nI_add _ _) ?_
              refine j_sld (z := x4) C hX hbl hbA (5 * q + 4) rfl (by omega) (by omega) es4 dL_law_228 ?_
              refine j_aload_n C dL_law_229 rfl ?_
              refine j_callSH C (w_write_r l E A (rr := nI (n_i)) (f_write_k0 l E A hi ha hv hw hn_i hz_i e0 ho)) ok_L_write w_262 (by decide) rfl rfl (Nat.le_of_ble_eq_true rfl) ⟨by omega, by omega⟩ dL_law_230 (fun _ _ h => ?_)
              obtain ⟨rfl, rfl⟩ := h
              refine j_istore (lv' := [(5, .int (nI 0)), (4, .int (nI (5 * q))), (3, .ref ot), (2, .ref mo), (1, .ref dk), (0, .ref bs)]) C dL_law_233 (by decide) rfl ?_
              refine j_aload_n C dL_law_235 rfl ?_
              refine j_aload_n C dL_law_236 rfl ?_
              refine j_iload C dL_law_237 rfl ?_
              refine j_iconst (v := (nI 1)) C dL_law_239 rfl ?_
              refine j_iadd (z := (nI (5 * q + 1))) C dL_law_240 (nI_add _ _) ?_
              refine j_sld (z := (nI i)) C hX hbl hbA (5 * q + 1) rfl (by omega) (by omega) es1 dL_law_241 ?_
              refine j_aload_n C dL_law_242 rfl ?_
              refine j_iload C dL_law_243 rfl ?_
              refine j_iconst (v := (nI 2)) C dL_law_245 rfl ?_
              refine j_iadd (z := (nI (5 * q + 2))) C dL_law_246 (nI_add _ _) ?_
              refine j_sld (z := x2) C hX hbl hbA (5 * q + 2) rfl (by omega) (by omega) es2 dL_law_247 ?_
              refine j_aload_n C dL_law_248 rfl ?_
              refine j_iload C dL_law_249 rfl ?_
              refine j_iconst (v := (nI 3)) C dL_law_251 rfl ?_
              refine j_iadd (z := (nI (5 * q + 3))) C dL_law_252 (nI_add _ _) ?_
              refine j_sld (z := x3) C hX hbl hbA (5 * q + 3) rfl (by omega) (by omega) es3 dL_law_253 ?_
              refine j_aload_n C dL_law_254 rfl ?_
              refine j_iload C dL_law_255 rfl ?_
              refine j_iconst (v := (nI 4)) C dL_law_257 rfl ?_
              refine j_iadd (z := (nI (5 * q + 4))) C dL_law_258 (nI_add _ _) ?_
              refine j_sld (z := x4) C hX hbl hbA (5 * q + 4) rfl (by omega) (by omega) es4 dL_law_259 ?_
              refine j_callV C (q0 := 6) (g_write_k0 l E A hi hr_i hm_i hf_i hn_i (Or.inl ⟨rfl, ha, hv, hw⟩) (Or.inl ⟨e0, rfl⟩) ho) ok_X5_write w_944 (by decide) rfl rfl (Nat.le_of_ble_eq_true rfl) rfl rfl ⟨by omega, by omega⟩ dL_law_260 (fun _ _ h => h.elim) (fun _ _ h => ?_)
              obtain ⟨qa, hh, hq, rfl, rfl⟩ := h
              refine j_istore (lv' := [(6, .int (nI n_i)), (5, .int (nI 0)), (4, .int (nI (5 * q))), (3, .ref ot), (2, .ref mo), (1, .ref dk), (0, .ref bs)]) C dL_law_263 (by decide) rfl ?_
              refine j_goto (tgt := 1674) C dL_law_265 (by decide) ?_
              refine j_lv (lv' := [(4, .int (nI (5 * q))), (3, .ref ot), (2, .ref mo), (1, .ref dk), (0, .ref bs)]) (by simp only [List.mem_cons, List.not_mem_nil, or_false, forall_eq_or_imp, forall_eq, true_or, or_true, and_self, Nat.add_zero]) ?_
              refine j_widen (k := cs + 600) (n := sl + 10000) (by omega) (by omega) ?_
              exact kk _ _ _ _ _ _ _ _ _ _ _ _ _ (hR.ext (ext_1 hq))
            · skip
              by_cases e1 : x3 = -1
              · skip
                by_cases ho : n_i + 1 ≤ 24
                · skip
                  refine j_aload_n C dL_law_204 rfl ?_
                  refine j_aload_n C dL_law_205 rfl ?_
                  refine j_iload C dL_law_206 rfl ?_
                  refine j_iconst (v := (nI 1)) C dL_law_208 rfl ?_
                  refine j_iadd (z := (nI (5 * q + 1))) C dL_law_209 (nI_add _ _) ?_
                  refine j_sld (z := (nI i)) C hX hbl hbA (5 * q + 1) rfl (by omega) (by omega) es1 dL_law_210 ?_
                  refine j_aload_n C dL_law_211 rfl ?_
                  refine j_iload C dL_law_212 rfl ?_
                  refine j_iconst (v := (nI 2)) C dL_law_214 rfl ?_
                  refine j_iadd (z := (nI (5 * q + 2))) C dL_law_215 (nI_add _ _) ?_
                  refine j_sld (z := x2) C hX hbl hbA (5 * q + 2) rfl (by omega) (by omega) es2 dL_law_216 ?_
                  refine j_aload_n C dL_law_217 rfl ?_
                  refine j_iload C dL_law_218 rfl ?_
                  refine j_iconst (v := (nI 3)) C dL_law_220 rfl ?_
                  refine j_iadd (z := (nI (5 * q + 3))) C dL_law_221 (nI_add _ _) ?_
                  refine j_sld (z := x3) C hX hbl hbA (5 * q + 3) rfl (by omega) (by omega) es3 dL_law_222 ?_
                  refine j_aload_n C dL_law_223 rfl ?_
                  refine j_iload C dL_law_224 rfl ?_
                  refine j_iconst (v := (nI 4)) C dL_law_226 rfl ?_
                  refine j_iadd (z := (nI (5 * q + 4))) C dL_law_227 (nI_add _ _) ?_
                  refine j_sld (z := x4) C hX hbl hbA (5 * q + 4) rfl (by omega) (by omega) es4 dL_law_228 ?_
                  refine j_aload_n C dL_law_229 rfl ?_
                  refine j_callSH C (w_write_r l E A (rr := nI (n_i + 1)) (f_write_k1 l E A hi ha hv hw hn_i hz_i e0 e1 ho)) ok_L_write w_262 (by decide) rfl rfl (Nat.le_of_ble_eq_true rfl) ⟨by omega, by omega⟩ dL_law_230 (fun _ _ h => ?_)
                  obtain ⟨rfl, rfl⟩ := h
                  refine j_istore (lv' := [(5, .int (nI 0)), (4, .int (nI (5 * q))), (3, .ref ot), (2, .ref mo), (1, .ref dk), (0, .ref bs)]) C dL_law_233 (by decide) rfl ?_
                  refine j_aload_n C dL_law_235 rfl ?_
                  refine j_aload_n C dL_law_236 rfl ?_
                  refine j_iload C dL_law_237 rfl ?_
                  refine j_iconst (v := (nI 1)) C dL_law_239 rfl ?_
                  refine j_iadd (z := (nI (5 * q + 1))) C dL_law_240 (nI_add _ _) ?_
                  refine j_sld (z := (nI i)) C hX hbl hbA (5 * q + 1) rfl (by omega) (by omega) es1 dL_law_241 ?_
                  refine j_aload_n C dL_law_242 rfl ?_
                  refine j_iload C dL_law_243 rfl ?_
                  refine j_iconst (v := (nI 2)) C dL_law_245 rfl ?_
                  refine j_iadd (z := (nI (5 * q + 2))) C dL_law_246 (nI_add _ _) ?_
                  refine j_sld (z := x2) C hX hbl hbA (5 * q + 2) rfl (by omega) (by omega) es2 dL_law_247 ?_
                  refine j_aload_n C dL_law_248 rfl ?_
                  refine j_iload C dL_law_249 rfl ?_
                  refine j_iconst (v := (nI 3)) C dL_law_251 rfl ?_
                  refine j_iadd (z := (nI (5 * q + 3))) C dL_law_252 (nI_add _ _) ?_
                  refine j_sld (z := x3) C hX hbl hbA (5 * q + 3) rfl (by omega) (by omega) es3 dL_law_253 ?_
                  refine j_aload_n C dL_law_254 rfl ?_
                  refine j_iload C dL_law_255 rfl ?_
                  refine j_iconst (v := (nI 4)) C dL_law_257 rfl ?_
                  refine j_iadd (z := (nI (5 * q + 4))) C dL_law_258 (nI_add _ _) ?_
                  refine j_sld (z := x4) C hX hbl hbA (5 * q + 4) rfl (by omega) (by omega) es4 dL_law_259 ?_
                  refine j_callV C (q0 := 6) (g_write_k1 l E A hi hr_i hm_i hf_i hn_i (Or.inl ⟨rfl, ha, hv, hw⟩) (Or.inr (Or.inl ⟨e0, e1, rfl⟩)) ho) ok_X5_write w_944 (by decide) rfl rfl (Nat.le_of_ble_eq_true rfl) rfl rfl ⟨by omega, by omega⟩ dL_law_260 (fun _ _ h => h.elim) (fun _ _ h => ?_)
                  obtain ⟨qa, p0, hh, hq, hp0, rfl, rfl⟩ := h
                  refine j_istore (lv' := [(6, .int (nI (n_i + 1))), (5, .int (nI 0)), (4, .int (nI (5 * q))), (3, .ref ot), (2, .ref mo), (1, .ref dk), (0, .ref bs)]) C dL_law_263 (by decide) rfl ?_
                  refine j_goto (tgt := 1674) C dL_law_265 (by decide) ?_
                  refine j_lv (lv' := [(4, .int (nI (5 * q))), (3, .ref ot), (2, .ref mo), (1, .ref dk), (0, .ref bs)]) (by simp only [List.mem_cons, List.not_mem_nil, or_false, forall_eq_or_imp, forall_eq, true_or, or_true, and_self, Nat.add_zero]) ?_
                  refine j_widen (k := cs + 600) (n := sl + 10000) (by omega) (by omega) ?_
                  exact kk _ _ _ _ _ _ _ _ _ _ _ _ _ (Rel.app hi (hR.ext (ext_1 hq)) hs_i (by omega) (okS_s ha e0) hp0)
                · skip
                  refine j_aload_n C dL_law_204 rfl ?_
                  refine j_aload_n C dL_law_205 rfl ?_
                  refine j_iload C dL_law_206 rfl ?_
                  refine j_iconst (v := (nI 1)) C dL_law_208 rfl ?_
                  refine j_iadd (z := (nI (5 * q + 1))) C dL_law_209 (nI_add _ _) ?_
                  refine j_sld (z := (nI i)) C hX hbl hbA (5 * q + 1) rfl (by omega) (by omega) es1 dL_law_210 ?_
                  refine j_aload_n C dL_law_211 rfl ?_
                  refine j_iload C dL_law_212 rfl ?_
                  refine j_iconst (v := (nI 2)) C dL_law_214 rfl ?_
                  refine j_iadd (z := (nI (5 * q + 2))) C dL_law_215 (nI_add _ _) ?_
                  refine j_sld (z := x2) C hX hbl hbA (5 * q + 2) rfl (by omega) (by omega) es2 dL_law_216 ?_
                  refine j_aload_n C dL_law_217 rfl ?_
                  refine j_iload C dL_law_218 rfl ?_
                  refine j_iconst (v := (nI 3)) C dL_law_220 rfl ?_
                  refine j_iadd (z := (nI (5 * q + 3))) C dL_law_221 (nI_add _ _) ?_
                  refine j_sld (z := x3) C hX hbl hbA (5 * q + 3) rfl (by omega) (by omega) es3 dL_law_222 ?_
                  refine j_aload_n C dL_law_223 rfl ?_
                  refine j_iload C dL_law_224 rfl ?_
                  refine j_iconst (v := (nI 4)) C dL_law_226 rfl ?_
                  refine j_iadd (z := (nI (5 * q + 4))) C dL_law_227 (nI_add _ _) ?_
                  refine j_sld (z := x4) C hX hbl hbA (5 * q + 4) rfl (by omega) (by omega) es4 dL_law_228 ?_
                  refine j_aload_n C dL_law_229 rfl ?_
                  refine j_callSH C (w_write_jIS l E A (f_write_f1 l hl E A hi ha hv hw hn_i hz_i e0 e1 ho)) ok_L_write w_262 (by decide) rfl rfl (Nat.le_of_ble_eq_true rfl) ⟨by omega, by omega⟩ dL_law_230 (fun _ _ h => ?_)
                  obtain ⟨rfl, rfl⟩ := h
                  refine j_istore (lv' := [(5, .int (nI 3)), (4, .int (nI (5 * q))), (3, .ref ot), (2, .ref mo), (1, .ref dk), (0, .ref bs)]) C dL_law_233 (by decide) rfl ?_
                  refine j_aload_n C dL_law_235 rfl ?_
                  refine j_aload_n C dL_law_236 rfl ?_
                  refine j_iload C dL_law_237 rfl ?_
                  refine j_iconst (v := (nI 1)) C dL_law_239 rfl ?_
                  refine j_iadd (z := (nI (5 * q + 1))) C dL_law_240 (nI_add _ _) ?_
                  refine j_sld (z := (nI i)) C hX hbl hbA (5 * q + 1) rfl (by omega) (by omega) es1 dL_law_241 ?_
                  refine j_aload_n C dL_law_242 rfl ?_
                  refine j_iload C dL_law_243 rfl ?_
                  refine j_iconst (v := (nI 2)) C dL_law_245 rfl ?_
                  refine j_iadd (z := (nI (5 * q + 2))) C dL_law_246 (nI_add _ _) ?_
                  refine j_sld (z := x2) C hX hbl hbA (5 * q + 2) rfl (by omega) (by omega) es2 dL_law_247 ?_
                  refine j_aload_n C dL_law_248 rfl ?_
                  refine j_iload C dL_law_249 rfl ?_
                  refine j_iconst (v := (nI 3)) C dL_law_251 rfl ?_
                  refine j_iadd (z := (nI (5 * q + 3))) C dL_law_252 (nI_add _ _) ?_
                  refine j_sld (z := x3) C hX hbl hbA (5 * q + 3) rfl (by omega) (by omega) es3 dL_law_253 ?_
                  refine j_aload_n C dL_law_254 rfl ?_
                  refine j_iload C dL_law_255 rfl ?_
                  refine j_iconst (v := (nI 4)) C dL_law_257 rfl ?_
                  refine j_iadd (z := (nI (5 * q + 4))) C dL_law_258 (nI_add _ _) ?_
                  refine j_sld (z := x4) C hX hbl hbA (5 * q + 4) rfl (by omega) (by omega) es4 dL_law_259 ?_
                  refine j_callV C (q0 := 6) (g_write_f l E A hi hr_i hm_i hf_i hn_i (Or.inl ⟨rfl, ha, hv, hw⟩) (Or.inr (Or.inl ⟨e0, e1, rfl⟩)) (by decide) ho) ok_X5_write w_944 (by decide) rfl rfl (Nat.le_of_ble_eq_true rfl) rfl rfl ⟨by omega, by omega⟩ dL_law_260 (fun _ _ h => h.elim) (fun _ _ h => ?_)
                  obtain ⟨qa, hh, hq, rfl, rfl⟩ := h
                  refine j_istore (lv' := [(6, .int (nI 0)), (5, .int (nI 3)), (4, .int (nI (5 * q))), (3, .ref ot), (2, .ref mo), (1, .ref dk), (0, .ref bs)]) C dL_law_263 (by decide) rfl ?_
                  refine j_goto (tgt := 1674) C dL_law_265 (by decide) ?_
                  refine j_lv (lv' := [(4, .int (nI (5 * q))), (3, .ref ot), (2, .ref mo), (1, .ref dk), (0, .ref bs)]) (by simp only [List.mem_cons, List.not_mem_nil, or_false, forall_eq_or_imp, forall_eq, true_or, or_true, and_self, Nat.add_zero]) ?_
                  refine j_widen (k := cs + 600) (n := sl + 10000) (by omega) (by omega) ?_
                  exact kk _ _ _ _ _ _ _ _ _ _ _ _ _ (hR.ext (ext_1 hq))
              · skip
                by_cases e2 : x4 = -1
                · skip
                  by_cases ho : n_i + 2 ≤ 24
                  · skip
                    refine j_aload_n C dL_law_204 rfl ?_
                    refine j_aload_n C dL_law_205 rfl ?_
                    refine j_iload C dL_law_206 rfl ?_
                    refine j_iconst (v := (nI 1)) C dL_law_208 rfl ?_
                    refine j_iadd (z := (nI (5 * q + 1))) C dL_law_209 (nI_add _ _) ?_
                    refine j_sld (z := (nI i)) C hX hbl hbA (5 * q + 1) rfl (by omega) (by omega) es1 dL_law_210 ?_
                    refine j_aload_n C dL_law_211 rfl ?_
                    refine j_iload C dL_law_212 rfl ?_
                    refine j_iconst (v := (nI 2)) C dL_law_214 rfl ?_
                    refine j_iadd (z := (nI (5 * q + 2))) C dL_law_215 (nI_add _ _) ?_
                    refine j_sld (z := x2) C hX hbl hbA (5 * q + 2) rfl (by omega) (by omega) es2 dL_law_216 ?_
                    refine j_aload_n C dL_law_217 rfl ?_
                    refine j_iload C dL_law_218 rfl ?_
                    refine j_iconst (v := (nI 3)) C dL_law_220 rfl ?_
                    refine j_iadd (z := (nI (5 * q + 3))) C dL_law_221 (nI_add _ _) ?_
                    refine j_sld (z := x3) C hX hbl hbA (5 * q + 3) rfl (by omega) (by omega) es3 dL_law_222 ?_
                    refine j_aload_n C dL_law_223 rfl ?_
                    refine j_iload C dL_law_224 rfl ?_
                    refine j_iconst (v := (nI 4)) C dL_law_226 rfl ?_
                    refine j_iadd (z := (nI (5 * q + 4))) C dL_law_227 (nI_add _ _) ?_
                    refine j_sld (z := x4) C hX hbl hbA (5 * q + 4) rfl (by omega) (by omega) es4 dL_law_228 ?_
                    refine j_aload_n C dL_law_229 rfl ?_
                    refine j_callSH C (w_write_r l E A (rr := nI (n_i + 1 + 1)) (f_write_k2 l E A hi ha hv hw hn_i hz_i e0 e1 e2 ho)) ok_L_write w_262 (by decide) rfl rfl (Nat.le_of_ble_eq_true rfl) ⟨by omega, by omega⟩ dL_law_230 (fun _ _ h => ?_)
                    obtain ⟨rfl, rfl⟩ := h
                    refine j_istore (lv' := [(5, .int (nI 0)), (4, .int (nI (5 * q))), (3, .ref ot), (2, .ref mo), (1, .ref dk), (0, .ref bs)]) C dL_law_233 (by decide) rfl ?_
                    refine j_aload_n C dL_law_235 rfl ?_
                    refine j_aload_n C dL_law_236 rfl ?_
                    refine j_iload C dL_law_237 rfl ?_
                    refine j_iconst (v := (nI 1)) C dL_law_239 rfl ?_
                    refine j_iadd (z := (nI (5 * q + 1))) C dL_law_240 (nI_add _ _) ?_
                    refine j_sld (z := (nI i)) C hX hbl hbA (5 * q + 1) rfl (by omega) (by omega) es1 dL_law_241 ?_
                    refine j_aload_n C dL_law_242 rfl ?_
                    refine j_iload C dL_law_243 rfl ?_
                    refine j_iconst (v := (nI 2)) C dL_law_245 rfl ?_
                    refine j_iadd (z := (nI (5 * q + 2))) C dL_law_246 (nI_add _ _) ?_
                    refine j_sld (z := x2) C hX hbl hbA (5 * q + 2) rfl (by omega) (by omega) es2 dL_law_247 ?_
                    refine j_aload_n C dL_law_248 rfl ?_
                    refine j_iload C dL_law_249 rfl ?_
                    refine j_iconst (v := (nI 3)) C dL_law_251 rfl ?_
                    refine j_iadd (z := (nI (5 * q + 3))) C dL_law_252 (nI_add _ _) ?_
                    refine j_sld (z := x3) C hX hbl hbA (5 * q + 3) rfl (by omega) (by omega) es3 dL_law_253 ?_
                    refine j_aload_n C dL_law_254 rfl ?_
                    refine j_iload C dL_law_255 rfl ?_
                    refine j_iconst (v := (nI 4)) C dL_law_257 rfl ?_
                    refine j_iadd (z := (nI (5 * q + 4))) C dL_law_258 (nI_add _ _) ?_
                    refine j_sld (z := x4) C hX hbl hbA (5 * q + 4) rfl (by omega) (by omega) es4 dL_law_259 ?_
                    refine j_callV C (q0 := 6) (g_write_k2 l E A hi hr_i hm_i hf_i hn_i (Or.inl ⟨rfl, ha, hv, hw⟩) (Or.inr (Or.inr (Or.inl ⟨e0, e1, e2, rfl⟩))) ho) ok_X5_write w_944 (by decide) rfl rfl (Nat.le_of_ble_eq_true rfl) rfl rfl ⟨by omega, by omega⟩ dL_law_260 (fun _ _ h => h.elim) (fun _ _ h => ?_)
                    obtain ⟨qa, p0, p1, hh, hq, hp0, hp1, rfl, rfl⟩ := h
                    refine j_istore (lv' := [(6, .int (nI (n_i + 1 + 1))), (5, .int (nI 0)), (4, .int (nI (5 * q))), (3, .ref ot), (2, .ref mo), (1, .ref dk), (0, .ref bs)]) C dL_law_263 (by decide) rfl ?_
                    refine j_goto (tgt := 1674) C dL_law_265 (by decide) ?_
                    refine j_lv (lv' := [(4, .int (nI (5 * q))), (3, .ref ot), (2, .ref mo), (1, .ref dk), (0, .ref bs)]) (by simp only [List.mem_cons, List.not_mem_nil, or_false, forall_eq_or_imp, forall_eq, true_or, or_true, and_self, Nat.add_zero]) ?_
                    refine j_widen (k := cs + 600) (n := sl + 10000) (by omega) (by omega) ?_
                    exact kk _ _ _ _ _ _ _ _ _ _ _ _ _ (Rel.app hi (Rel.app hi (hR.ext (ext_1 hq)) hs_i (by omega) (okS_s ha e0) hp0) (wth_hs hs_i (okS_s ha e0)) (by omega) (okS_s hv e1) hp1)
                  · skip
                    refine j_aload_n C dL_law_204 rfl ?_
                    refine j_aload_n C dL_law_205 rfl ?_
                    refine j_iload C dL_law_206 rfl ?_
                    refine j_iconst (v := (nI 1)) C dL_law_208 rfl ?_
                    refine j_iadd (z := (nI (5 * q + 1))) C dL_law_209 (nI_add _ _) ?_
                    refine j_sld (z := (nI i)) C hX hbl hbA (5 * q + 1) rfl (by omega) (by omega) es1 dL_law_210 ?_
                    refine j_aload_n C dL_law_211 rfl ?_
                    refine j_iload C dL_law_212 rfl ?_
                    refine j_iconst (v := (nI 2)) C dL_law_214 rfl ?_
                    refine j_iadd (z := (nI (5 * q + 2))) C dL_law_215 (nI_add _ _) ?_
                    refine j_sld (z := x2) C hX hbl hbA (5 * q + 2) rfl (by omega) (by omega) es2 dL_law_216 ?_
                    refine j_aload_n C dL_law_217 rfl ?_
                    refine j_iload C dL_law_218 rfl ?_
                    refine j_iconst (v := (nI 3)) C dL_law_220 rfl ?_
                    refine j_iadd (z := (nI (5 * q + 3))) C dL_law_221 (nI_add _ _) ?_
                    refine j_sld (z := x3) C hX hbl hbA (5 * q + 3) rfl (by omega) (by omega) es3 dL_law_222 ?_
                    refine j_aload_n C dL_law_223 rfl ?_
                    refine j_iload C dL_law_224 rfl ?_
                    refine j_iconst (v := (nI 4)) C dL_law_226 rfl ?_
                    refine j_iadd (z := (nI (5 * q + 4))) C dL_law_227 (nI_add _ _) ?_
                    refine j_sld (z := x4) C hX hbl hbA (5 * q + 4) rfl (by omega) (by omega) es4 dL_law_228 ?_
                    refine j_aload_n C dL_law_229 rfl ?_
                    refine j_callSH C (w_write_jIS l E A (f_write_f2 l hl E A hi ha hv hw hn_i hz_i e0 e1 e2 ho)) ok_L_write w_262 (by decide) rfl rfl (Nat.le_of_ble_eq_true rfl) ⟨by omega, by omega⟩ dL_law_230 (fun _ _ h => ?_)
                    obtain ⟨rfl, rfl⟩ := h
                    refine j_istore (lv' := [(5, .int (nI 3)), (4, .int (nI (5 * q))), (3, .ref ot), (2, .ref mo), (1, .ref dk), (0, .ref bs)]) C dL_law_233 (by decide) rfl ?_
                    refine j_aload_n C dL_law_235 rfl ?_
                    refine j_aload_n C dL_law_236 rfl ?_
                    refine j_iload C dL_law_237 rfl ?_
                    refine j_iconst (v := (nI 1)) C dL_law_239 rfl ?_
                    refine j_iadd (z := (nI (5 * q + 1))) C dL_law_240 (nI_add _ _) ?_
                    refine j_sld (z := (nI i)) C hX hbl hbA (5 * q + 1) rfl (by omega) (by omega) es1 dL_law_241 ?_
                    refine j_aload_n C dL_law_242 rfl ?_
                    refine j_iload C dL_law_243 rfl ?_
                    refine j_iconst (v := (nI 2)) C dL_law_245 rfl ?_
                    refine j_iadd (z := (nI (5 * q + 2))) C dL_law_246 (nI_add _ _) ?_
                    refine j_sld (z := x2) C hX hbl hbA (5 * q + 2) rfl (by omega) (by omega) es2 dL_law_247 ?_
                    refine j_aload_n C dL_law_248 rfl ?_
                    refine j_iload C dL_law_249 rfl ?_
                    refine j_iconst (v := (nI 3)) C dL_law_251 rfl ?_
                    refine j_iadd (z := (nI (5 * q + 3))) C dL_law_252 (nI_add _ _) ?_
                    refine j_sld (z := x3) C hX hbl hbA (5 * q + 3) rfl (by omega) (by omega) es3 dL_law_253 ?_
                    refine j_aload_n C dL_law_254 rfl ?_
                    refine j_iload C dL_law_255 rfl ?_
                    refine j_iconst (v := (nI 4)) C dL_law_257 rfl ?_
                    refine j_iadd (z := (nI (5 * q + 4))) C dL_law_258 (nI_add _ _) ?_
                    refine j_sld (z := x4) C hX hbl hbA (5 * q + 4) rfl (by omega) (by omega) es4 dL_law_259 ?_
                    refine j_callV C (q0 := 6) (g_write_f l E A hi hr_i hm_i hf_i hn_i (Or.inl ⟨rfl, ha, hv, hw⟩) (Or.inr (Or.inr (Or.inl ⟨e0, e1, e2, rfl⟩))) (by decide) ho) ok_X5_write w_944 (by decide) rfl rfl (Nat.le_of_ble_eq_true rfl) rfl rfl ⟨by omega, by omega⟩ dL_law_260 (fun _ _ h => h.elim) (fun _ _ h => ?_)
                    obtain ⟨qa, hh, hq, rfl, rfl⟩ := h
                    refine j_istore (lv' := [(6, .int (nI 0)), (5, .int (nI 3)), (4, .int (nI (5 * q))), (3, .ref ot), (2, .ref mo), (1, .ref dk), (0, .ref bs)]) C dL_law_263 (by decide) rfl ?_
                    refine j_goto (tgt := 1674) C dL_law_265 (by decide) ?_
                    refine j_lv (lv' := [(4, .int (nI (5 * q))), (3, .ref ot), (2, .ref mo), (1, .ref dk), (0, .ref bs)]) (by simp only [List.mem_cons, List.not_mem_nil, or_false, forall_eq_or_imp, forall_eq, true_or, or_true, and_self, Nat.add_zero]) ?_
                    refine j_widen (k := cs + 600) (n := sl + 10000) (by omega) (by omega) ?_
                    exact kk _ _ _ _ _ _ _ _ _ _ _ _ _ (hR.ext (ext_1 hq))
                · skip
                  by_cases ho : n_i + 3 ≤ 24
                  · skip
                    refine j_aload_n C dL_law_204 rfl ?_
                    refine j_aload_n C dL_law_205 rfl ?_
                    refine j_iload C dL_law_206 rfl ?_
                    refine j_iconst (v := (nI 1)) C dL_law_208 rfl ?_
                    refine j_iadd (z := (nI (5 * q + 1))) C dL_law_209 (nI_add _ _) ?_
                    refine j_sld (z := (nI i)) C hX hbl hbA (5 * q + 1) rfl (by omega) (by omega) es1 dL_law_210 ?_
                    refine j_aload_n C dL_law_211 rfl ?_
                    refine j_iload C dL_law_212 rfl ?_
                    refine j_iconst (v := (nI 2)) C dL_law_214 rfl ?_
                    refine j_iadd (z := (nI (5 * q + 2))) C dL_law_215 (nI_add _ _) ?_
                    refine j_sld (z := x2) C hX hbl hbA (5 * q + 2) rfl (by omega) (by omega) es2 dL_law_216 ?_
                    refine j_aload_n C dL_law_217 rfl ?_
                    refine j_iload C dL_law_218 rfl ?_
                    refine j_iconst (v := (nI 3)) C dL_law_220 rfl ?_
                    refine j_iadd (z := (nI (5 * q + 3))) C dL_law_221 (nI_add _ _) ?_
                    refine j_sld (z := x3) C hX hbl hbA (5 * q + 3) rfl (by omega) (by omega) es3 dL_law_222 ?_
                    refine j_aload_n C dL_law_223 rfl ?_
                    refine j_iload C dL_law_224 rfl ?_
                    refine j_iconst (v := (nI 4)) C dL_law_226 rfl ?_
                    refine j_iadd (z := (nI (5 * q + 4))) C dL_law_227 (nI_add _ _) ?_
                    refine j_sld (z := x4) C hX hbl hbA (5 * q + 4) rfl (by omega) (by omega) es4 dL_law_228 ?_
                    refine j_aload_n C dL_law_229 rfl ?_
                    refine j_callSH C (w_write_r l E A (rr := nI (n_i + 1 + 1 + 1)) (f_write_k3 l E A hi ha hv hw hn_i hz_i e0 e1 e2 ho)) ok_L_write w_262 (by decide) rfl rfl (Nat.le_of_ble_eq_true rfl) ⟨by omega, by omega⟩ dL_law_230 (fun _ _ h => ?_)
                    obtain ⟨rfl, rfl⟩ := h
                    refine j_istore (lv' := [(5, .int (nI 0)), (4, .int (nI (5 * q))), (3, .ref ot), (2, .ref mo), (1, .ref dk), (0, .ref bs)]) C dL_law_233 (by decide) rfl ?_
                    refine j_aload_n C dL_law_235 rfl ?_
                    refine j_aload_n C dL_law_236 rfl ?_
                    refine j_iload C dL_law_237 rfl ?_
                    refine j_iconst (v := (nI 1)) C dL_law_239 rfl ?_
                    refine j_iadd (z := (nI (5 * q + 1))) C dL_law_240 (nI_add _ _) ?_
                    refine j_sld (z := (nI i)) C hX hbl hbA (5 * q + 1) rfl (by omega) (by omega) es1 dL_law_241 ?_
                    refine j_aload_n C dL_law_242 rfl ?_
                    refine j_iload C dL_law_243 rfl ?_
                    refine j_iconst (v := (nI 2)) C dL_law_245 rfl ?_
                    refine j_iadd (z := (nI (5 * q + 2))) C dL_law_246 (nI_add _ _) ?_
                    refine j_sld (z := x2) C hX hbl hbA (5 * q + 2) rfl (by omega) (by omega) es2 dL_law_247 ?_
                    refine j_aload_n C dL_law_248 rfl ?_
                    refine j_iload C dL_law_249 rfl ?_
                    refine j_iconst (v := (nI 3)) C dL_law_251 rfl ?_
                    refine j_iadd (z := (nI (5 * q + 3))) C dL_law_252 (nI_add _ _) ?_
                    refine j_sld (z := x3) C hX hbl hbA (5 * q + 3) rfl (by omega) (by omega) es3 dL_law_253 ?_
                    refine j_aload_n C dL_law_254 rfl ?_
                    refine j_iload C dL_law_255 rfl ?_
                    refine j_iconst (v := (nI 4)) C dL_law_257 rfl ?_
                    refine j_iadd (z := (nI (5 * q + 4))) C dL_law_258 (nI_add _ _) ?_
                    refine j_sld (z := x4) C hX hbl hbA (5 * q + 4) rfl (by omega) (by omega) es4 dL_law_259 ?_
                    refine j_callV C (q0 := 6) (g_write_k3 l E A hi hr_i hm_i hf_i hn_i (Or.inl ⟨rfl, ha, hv, hw⟩) (Or.inr (Or.inr (Or.inr ⟨e0, e1, e2, rfl⟩))) ho) ok_X5_write w_944 (by decide) rfl rfl (Nat.le_of_ble_eq_true rfl) rfl rfl ⟨by omega, by omega⟩ dL_law_260 (fun _ _ h => h.elim) (fun _ _ h => ?_)
                    obtain ⟨qa, p0, p1, p2, hh, hq, hp0, hp1, hp2, rfl, rfl⟩ := h
                    refine j_istore (lv' := [(6, .int (nI (n_i + 1 + 1 + 1))), (5, .int (nI 0)), (4, .int (nI (5 * q))), (3, .ref ot), (2, .ref mo), (1, .ref dk), (0, .ref bs)]) C dL_law_263 (by decide) rfl ?_
                    refine j_goto (tgt := 1674) C dL_law_265 (by decide) ?_
                    refine j_lv (lv' := [(4, .int (nI (5 * q))), (3, .ref ot), (2, .ref mo), (1, .ref dk), (0, .ref bs)]) (by simp only [List.mem_cons, List.not_mem_nil, or_false, forall_eq_or_imp, forall_eq, true_or, or_true, and_self, Nat.add_zero]) ?_
                    refine j_widen (k := cs + 600) (n := sl + 10000) (by omega) (by omega) ?_
                    exact kk _ _ _ _ _ _ _ _ _ _ _ _ _ (Rel.app hi (Rel.app hi (Rel.app hi (hR.ext (ext_1 hq)) hs_i (by omega) (okS_s ha e0) hp0) (wth_hs hs_i (okS_s ha e0)) (by omega) (okS_s hv e1) hp1) (wth_hs (wth_hs hs_i (okS_s ha e0)) (okS_s hv e1)) (by omega) (okS_s hw e2) hp2)
                  · skip
                    refine j_aload_n C dL_law_204 rfl ?_
                    refine j_aload_n C dL_law_205 rfl ?_
                    refine j_iload C dL_law_206 rfl ?_
                    refine j_iconst (v := (nI 1)) C dL_law_208 rfl ?_
                    refine j_iadd (z := (nI (5 * q + 1))) C dL_law_209 (nI_add _ _) ?_
                    refine j_sld (z := (nI i)) C hX hbl hbA (5 * q + 1) rfl (by omega) (by omega) es1 dL_law_210 ?_
                    refine j_aload_n C dL_law_211 rfl ?_
                    refine j_iload C dL_law_212 rfl ?_
                    refine j_iconst (v := (nI 2)) C dL_law_214 rfl ?_
                    refine j_iadd (z := (nI (5 * q + 2))) C dL_law_215 (nI_add _ _) ?_
                    refine j_sld (z := x2) C hX hbl hbA (5 * q + 2) rfl (by omega) (by omega) es2 dL_law_216 ?_
                    refine j_aload_n C dL_law_217 rfl ?_
                    refine j_iload C dL_law_218 rfl ?_
                    refine j_iconst (v := (nI 3)) C dL_law_220 rfl ?_
                    refine j_iadd (z := (nI (5 * q + 3))) C dL_law_221 (nI_add _ _) ?_
                    refine j_sld (z := x3) C hX hbl hbA (5 * q + 3) rfl (by omega) (by omega) es3 dL_law_222 ?_
                    refine j_aload_n C dL_law_223 rfl ?_
                    refine j_iload C dL_law_224 rfl ?_
                    refine j_iconst (v := (nI 4)) C dL_law_226 rfl ?_
                    refine j_iadd (z := (nI (5 * q + 4))) C dL_law_227 (nI_add _ _) ?_
                    refine j_sld (z := x4) C hX hbl hbA (5 * q + 4) rfl (by omega) (by omega) es4 dL_law_228 ?_
                    refine j_aload_n C dL_law_229 rfl ?_
                    refine j_callSH C (w_write_jIS l E A (f_write_f3 l hl E A hi ha hv hw hn_i hz_i e0 e1 e2 ho)) ok_L_write w_262 (by decide) rfl rfl (Nat.le_of_ble_eq_true rfl) ⟨by omega, by omega⟩ dL_law_230 (fun _ _ h => ?_)
                    obtain ⟨rfl, rfl⟩ := h
                    refine j_istore (lv' := [(5, .int (nI 3)), (4, .int (nI (5 * q))), (3, .ref ot), (2, .ref mo), (1, .ref dk), (0, .ref bs)]) C dL_law_233 (by decide) rfl ?_
                    refine j_aload_n C dL_law_235 rfl ?_
                    refine j_aload_n C dL_law_236 rfl ?_
                    refine j_iload C dL_law_237 rfl ?_
                    refine j_iconst (v := (nI 1)) C dL_law_239 rfl ?_
                    refine j_iadd (z := (nI (5 * q + 1))) C dL_law_240 (nI_add _ _) ?_
                    refine j_sld (z := (nI i)) C hX hbl hbA (5 * q + 1) rfl (by omega) (by omega) es1 dL_law_241 ?_
                    refine j_aload_n C dL_law_242 rfl ?_
                    refine j_iload C dL_law_243 rfl ?_
                    refine j_iconst (v := (nI 2)) C dL_law_245 rfl ?_
                    refine j_iadd (z := (nI (5 * q + 2))) C dL_law_246 (nI_add _ _) ?_
                    refine j_sld (z := x2) C hX hbl hbA (5 * q + 2) rfl (by omega) (by omega) es2 dL_law_247 ?_
                    refine j_aload_n C dL_law_248 rfl ?_
                    refine j_iload C dL_law_249 rfl ?_
                    refine j_iconst (v := (nI 3)) C dL_law_251 rfl ?_
                    refine j_iadd (z := (nI (5 * q + 3))) C dL_law_252 (nI_add _ _) ?_
                    refine j_sld (z := x3) C hX hbl hbA (5 * q + 3) rfl (by omega) (by omega) es3 dL_law_253 ?_
                    refine j_aload_n C dL_law_254 rfl ?_
                    refine j_iload C dL_law_255 rfl ?_
                    refine j_iconst (v := (nI 4)) C dL_law_257 rfl ?_
                    refine j_iadd (z := (nI (5 * q + 4))) C dL_law_258 (nI_add _ _) ?_
                    refine j_sld (z := x4) C hX hbl hbA (5 * q + 4) rfl (by omega) (by omega) es4 dL_law_259 ?_
                    refine j_callV C (q0 := 6) (g_write_f l E A hi hr_i hm_i hf_i hn_i (Or.inl ⟨rfl, ha, hv, hw⟩) (Or.inr (Or.inr (Or.inr ⟨e0, e1, e2, rfl⟩))) (by decide) ho) ok_X5_write w_944 (by decide) rfl rfl (Nat.le_of_ble_eq_true rfl) rfl rfl ⟨by omega, by omega⟩ dL_law_260 (fun _ _ h => h.elim) (fun _ _ h => ?_)
                    obtain ⟨qa, hh, hq, rfl, rfl⟩ := h
                    refine j_istore (lv' := [(6, .int (nI 0)), (5, .int (nI 3)), (4, .int (nI (5 * q))), (3, .ref ot), (2, .ref mo), (1, .ref dk), (0, .ref bs)]) C dL_law_263 (by decide) rfl ?_
                    refine j_goto (tgt := 1674) C dL_law_265 (by decide) ?_
                    refine j_lv (lv' := [(4, .int (nI (5 * q))), (3, .ref ot), (2, .ref mo), (1, .ref dk), (0, .ref bs)]) (by simp only [List.mem_cons, List.not_mem_nil, or_false, forall_eq_or_imp, forall_eq, true_or, or_true, and_self, Nat.add_zero]) ?_
                    refine j_widen (k := cs + 600) (n := sl + 10000) (by omega) (by omega) ?_
                    exact kk _ _ _ _ _ _ _ _ _ _ _ _ _ (hR.ext (ext_1 hq))
        · skip
          refine j_aload_n C dL_law_204 rfl ?_
          refine j_aload_n C dL_law_205 rfl ?_
          refine j_iload C dL_law_206 rfl ?_
          refine j_iconst (v := (nI 1)) C dL_law_208 rfl ?_
          refine j_iadd (z := (nI (5 * q + 1))) C dL_law_209 (nI_add _ _) ?_
          refine j_sld (z := (nI i)) C hX hbl hbA (5 * q + 1) rfl (by omega) (by omega) es1 dL_law_210 ?_
          refine j_aload_n C dL_law_211 rfl ?_
          refine j_iload C dL_law_212 rfl ?_
          refine j_iconst (v := (nI 2)) C dL_law_214 rfl ?_
          refine j_iadd (z := (nI (5 * q + 2))) C dL_law_215 (nI_add _ _) ?_
          refine j_sld (z := x2) C hX hbl hbA (5 * q + 2) rfl (by omega) (by omega) es2 dL_law_216 ?_
          refine j_aload_n C dL_law_217 rfl ?_
          refine j_iload C dL_law_218 rfl ?_
          refine j_iconst (v := (nI 3)) C dL_law_220 rfl ?_
          refine j_iadd (z := (nI (5 * q + 3))) C dL_law_221 (nI_add _ _) ?_
          refine j_sld (z := x3) C hX hbl hbA (5 * q + 3) rfl (by omega) (by omega) es3 dL_law_222 ?_
          refine j_aload_n C dL_law_223 rfl ?_
          refine j_iload C dL_law_224 rfl ?_
          refine j_iconst (v := (nI 4)) C dL_law_226 rfl ?_
          refine j_iadd (z := (nI (5 * q + 4))) C dL_law_227 (nI_add _ _) ?_
          refine j_sld (z := x4) C hX hbl hbA (5 * q + 4) rfl (by omega) (by omega) es4 dL_law_228 ?_
          refine j_aload_n C dL_law_229 rfl ?_
          refine j_callSH C (w_write_jIA l E A (f_write_a3 l hl E A hi ha hv ho.2)) ok_L_write w_262 (by decide) rfl rfl (Nat.le_of_ble_eq_true rfl) ⟨by omega, by omega⟩ dL_law_230 (fun _ _ h => ?_)
          obtain ⟨rfl, rfl⟩ := h
          refine j_istore (lv' := [(5, .int (nI 2)), (4, .int (nI (5 * q))), (3, .ref ot), (2, .ref mo), (1, .ref dk), (0, .ref bs)]) C dL_law_233 (by decide) rfl ?_
          refine j_aload_n C dL_law_235 rfl ?_
          refine j_aload_n C dL_law_236 rfl ?_
          refine j_iload C dL_law_237 rfl ?_
          refine j_iconst (v := (nI 1)) C dL_law_239 rfl ?_
          refine j_iadd (z := (nI (5 * q + 1))) C dL_law_240 (nI_add _ _) ?_
          refine j_sld (z := (nI i)) C hX hbl hbA (5 * q + 1) rfl (by omega) (by omega) es1 dL_law_241 ?_
          refine j_aload_n C dL_law_242 rfl ?_
          refine j_iload C dL_law_243 rfl ?_
          refine j_iconst (v := (nI 2)) C dL_law_245 rfl ?_
          refine j_iadd (z := (nI (5 * q + 2))) C dL_law_246 (nI_add _ _) ?_
          refine j_sld (z := x2) C hX hbl hbA (5 * q + 2) rfl (by omega) (by omega) es2 dL_law_247 ?_
          refine j_aload_n C dL_law_248 rfl ?_
          refine j_iload C dL_law_249 rfl ?_
          refine j_iconst (v := (nI 3)) C dL_law_251 rfl ?_
          refine j_iadd (z := (nI (5 * q + 3))) C dL_law_252 (nI_add _ _) ?_
          refine j_sld (z := x3) C hX hbl hbA (5 * q + 3) rfl (by omega) (by omega) es3 dL_law_253 ?_
          refine j_aload_n C dL_law_254 rfl ?_
          refine j_iload C dL_law_255 rfl ?_
          refine j_iconst (v := (nI 4)) C dL_law_257 rfl ?_
          refine j_iadd (z := (nI (5 * q + 4))) C dL_law_258 (nI_add _ _) ?_
          refine j_sld (z := x4) C hX hbl hbA (5 * q + 4) rfl (by omega) (by omega) es4 dL_law_259 ?_
          refine j_callV C (q0 := 6) (g_write_a l E A hi (Or.inr ⟨rfl, fun q => ho.1 q.2.2⟩) hM) ok_X5_write w_944 (by decide) rfl rfl (Nat.le_of_ble_eq_true rfl) rfl rfl ⟨by omega, by omega⟩ dL_law_260 (fun _ _ h => h.elim) (fun _ _ h => ?_)
          obtain ⟨qa, hh, hq, rfl, rfl⟩ := h
          refine j_istore (lv' := [(6, .int (nI 0)), (5, .int (nI 2)), (4, .int (nI (5 * q))), (3, .ref ot), (2, .ref mo), (1, .ref dk), (0, .ref bs)]) C dL_law_263 (by decide) rfl ?_
          refine j_goto (tgt := 1674) C dL_law_265 (by decide) ?_
          refine j_lv (lv' := [(4, .int (nI (5 * q))), (3, .ref ot), (2, .ref mo), (1, .ref dk), (0, .ref bs)]) (by simp only [List.mem_cons, List.not_mem_nil, or_false, forall_eq_or_imp, forall_eq, true_or, or_true, and_self, Nat.add_zero]) ?_
          refine j_widen (k := cs + 600) (n := sl + 10000) (by omega) (by omega) ?_
          exact kk _ _ _ _ _ _ _ _ _ _ _ _ _ (hR.ext (ext_1 hq))
      · skip
        refine j_aload_n C dL_law_204 rfl ?_
        refine j_aload_n C dL_law_205 rfl ?_
        refine j_iload C dL_law_206 rfl ?_
        refine j_iconst (v := (nI 1)) C dL_law_208 rfl ?_
        refine j_iadd (z := (nI (5 * q + 1))) C dL_law_209 (nI_add _ _) ?_
        refine j_sld (z := (nI i)) C hX hbl hbA (5 * q + 1) rfl (by omega) (by omega) es1 dL_law_210 ?_
        refine j_aload_n C dL_law_211 rfl ?_
        refine j_iload C dL_law_212 rfl ?_
        refine j_iconst (v := (nI 2)) C dL_law_214 rfl ?_
        refine j_iadd (z := (nI (5 * q + 2))) C dL_law_215 (nI_add _ _) ?_
        refine j_sld (z := x2) C hX hbl hbA (5 * q + 2) rfl (by omega) (by omega) es2 dL_law_216 ?_
        refine j_aload_n C dL_law_217 rfl ?_
        refine j_iload C dL_law_218 rfl ?_
        refine j_iconst (v := (nI 3)) C dL_law_220 rfl ?_
        refine j_iadd (z := (nI (5 * q + 3))) C dL_law_221 (nI_add _ _) ?_
        refine j_sld (z := x3) C hX hbl hbA (5 * q + 3) rfl (by omega) (by omega) es3 dL_law_222 ?_
        refine j_aload_n C dL_law_223 rfl ?_
        refine j_iload C dL_law_224 rfl ?_
        refine j_iconst (v := (nI 4)) C dL_law_226 rfl ?_
        refine j_iadd (z := (nI (5 * q + 4))) C dL_law_227 (nI_add _ _) ?_
        refine j_sld (z := x4) C hX hbl hbA (5 * q + 4) rfl (by omega) (by omega) es4 dL_law_228 ?_
        refine j_aload_n C dL_law_229 rfl ?_
        refine j_callSH C (w_write_jIA l E A (f_write_a2 l hl E A hi ha ho.2)) ok_L_write w_262 (by decide) rfl rfl (Nat.le_of_ble_eq_true rfl) ⟨by omega, by omega⟩ dL_law_230 (fun _ _ h => ?_)
        obtain ⟨rfl, rfl⟩ := h
        refine j_istore (lv' := [(5, .int (nI 2)), (4, .int (nI (5 * q))), (3, .ref ot), (2, .ref mo), (1, .ref dk), (0, .ref bs)]) C dL_law_233 (by decide) rfl ?_
        refine j_aload_n C dL_law_235 rfl ?_
        refine j_aload_n C dL_law_236 rfl ?_
        refine j_iload C dL_law_237 rfl ?_
        refine j_iconst (v := (nI 1)) C dL_law_239 rfl ?_
        refine j_iadd (z := (nI (5 * q + 1))) C dL_law_240 (nI_add _ _) ?_
        refine j_sld (z := (nI i)) C hX hbl hbA (5 * q + 1) rfl (by omega) (by omega) es1 dL_law_241 ?_
        refine j_aload_n C dL_law_242 rfl ?_
        refine j_iload C dL_law_243 rfl ?_
        refine j_iconst (v := (nI 2)) C dL_law_245 rfl ?_
        refine j_iadd (z := (nI (5 * q + 2))) C dL_law_246 (nI_add _ _) ?_
        refine j_sld (z := x2) C hX hbl hbA (5 * q + 2) rfl (by omega) (by omega) es2 dL_law_247 ?_
        refine j_aload_n C dL_law_248 rfl ?_
        refine j_iload C dL_law_249 rfl ?_
        refine j_iconst (v := (nI 3)) C dL_law_251 rfl ?_
        refine j_iadd (z := (nI (5 * q + 3))) C dL_law_252 (nI_add _ _) ?_
        refine j_sld (z := x3) C hX hbl hbA (5 * q + 3) rfl (by omega) (by omega) es3 dL_law_253 ?_
        refine j_aload_n C dL_law_254 rfl ?_
        refine j_iload C dL_law_255 rfl ?_
        refine j_iconst (v := (nI 4)) C dL_law_257 rfl ?_
        refine j_iadd (z := (nI (5 * q + 4))) C dL_law_258 (nI_add _ _) ?_
        refine j_sld (z := x4) C hX hbl hbA (5 * q + 4) rfl (by omega) (by omega) es4 dL_law_259 ?_
        refine j_callV C (q0 := 6) (g_write_a l E A hi (Or.inr ⟨rfl, fun q => ho.1 q.2.1⟩) hM) ok_X5_write w_944 (by decide) rfl rfl (Nat.le_of_ble_eq_true rfl) rfl rfl ⟨by omega, by omega⟩ dL_law_260 (fun _ _ h => h.elim) (fun _ _ h => ?_)
        obtain ⟨qa, hh, hq, rfl, rfl⟩ := h
        refine j_istore (lv' := [(6, .int (nI 0)), (5, .int (nI 2)), (4, .int (nI (5 * q))), (3, .ref ot), (2, .ref mo), (1, .ref dk), (0, .ref bs)]) C dL_law_263 (by decide) rfl ?_
        refine j_goto (tgt := 1674) C dL_law_265 (by decide) ?_
        refine j_lv (lv' := [(4, .int (nI (5 * q))), (3, .ref ot), (2, .ref mo), (1, .ref dk), (0, .ref bs)]) (by simp only [List.mem_cons, List.not_mem_nil, or_false, forall_eq_or_imp, forall_eq, true_or, or_true, and_self, Nat.add_zero]) ?_
        refine j_widen (k := cs + 600) (n := sl + 10000) (by omega) (by omega) ?_
        exact kk _ _ _ _ _ _ _ _ _ _ _ _ _ (hR.ext (ext_1 hq))
    · skip
      refine j_aload_n C dL_law_204 rfl ?_
      refine j_aload_n C dL_law_205 rfl ?_
      refine j_iload C dL_law_206 rfl ?_
      refine j_iconst (v := (nI 1)) C dL_law_208 rfl ?_
      refine j_iadd (z := (nI (5 * q + 1))) C dL_law_209 (nI_add _ _) ?_
      refine j_sld (z := (nI i)) C hX hbl hbA (5 * q + 1) rfl (by omega) (by omega) es1 dL_law_210 ?_
      refine j_aload_n C dL_law_211 rfl ?_
      refine j_iload C dL_law_212 rfl ?_
      refine j_iconst (v := (nI 2)) C dL_law_214 rfl ?_
      refine j_iadd (z := (nI (5 * q + 2))) C dL_law_215 (nI_add _ _) ?_
      refine j_sld (z := x2) C hX hbl hbA (5 * q + 2) rfl (by omega) (by omega) es2 dL_law_216 ?_
      refine j_aload_n C dL_law_217 rfl ?_
      refine j_iload C dL_law_218 rfl ?_
      refine j_iconst (v := (nI 3)) C dL_law_220 rfl ?_
      refine j_iadd (z := (nI (5 * q + 3))) C dL_law_221 (nI_add _ _) ?_
      refine j_sld (z := x3) C hX hbl hbA (5 * q + 3) rfl (by omega) (by omega) es3 dL_law_222 ?_
      refine j_aload_n C dL_law_223 rfl ?_
      refine j_iload C dL_law_224 rfl ?_
      refine j_iconst (v := (nI 4)) C dL_law_226 rfl ?_
      refine j_iadd (z := (nI (5 * q + 4))) C dL_law_227 (nI_add _ _) ?_
      refine j_sld (z := x4) C hX hbl hbA (5 * q + 4) rfl (by omega) (by omega) es4 dL_law_228 ?_
      refine j_aload_n C dL_law_229 rfl ?_
      refine j_callSH C (w_write_jIA l E A (f_write_a1 l hl E A hi ho.2)) ok_L_write w_262 (by decide) rfl rfl (Nat.le_of_ble_eq_true rfl) ⟨by omega, by omega⟩ dL_law_230 (fun _ _ h => ?_)
      obtain ⟨rfl, rfl⟩ := h
      refine j_istore (lv' := [(5, .int (nI 2)), (4, .int (nI (5 * q))), (3, .ref ot), (2, .ref mo), (1, .ref dk), (0, .ref bs)]) C dL_law_233 (by decide) rfl ?_
      refine j_aload_n C dL_law_235 rfl ?_
      refine j_aload_n C dL_law_236 rfl ?_
      refine j_iload C dL_law_237 rfl ?_
      refine j_iconst (v := (nI 1)) C dL_law_239 rfl ?_
      refine j_iadd (z := (nI (5 * q + 1))) C dL_law_240 (nI_add _ _) ?_
      refine j_sld (z := (nI i)) C hX hbl hbA (5 * q + 1) rfl (by omega) (by omega) es1 dL_law_241 ?_
      refine j_aload_n C dL_law_242 rfl ?_
      refine j_iload C dL_law_243 rfl ?_
      refine j_iconst (v := (nI 2)) C dL_law_245 rfl ?_
      refine j_iadd (z := (nI (5 * q + 2))) C dL_law_246 (nI_add _ _) ?_
      refine j_sld (z := x2) C hX hbl hbA (5 * q + 2) rfl (by omega) (by omega) es2 dL_law_247 ?_
      refine j_aload_n C dL_law_248 rfl ?_
      refine j_iload C dL_law_249 rfl ?_
      refine j_iconst (v := (nI 3)) C dL_law_251 rfl ?_
      refine j_iadd (z := (nI (5 * q + 3))) C dL_law_252 (nI_add _ _) ?_
      refine j_sld (z := x3) C hX hbl hbA (5 * q + 3) rfl (by omega) (by omega) es3 dL_law_253 ?_
      refine j_aload_n C dL_law_254 rfl ?_
      refine j_iload C dL_law_255 rfl ?_
      refine j_iconst (v := (nI 4)) C dL_law_257 rfl ?_
      refine j_iadd (z := (nI (5 * q + 4))) C dL_law_258 (nI_add _ _) ?_
      refine j_sld (z := x4) C hX hbl hbA (5 * q + 4) rfl (by omega) (by omega) es4 dL_law_259 ?_
      refine j_callV C (q0 := 6) (g_write_a l E A hi (Or.inr ⟨rfl, fun q => ho.1 q.1⟩) hM) ok_X5_write w_944 (by decide) rfl rfl (Nat.le_of_ble_eq_true rfl) rfl rfl ⟨by omega, by omega⟩ dL_law_260 (fun _ _ h => h.elim) (fun _ _ h => ?_)
      obtain ⟨qa, hh, hq, rfl, rfl⟩ := h
      refine j_istore (lv' := [(6, .int (nI 0)), (5, .int (nI 2)), (4, .int (nI (5 * q))), (3, .ref ot), (2, .ref mo), (1, .ref dk), (0, .ref bs)]) C dL_law_263 (by decide) rfl ?_
      refine j_goto (tgt := 1674) C dL_law_265 (by decide) ?_
      refine j_lv (lv' := [(4, .int (nI (5 * q))), (3, .ref ot), (2, .ref mo), (1, .ref dk), (0, .ref bs)]) (by simp only [List.mem_cons, List.not_mem_nil, or_false, forall_eq_or_imp, forall_eq, true_or, or_true, and_self, Nat.add_zero]) ?_
      refine j_widen (k := cs + 600) (n := sl + 10000) (by omega) (by omega) ?_
      exact kk _ _ _ _ _ _ _ _ _ _ _ _ _ (hR.ext (ext_1 hq))
  · skip
    refine j_aload_n C dL_law_204 rfl ?_
    refine j_aload_n C dL_law_205 rfl ?_
    refine j_iload C dL_law_206 rfl ?_
    refine j_iconst (v := (nI 1)) C dL_law_208 rfl ?_
    refine j_iadd (z := (nI (5 * q + 1))) C dL_law_209 (nI_add _ _) ?_
    refine j_sld (z := x1) C hX hbl hbA (5 * q + 1) rfl (by omega) (by omega) es1 dL_law_210 ?_
    refine j_aload_n C dL_law_211 rfl ?_
    refine j_iload C dL_law_212 rfl ?_
    refine j_iconst (v := (nI 2)) C dL_law_214 rfl ?_
    refine j_iadd (z := (nI (5 * q + 2))) C dL_law_215 (nI_add _ _) ?_
    refine j_sld (z := x2) C hX hbl hbA (5 * q + 2) rfl (by omega) (by omega) es2 dL_law_216 ?_
    refine j_aload_n C dL_law_217 rfl ?_
    refine j_iload C dL_law_218 rfl ?_
    refine j_iconst (v := (nI 3)) C dL_law_220 rfl ?_
    refine j_iadd (z := (nI (5 * q + 3))) C dL_law_221 (nI_add _ _) ?_
    refine j_sld (z := x3) C hX hbl hbA (5 * q + 3) rfl (by omega) (by omega) es3 dL_law_222 ?_
    refine j_aload_n C dL_law_223 rfl ?_
    refine j_iload C dL_law_224 rfl ?_
    refine j_iconst (v := (nI 4)) C dL_law_226 rfl ?_
    refine j_iadd (z := (nI (5 * q + 4))) C dL_law_227 (nI_add _ _) ?_
    refine j_sld (z := x4) C hX hbl hbA (5 * q + 4) rfl (by omega) (by omega) es4 dL_law_228 ?_
    refine j_aload_n C dL_law_229 rfl ?_
    refine j_callSH C (w_write_jIO l E A (f_write_b l hl E A hbx1)) ok_L_write w_262 (by decide) rfl rfl (Nat.le_of_ble_eq_true rfl) ⟨by omega, by omega⟩ dL_law_230 (fun _ _ h => ?_)
    obtain ⟨rfl, rfl⟩ := h
    refine j_istore (lv' := [(5, .int (nI 1)), (4, .int (nI (5 * q))), (3, .ref ot), (2, .ref mo), (1, .ref dk), (0, .ref bs)]) C dL_law_233 (by decide) rfl ?_
    refine j_aload_n C dL_law_235 rfl ?_
    refine j_aload_n C dL_law_236 rfl ?_
    refine j_iload C dL_law_237 rfl ?_
    refine j_iconst (v := (nI 1)) C dL_law_239 rfl ?_
    refine j_iadd (z := (nI (5 * q + 1))) C dL_law_240 (nI_add _ _) ?_
    refine j_sld (z := x1) C hX hbl hbA (5 * q + 1) rfl (by omega) (by omega) es1 dL_law_241 ?_
    refine j_aload_n C dL_law_242 rfl ?_
    refine j_iload C dL_law_243 rfl ?_
    refine j_iconst (v := (nI 2)) C dL_law_245 rfl ?_
    refine j_iadd (z := (nI (5 * q + 2))) C dL_law_246 (nI_add _ _) ?_
    refine j_sld (z := x2) C hX hbl hbA (5 * q + 2) rfl (by omega) (by omega) es2 dL_law_247 ?_
    refine j_aload_n C dL_law_248 rfl ?_
    refine j_iload C dL_law_249 rfl ?_
    refine j_iconst (v := (nI 3)) C dL_law_251 rfl ?_
    refine j_iadd (z := (nI (5 * q + 3))) C dL_law_252 (nI_add _ _) ?_
    refine j_sld (z := x3) C hX hbl hbA (5 * q + 3) rfl (by omega) (by omega) es3 dL_law_253 ?_
    refine j_aload_n C dL_law_254 rfl ?_
    refine j_iload C dL_law_255 rfl ?_
    refine j_iconst (v := (nI 4)) C dL_law_257 rfl ?_
    refine j_iadd (z := (nI (5 * q + 4))) C dL_law_258 (nI_add _ _) ?_
    refine j_sld (z := x4) C hX hbl hbA (5 * q + 4) rfl (by omega) (by omega) es4 dL_law_259 ?_
    refine j_callV C (q0 := 6) (g_write_b l E A hW hM hbx1) ok_X5_write w_944 (by decide) rfl rfl (Nat.le_of_ble_eq_true rfl) rfl rfl ⟨by omega, by omega⟩ dL_law_260 (fun _ _ h => h.elim) (fun _ _ h => ?_)
    obtain ⟨qa, hh, hq, rfl, rfl⟩ := h
    refine j_istore (lv' := [(6, .int (nI 0)), (5, .int (nI 1)), (4, .int (nI (5 * q))), (3, .ref ot), (2, .ref mo), (1, .ref dk), (0, .ref bs)]) C dL_law_263 (by decide) rfl ?_
    refine j_goto (tgt := 1674) C dL_law_265 (by decide) ?_
    refine j_lv (lv' := [(4, .int (nI (5 * q))), (3, .ref ot), (2, .ref mo), (1, .ref dk), (0, .ref bs)]) (by simp only [List.mem_cons, List.not_mem_nil, or_false, forall_eq_or_imp, forall_eq, true_or, or_true, and_self, Nat.add_zero]) ?_
    refine j_widen (k := cs + 600) (n := sl + 10000) (by omega) (by omega) ?_
    exact kk _ _ _ _ _ _ _ _ _ _ _ _ _ (hR.ext (ext_1 hq))
set_option maxHeartbeats 4000000 in
set_option maxRecDepth 100000 in
theorem op_fill (l : Launch) (hl : l.stackTraces = false) (E : jE) (A : Nat → Prop) {t sz sg la dk ot mo ou : Nat} {z g b : Nat → Int32} {cr ca cg ck : Int32} {on : Int64} {os : Value} {th : Int32} {ro : Nat → Option Nat} {LL : List Nat} {ff : Nat → va_E} {p : Program} {e : Env} {R : Room} {s : State} {m : MethodId} {args : Array Value} {below : List Frame} {meth : Method} {c : Code} {Q : State → Prop} {nn mc ms bs Ln q cs sl : Nat} {xs : Nat → Int32} {x1 x2 x3 x4 : Int32} (C : jC p l e R s m args below meth c x code 7 ret 2000 mc ms E A) (hX : va_X bs Ln xs s s.heap) (hbl : bs < s.heap.size) (hbA : ¬ A bs) (hLn : Ln ≤ 2560) (hq : 5 * q + 5 ≤ Ln) (hmc : cs + 600 ≤ mc) (hms : sl + 10000 ≤ ms) (es1 : xs (5 * q + 1) = x1) (es2 : xs (5 * q + 2) = x2) (es3 : xs (5 * q + 3) = x3) (es4 : xs (5 * q + 4) = x4) (hR : Rel E z g ro LL ff) (kk : ∀ (z' g' b' : Nat → Int32) (cr' ca' cg' ck' : Int32) (on' : Int64) (os' : Value) (th' : Int32) (ro' : Nat → Option Nat) (L' : List Nat) (f' : Nat → va_E), Rel E z' g' ro' L' f' → jJ p l e R s m args below meth c E A 7 Q (cs + 600) (sl + 10000) 1674 [(4, .int (nI (5 * q))), (3, .ref ot), (2, .ref mo), (1, .ref dk), (0, .ref bs)] [] (gW E t sz sg la dk ot mo ou (z') (g') (b') (cr') (ca') (cg') (ck') (on') (os') (th') (cr') (ca') (cg') (ck') (ro') (L') (f'))) : jJ p l e R s m args below meth c E A 7 Q cs sl 268 [(4, .int (nI (5 * q))), (3, .ref ot), (2, .ref mo), (1, .ref dk), (0, .ref bs)] [] (gW E t sz sg la dk ot mo ou z g b cr ca cg ck on os th cr ca cg ck ro LL ff) := by
  have hT := hR.tx
  rcases seat_cases x1 9 (by decide) with ⟨i, hi, rfl⟩ | hbx1
  · skip
    rcases seat_cases x2 10 (by decide) with ⟨y, hy, rfl⟩ | hbx2
    · skip
      rcases upto_cases x3 24 (by decide) with ⟨w, hw, rfl⟩ | hbx3
      · skip
        rcases hR.1 i (by omega) with ⟨hz_i, hr_i⟩ | ⟨a_i, n_i, h_i, hn_i, hz_i, hr_i, hm_i, hf_i, hs_i⟩
        · skip
          refine j_aload_n C dL_law_268 rfl ?_
          refine j_aload_n C dL_law_269 rfl ?_
          refine j_iload C dL_law_270 rfl ?_
          refine j_iconst (v := (nI 1)) C dL_law_272 rfl ?_
          refine j_iadd (z := (nI (5 * q + 1))) C dL_law_273 (nI_add _ _) ?_
          refine j_sld (z := (nI i)) C hX hbl hbA (5 * q + 1) rfl (by omega) (by omega) es1 dL_law_274 ?_
          refine j_aload_n C dL_law_275 rfl ?_
          refine j_iload C dL_law_276 rfl ?_
          refine j_iconst (v := (nI 2)) C dL_law_278 rfl ?_
          refine j_iadd (z := (nI (5 * q + 2))) C dL_law_279 (nI_add _ _) ?_
          refine j_sld (z := (nI y)) C hX hbl hbA (5 * q + 2) rfl (by omega) (by omega) es2 dL_law_280 ?_
          refine j_aload_n C dL_law_281 rfl ?_
          refine j_iload C dL_law_282 rfl ?_
          refine j_iconst (v := (nI 3)) C dL_law_284 rfl ?_
          refine j_iadd (z := (nI (5 * q + 3))) C dL_law_285 (nI_add _ _) ?_
          refine j_sld (z := (nI w)) C hX hbl hbA (5 * q + 3) rfl (by omega) (by omega) es3 dL_law_286 ?_
          refine j_aload_n C dL_law_287 rfl ?_
          refine j_callSH C (w_fill_r l E A (rr := -1) (f_fill_m l E A hi hy hw hz_i)) ok_L_fill w_399 (by decide) rfl rfl (Nat.le_of_ble_eq_true rfl) ⟨by omega, by omega⟩ dL_law_288 (fun _ _ h => ?_)
          obtain ⟨rfl, rfl⟩ := h
          refine j_istore (lv' := [(5, .int (nI 0)), (4, .int (nI (5 * q))), (3, .ref ot), (2, .ref mo), (1, .ref dk), (0, .ref bs)]) C dL_law_291 (by decide) rfl ?_
          refine j_aload_n C dL_law_293 rfl ?_
          refine j_aload_n C dL_law_294 rfl ?_
          refine j_iload C dL_law_295 rfl ?_
          refine j_iconst (v := (nI 1)) C dL_law_297 rfl ?_
          refine j_iadd (z := (nI (5 * q + 1))) C dL_law_298 (nI_add _ _) ?_
          refine j_sld (z := (nI i)) C hX hbl hbA (5 * q + 1) rfl (by omega) (by omega) es1 dL_law_299 ?_
          refine j_aload_n C dL_law_300 rfl ?_
          refine j_iload C dL_law_301 rfl ?_
          refine j_iconst (v := (nI 2)) C dL_law_303 rfl ?_
          refine j_iadd (z := (nI (5 * q + 2))) C dL_law_304 (nI_add _ _) ?_
          refine j_sld (z := (nI y)) C hX hbl hbA (5 * q + 2) rfl (by omega) (by omega) es2 dL_law_305 ?_
          refine j_aload_n C dL_law_306 rfl ?_
          refine j_iload C dL_law_307 rfl ?_
          refine j_iconst (v := (nI 3)) C dL_law_309 rfl ?_
          refine j_iadd (z := (nI (5 * q + 3))) C dL_law_310 (nI_add _ _) ?_
          refine j_sld (z := (nI w)) C hX hbl hbA (5 * q + 3) rfl (by omega) (by omega) es3 dL_law_311 ?_
          refine j_callV C (q0 := 6) (g_fill_m l E A hi hr_i hy hw) ok_X5_fill w_977 (by decide) rfl rfl (Nat.le_of_ble_eq_true rfl) rfl rfl ⟨by omega, by omega⟩ dL_law_312 (fun _ _ h => h.elim) (fun _ _ h => ?_)
          obtain ⟨qa, hq, rfl, rfl⟩ := h
          refine j_istore (lv' := [(6, .int (-1)), (5, .int (nI 0)), (4, .int (nI (5 * q))), (3, .ref ot), (2, .ref mo), (1, .ref dk), (0, .ref bs)]) C dL_law_315 (by decide) rfl ?_
          refine j_goto (tgt := 1674) C dL_law_317 (by decide) ?_
          refine j_lv (lv' := [(4, .int (nI (5 * q))), (3, .ref ot), (2, .ref mo), (1, .ref dk), (0, .ref bs)]) (by simp only [List.mem_cons, List.not_mem_nil, or_false, forall_eq_or_imp, forall_eq, true_or, or_true, and_self, Nat.add_zero]) ?_
          refine j_widen (k := cs + 600) (n := sl + 10000) (by omega) (by omega) ?_
          exact kk _ _ _ _ _ _ _ _ _ _ _ _ _ (hR.fill hi hy hw hq)
        · skip
          refine j_aload_n C dL_law_268 rfl ?_
          refine j_aload_n C dL_law_269 rfl ?_
          refine j_iload C dL_law_270 rfl ?_
          refine j_iconst (v := (nI 1)) C dL_law_272 rfl ?_
          refine j_iadd (z := (nI (5 * q + 1))) C dL_law_273 (nI_add _ _) ?_
          refine j_sld (z := (nI i)) C hX hbl hbA (5 * q + 1) rfl (by omega) (by omega) es1 dL_law_274 ?_
          refine j_aload_n C dL_law_275 rfl ?_
          refine j_iload C dL_law_276 rfl ?_
          refine j_iconst (v := (nI 2)) C dL_law_278 rfl ?_
          refine j_iadd (z := (nI (5 * q + 2))) C dL_law_279 (nI_add _ _) ?_
          refine j_sld (z := (nI y)) C hX hbl hbA (5 * q + 2) rfl (by omega) (by omega) es2 dL_law_280 ?_
          refine j_aload_n C dL_law_281 rfl ?_
          refine j_iload C dL_law_282 rfl ?_
          refine j_iconst (v := (nI 3)) C dL_law_284 rfl ?_
          refine j_iadd (z := (nI (5 * q + 3))) C dL_law_285 (nI_add _ _) ?_
          refine j_sld (z := (nI w)) C hX hbl hbA (5 * q + 3) rfl (by omega) (by omega) es3 dL_law_286 ?_
          refine j_aload_n C dL_law_287 rfl ?_
          refine j_callSH C (w_fill_r l E A (rr := nI n_i) (f_fill_k l E A hi hy hw hn_i hz_i)) ok_L_fill w_399 (by decide) rfl rfl (Nat.le_of_ble_eq_true rfl) ⟨by omega, by omega⟩ dL_law_288 (fun _ _ h => ?_)
          obtain ⟨rfl, rfl⟩ := h
          refine j_istore (lv' := [(5, .int (nI 0)), (4, .int (nI (5 * q))), (3, .ref ot), (2, .ref mo), (1, .ref dk), (0, .ref bs)]) C dL_law_291 (by decide) rfl ?_
          refine j_aload_n C dL_law_293 rfl ?_
          refine j_aload_n C dL_law_294 rfl ?_
          refine j_iload C dL_law_295 rfl ?_
          refine j_iconst (v := (nI 1)) C dL_law_297 rfl ?_
          refine j_iadd (z := (nI (5 * q + 1))) C dL_law_298 (nI_add _ _) ?_
          refine j_sld (z := (nI i)) C hX hbl hbA (5 * q + 1) rfl (by omega) (by omega) es1 dL_law_299 ?_
          refine j_aload_n C dL_law_300 rfl ?_
          refine j_iload C dL_law_301 rfl ?_
          refine j_iconst (v := (nI 2)) C dL_law_303 rfl ?_
          refine j_iadd (z := (nI (5 * q + 2))) C dL_law_304 (nI_add _ _) ?_
          refine j_sld (z := (nI y)) C hX hbl hbA (5 * q + 2) rfl (by omega) (by omega) es2 dL_law_305 ?_
          refine j_aload_n C dL_law_306 rfl ?_
          refine j_iload C dL_law_307 rfl ?_
          refine j_iconst (v := (nI 3)) C dL_law_309 rfl ?_
          refine j_iadd (z := (nI (5 * q + 3))) C dL_law_310 (nI_add _ _) ?_
          refine j_sld (z := (nI w)) C hX hbl hbA (5 * q + 3) rfl (by omega) (by omega) es3 dL_law_311 ?_
          refine j_callV C (q0 := 6) (g_fill_k l E A hi hr_i hm_i hf_i hn_i hy hw) ok_X5_fill w_977 (by decide) rfl rfl (Nat.le_of_ble_eq_true rfl) rfl rfl ⟨by omega, by omega⟩ dL_law_312 (fun _ _ h => h.elim) (fun _ _ h => ?_)
          obtain ⟨qa, hq, rfl, rfl⟩ := h
          refine j_istore (lv' := [(6, .int (nI n_i)), (5, .int (nI 0)), (4, .int (nI (5 * q))), (3, .ref ot), (2, .ref mo), (1, .ref dk), (0, .ref bs)]) C dL_law_315 (by decide) rfl ?_
          refine j_goto (tgt := 1674) C dL_law_317 (by decide) ?_
          refine j_lv (lv' := [(4, .int (nI (5 * q))), (3, .ref ot), (2, .ref mo), (1, .ref dk), (0, .ref bs)]) (by simp only [List.mem_cons, List.not_mem_nil, or_false, forall_eq_or_imp, forall_eq, true_or, or_true, and_self, Nat.add_zero]) ?_
          refine j_widen (k := cs + 600) (n := sl + 10000) (by omega) (by omega) ?_
          exact kk _ _ _ _ _ _ _ _ _ _ _ _ _ (hR.fill hi hy hw hq)
      · skip
        refine j_aload_n C dL_law_268 rfl ?_
        refine j_aload_n C dL_law_269 rfl ?_
        refine j_iload C dL_law_270 rfl ?_
        refine j_iconst (v := (nI 1)) C dL_law_272 rfl ?_
        refine j_iadd (z := (nI (5 * q + 1))) C dL_law_273 (nI_add _ _) ?_
        refine j_sld (z := (nI i)) C hX hbl hbA (5 * q + 1) rfl (by omega) (by omega) es1 dL_law_274 ?_
        refine j_aload_n C dL_law_275 rfl ?_
        refine j_iload C dL_law_276 rfl ?_
        refine j_iconst (v := (nI 2)) C dL_law_278 rfl ?_
        refine j_iadd (z := (nI (5 * q + 2))) C dL_law_279 (nI_add _ _) ?_
        refine j_sld (z := (nI y)) C hX hbl hbA (5 * q + 2) rfl (by omega) (by omega) es2 dL_law_280 ?_
        refine j_aload_n C dL_law_281 rfl ?_
        refine j_iload C dL_law_282 rfl ?_
        refine j_iconst (v := (nI 3)) C dL_law_284 rfl ?_
        refine j_iadd (z := (nI (5 * q + 3))) C dL_law_285 (nI_add _ _) ?_
        refine j_sld (z := x3) C hX hbl hbA (5 * q + 3) rfl (by omega) (by omega) es3 dL_law_286 ?_
        refine j_aload_n C dL_law_287 rfl ?_
        refine j_callSH C (w_fill_jIA l E A (f_fill_a2 l hl E A hi hy hbx3)) ok_L_fill w_399 (by decide) rfl rfl (Nat.le_of_ble_eq_true rfl) ⟨by omega, by omega⟩ dL_law_288 (fun _ _ h => ?_)
        obtain ⟨rfl, rfl⟩ := h
        refine j_istore (lv' := [(5, .int (nI 2)), (4, .int (nI (5 * q))), (3, .ref ot), (2, .ref mo), (1, .ref dk), (0, .ref bs)]) C dL_law_291 (by decide) rfl ?_
        refine j_aload_n C dL_law_293 rfl ?_
        refine j_aload_n C dL_law_294 rfl ?_
        refine j_iload C dL_law_295 rfl ?_
        refine j_iconst (v := (nI 1)) C dL_law_297 rfl ?_
        refine j_iadd (z := (nI (5 * q + 1))) C dL_law_298 (nI_add _ _) ?_
        refine j_sld (z := (nI i)) C hX hbl hbA (5 * q + 1) rfl (by omega) (by omega) es1 dL_law_299 ?_
        refine j_aload_n C dL_law_300 rfl ?_
        refine j_iload C dL_law_301 rfl ?_
        refine j_iconst (v := (nI 2)) C dL_law_303 rfl ?_
        refine j_iadd (z := (nI (5 * q + 2))) C dL_law_304 (nI_add _ _) ?_
        refine j_sld (z := (nI y)) C hX hbl hbA (5 * q + 2) rfl (by omega) (by omega) es2 dL_law_305 ?_
        refine j_aload_n C dL_law_306 rfl ?_
        refine j_iload C dL_law_307 rfl ?_
        refine j_iconst (v := (nI 3)) C dL_law_309 rfl ?_
        refine j_iadd (z := (nI (5 * q + 3))) C dL_law_310 (nI_add _ _) ?_
        refine j_sld (z := x3) C hX hbl hbA (5 * q + 3) rfl (by omega) (by omega) es3 dL_law_311 ?_
        refine j_callVr C 6 (v := .int (nI 0)) (w := (gW E t sz sg la dk ot mo ou z g b cr ca cg ck on os (nI 2) cr ca cg ck ro LL ff)) (g_fill_a2 l E A hi hy hbx3) ok_X5_fill w_977 (by decide) rfl rfl (Nat.le_of_ble_eq_true rfl) rfl rfl ⟨by omega, by omega⟩ dL_law_312 ?_
        refine j_istore (lv' := [(6, .int (nI 0)), (5, .int (nI 2)), (4, .int (nI (5 * q))), (3, .ref ot), (2, .ref mo), (1, .ref dk), (0, .ref bs)]) C dL_law_315 (by decide) rfl ?_
        refine j_goto (tgt := 1674) C dL_law_317 (by decide) ?_
        refine j_lv (lv' := [(4, .int (nI (5 * q))), (3, .ref ot), (2, .ref mo), (1, .ref dk), (0, .ref bs)]) (by simp only [List.mem_cons, List.not_mem_nil, or_false, forall_eq_or_imp, forall_eq, true_or, or_true, and_self, Nat.add_zero]) ?_
        refine j_widen (k := cs + 600) (n := sl + 10000) (by omega) (by omega) ?_
        exact kk _ _ _ _ _ _ _ _ _ _ _ _ _ (hR)
    · skip
      refine j_aload_n C dL_law_268 rfl ?_
      refine j_aload_n C dL_law_269 rfl ?_
      refine j_iload C dL_law_270 rfl ?_
      refine j_iconst (v := (nI 1)) C dL_law_272 rfl ?_
      refine j_iadd (z := (nI (5 * q + 1))) C dL_law_273 (nI_add _ _) ?_
      refine j_sld (z := (nI i)) C hX hbl hbA (5 * q + 1) rfl (by omega) (by omega) es1 dL_law_274 ?_
      refine j_aload_n C dL_law_275 rfl ?_
      refine j_iload C dL_law_276 rfl ?_
      refine j_iconst (v := (nI 2)) C dL_law_278 rfl ?_
      refine j_iadd (z := (nI (5 * q + 2))) C dL_law_279 (nI_add _ _) ?_
      refine j_sld (z := x2) C hX hbl hbA (5 * q + 2) rfl (by omega) (by omega) es2 dL_law_280 ?_
      refine j_aload_n C dL_law_281 rfl ?_
      refine j_iload C dL_law_282 rfl ?_
      refine j_iconst (v := (nI 3)) C dL_law_284 rfl ?_
      refine j_iadd (z := (nI (5 * q + 3))) C dL_law_285 (nI_add _ _) ?_
      refine j_sld (z := x3) C hX hbl hbA (5 * q + 3) rfl (by omega) (by omega) es3 dL_law_286 ?_
      refine j_aload_n C dL_law_287 rfl ?_
      refine j_callSH C (w_fill_jIA l E A (f_fill_a1 l hl E A hi hbx2)) ok_L_fill w_399 (by decide) rfl rfl (Nat.le_of_ble_eq_true rfl) ⟨by omega, by omega⟩ dL_law_288 (fun _ _ h => ?_)
      obtain ⟨rfl, rfl⟩ := h
      refine j_istore (lv' := [(5, .int (nI 2)), (4, .int (nI (5 * q))), (3, .ref ot), (2, .ref mo), (1, .ref dk), (0, .ref bs)]) C dL_law_291 (by decide) rfl ?_
      refine j_aload_n C dL_law_293 rfl ?_
      refine j_aload_n C dL_law_294 rfl ?_
      refine j_iload C dL_law_295 rfl ?_
      refine j_iconst (v := (nI 1)) C dL_law_297 rfl ?_
      refine j_iadd (z := (nI (5 * q + 1))) C dL_law_298 (nI_add _ _) ?_
      refine j_sld (z := (nI i)) C hX hbl hbA (5 * q + 1) rfl (by omega) (by omega) es1 dL_law_299 ?_
      refine j_aload_n C dL_law_300 rfl ?_
      refine j_iload C dL_law_301 rfl ?_
      refine j_iconst (v := (nI 2)) C dL_law_303 rfl ?_
      refine j_iadd (z := (nI (5 * q + 2))) C dL_law_304 (nI_add _ _) ?_
      refine j_sld (z := x2) C hX hbl hbA (5 * q + 2) rfl (by omega) (by omega) es2 dL_law_305 ?_
      refine j_aload_n C dL_law_306 rfl ?_
      refine j_iload C dL_law_307 rfl ?_
      refine j_iconst (v := (nI 3)) C dL_law_309 rfl ?_
      refine j_iadd (z := (nI (5 * q + 3))) C dL_law_310 (nI_add _ _) ?_
      refine j_sld (z := x3) C hX hbl hbA (5 * q + 3) rfl (by omega) (by omega) es3 dL_law_311 ?_
      refine j_callVr C 6 (v := .int (nI 0)) (w := (gW E t sz sg la dk ot mo ou z g b cr ca cg ck on os (nI 2) cr ca cg ck ro LL ff)) (g_fill_a1 l E A hi hbx2) ok_X5_fill w_977 (by decide) rfl rfl (Nat.le_of_ble_eq_true rfl) rfl rfl ⟨by omega, by omega⟩ dL_law_312 ?_
      refine j_istore (lv' := [(6, .int (nI 0)), (5, .int (nI 2)), (4, .int (nI (5 * q))), (3, .ref ot), (2, .ref mo), (1, .ref dk), (0, .ref bs)]) C dL_law_315 (by decide) rfl ?_
      refine j_goto (tgt := 1674) C dL_law_317 (by decide) ?_
      refine j_lv (lv' := [(4, .int (nI (5 * q))), (3, .ref ot), (2, .ref mo), (1, .ref dk), (0, .ref bs)]) (by simp only [List.mem_cons, List.not_mem_nil, or_false, forall_eq_or_imp, forall_eq, true_or, or_true, and_self, Nat.add_zero]) ?_
      refine j_widen (k := cs + 600) (n := sl + 10000) (by omega) (by omega) ?_
      exact kk _ _ _ _ _ _ _ _ _ _ _ _ _ (hR)
  · skip
    refine j_aload_n C dL_law_268 rfl ?_
    refine j_aload_n C dL_law_269 rfl ?_
    refine j_iload C dL_law_270 rfl ?_
    refine j_iconst (v := (nI 1)) C dL_law_272 rfl ?_
    refine j_iadd (z := (nI (5 * q + 1))) C dL_law_273 (nI_add _ _) ?_
    refine j_sld (z := x1) C hX hbl hbA (5 * q + 1) rfl (by omega) (by omega) es1 dL_law_274 ?_
    refine j_aload_n C dL_law_275 rfl ?_
    refine j_iload C dL_law_276 rfl ?_
    refine j_iconst (v := (nI 2)) C dL_law_278 rfl ?_
    refine j_iadd (z := (nI (5 * q + 2))) C dL_law_279 (nI_add _ _) ?_
    refine j_sld (z := x2) C hX hbl hbA (5 * q + 2) rfl (by omega) (by omega) es2 dL_law_280 ?_
    refine j_aload_n C dL_law_281 rfl ?_
    refine j_iload C dL_law_282 rfl ?_
    refine j_iconst (v := (nI 3)) C dL_law_284 rfl ?_
    refine j_iadd (z := (nI (5 * q + 3))) C dL_law_285 (nI_add _ _) ?_
    refine j_sld (z := x3) C hX hbl hbA (5 * q + 3) rfl (by omega) (by omega) es3 dL_law_286 ?_
    refine j_aload_n C dL_law_287 rfl ?_
    refine j_callSH C (w_fill_jIO l E A (f_fill_b l hl E A hbx1)) ok_L_fill w_399 (by decide) rfl rfl (Nat.le_of_ble_eq_true rfl) ⟨by omega, by omega⟩ dL_law_288 (fun _ _ h => ?_)
    obtain ⟨rfl, rfl⟩ := h
    refine j_istore (lv' := [(5, .int (nI 1)), (4, .int (nI (5 * q))), (3, .ref ot), (2, .ref mo), (1, .ref dk), (0, .ref bs)]) C dL_law_291 (by decide) rfl ?_
    refine j_aload_n C dL_law_293 rfl ?_
    refine j_aload_n C dL_law_294 rfl ?_
    refine j_iload C dL_law_295 rfl ?_
    refine j_iconst (v := (nI 1)) C dL_law_297 rfl ?_
    refine j_iadd (z := (nI (5 * q + 1))) C dL_law_298 (nI_add _ _) ?_
    refine j_sld (z := x1) C hX hbl hbA (5 * q + 1) rfl (by omega) (by omega) es1 dL_law_299 ?_
    refine j_aload_n C dL_law_300 rfl ?_
    refine j_iload C dL_law_301 rfl ?_
    refine j_iconst (v := (nI 2)) C dL_law_303 rfl ?_
    refine j_iadd (z := (nI (5 * q + 2))) C dL_law_304 (nI_add _ _) ?_
    refine j_sld (z := x2) C hX hbl hbA (5 * q + 2) rfl (by omega) (by omega) es2 dL_law_305 ?_
    refine j_aload_n C dL_law_306 rfl ?_
    refine j_iload C dL_law_307 rfl ?_
    refine j_iconst (v := (nI 3)) C dL_law_309 rfl ?_
    refine j_iadd (z := (nI (5 * q + 3))) C dL_law_310 (nI_add _ _) ?_
    refine j_sld (z := x3) C hX hbl hbA (5 * q + 3) rfl (by omega) (by omega) es3 dL_law_311 ?_
    refine j_callVr C 6 (v := .int (nI 0)) (w := (gW E t sz sg la dk ot mo ou z g b cr ca cg ck on os (nI 1) cr ca cg ck ro LL ff)) (g_fill_b l E A hbx1) ok_X5_fill w_977 (by decide) rfl rfl (Nat.le_of_ble_eq_true rfl) rfl rfl ⟨by omega, by omega⟩ dL_law_312 ?_
    refine j_istore (lv' := [(6, .int (nI 0)), (5, .int (nI 1)), (4, .int (nI (5 * q))), (3, .ref ot), (2, .ref mo), (1, .ref dk), (0, .ref bs)]) C dL_law_315 (by decide) rfl ?_
    refine j_goto (tgt := 1674) C dL_law_317 (by decide) ?_
    refine j_lv (lv' := [(4, .int (nI (5 * q))), (3, .ref ot), (2, .ref mo), (1, .ref dk), (0, .ref bs)]) (by simp only [List.mem_cons, List.not_mem_nil, or_false, forall_eq_or_imp, forall_eq, true_or, or_true, and_self, Nat.add_zero]) ?_
    refine j_widen (k := cs + 600) (n := sl + 10000) (by omega) (by omega) ?_
    exact kk _ _ _ _ _ _ _ _ _ _ _ _ _ (hR)
set_option maxHeartbeats 4000000 in
set_option maxRecDepth 100000 in
theorem op_cut (l : Launch) (hl : l.stackTraces = false) (E : jE) (A : Nat → Prop) {t sz sg la dk ot mo ou : Nat} {z g b : Nat → Int32} {cr ca cg ck : Int32} {on : Int64} {os : Value} {th : Int32} {ro : Nat → Option Nat} {LL : List Nat} {ff : Nat → va_E} {p : Program} {e : Env} {R : Room} {s : State} {m : MethodId} {args : Array Value} {below : List Frame} {meth : Method} {c : Code} {Q : State → Prop} {nn mc ms bs Ln q cs sl : Nat} {xs : Nat → Int32} {x1 x2 x3 x4 : Int32} (C : jC p l e R s m args below meth c x code 7 ret 2000 mc ms E A) (hX : va_X bs Ln xs s s.heap) (hbl : bs < s.heap.size) (hbA : ¬ A bs) (hLn : Ln ≤ 2560) (hq : 5 * q + 5 ≤ Ln) (hmc : cs + 600 ≤ mc) (hms : sl + 10000 ≤ ms) (es1 : xs (5 * q + 1) = x1) (es2 : xs (5 * q + 2) = x2) (es3 : xs (5 * q + 3) = x3) (es4 : xs (5 * q + 4) = x4) (hR : Rel E z g ro LL ff) (kk : ∀ (z' g' b' : Nat → Int32) (cr' ca' cg' ck' : Int32) (on' : Int64) (os' : Value) (th' : Int32) (ro' : Nat → Option Nat) (L' : List Nat) (f' : Nat → va_E), Rel E z' g' ro' L' f' → jJ p l e R s m args below meth c E A 7 Q (cs + 600) (sl + 10000) 1674 [(4, .int (nI (5 * q))), (3, .ref ot), (2, .ref mo), (1, .ref dk), (0, .ref bs)] [] (gW E t sz sg la dk ot mo ou (z') (g') (b') (cr') (ca') (cg') (ck') (on') (os') (th') (cr') (ca') (cg') (ck') (ro') (L') (f'))) : jJ p l e R s m args below meth c E A 7 Q cs sl 320 [(4, .int (nI (5 * q))), (3, .ref ot), (2, .ref mo), (1, .ref dk), (0, .ref bs)] [] (gW E t sz sg la dk ot mo ou z g b cr ca cg ck on os th cr ca cg ck ro LL ff) := by
  have hT := hR.tx
  rcases seat_cases x1 9 (by decide) with ⟨i, hi, rfl⟩ | hbx1
  · skip
    rcases hR.1 i (by omega) with ⟨hz_i, hr_i⟩ | ⟨a_i, n_i, h_i, hn_i, hz_i, hr_i, hm_i, hf_i, hs_i⟩
    · skip
      refine j_aload_n C dL_law_320 rfl ?_
      refine j_aload_n C dL_law_321 rfl ?_
      refine j_iload C dL_law_322 rfl ?_
      refine j_iconst (v := (nI 1)) C dL_law_324 rfl ?_
      refine j_iadd (z := (nI (5 * q + 1))) C dL_law_325 (nI_add _ _) ?_
      refine j_sld (z := (nI i)) C hX hbl hbA (5 * q + 1) rfl (by omega) (by omega) es1 dL_law_326 ?_
      refine j_aload_n C dL_law_327 rfl ?_
      refine j_iload C dL_law_328 rfl ?_
      refine j_iconst (v := (nI 2)) C dL_law_330 rfl ?_
      refine j_iadd (z := (nI (5 * q + 2))) C dL_law_331 (nI_add _ _) ?_
      refine j_sld (z := x2) C hX hbl hbA (5 * q + 2) rfl (by omega) (by omega) es2 dL_law_332 ?_
      refine j_aload_n C dL_law_333 rfl ?_
      refine j_iload C dL_law_334 rfl ?_
      refine j_iconst (v := (nI 3)) C dL_law_336 rfl ?_
      refine j_iadd (z := (nI (5 * q + 3))) C dL_law_337 (nI_add _ _) ?_
      refine j_sld (z := x3) C hX hbl hbA (5 * q + 3) rfl (by omega) (by omega) es3 dL_law_338 ?_
      refine j_aload_n C dL_law_339 rfl ?_
      refine j_callSH C (w_cut_jIS l E A (f_cut_m l hl E A hi hz_i)) ok_L_cut w_414 (by decide) rfl rfl (Nat.le_of_ble_eq_true rfl) ⟨by omega, by omega⟩ dL_law_340 (fun _ _ h => ?_)
      obtain ⟨rfl, rfl⟩ := h
      refine j_istore (lv' := [(5, .int (nI 2)), (4, .int (nI (5 * q))), (3, .ref ot), (2, .ref mo), (1, .ref dk), (0, .ref bs)]) C dL_law_343 (by decide) rfl ?_
      refine j_aload_n C dL_law_345 rfl ?_
      refine j_aload_n C dL_law_346 rfl ?_
      refine j_iload C dL_law_347 rfl ?_
      refine j_iconst (v := (nI 1)) C dL_law_349 rfl ?_
      refine j_iadd (z := (nI (5 * q + 1))) C dL_law_350 (nI_add _ _) ?_
      refine j_sld (z := (nI i)) C hX hbl hbA (5 * q + 1) rfl (by omega) (by omega) es1 dL_law_351 ?_
      refine j_aload_n C dL_law_352 rfl ?_
      refine j_iload C dL_law_353 rfl ?_
      refine j_iconst (v := (nI 2)) C dL_law_355 rfl ?_
      refine j_iadd (z := (nI (5 * q + 2))) C dL_law_356 (nI_add _ _) ?_
      refine j_sld (z := x2) C hX hbl hbA (5 * q + 2) rfl (by omega) (by omega) es2 dL_law_357 ?_
      refine j_aload_n C dL_law_358 rfl ?_
      refine j_iload C dL_law_359 rfl ?_
      refine j_iconst (v := (nI 3)) C dL_law_361 rfl ?_
      refine j_iadd (z := (nI (5 * q + 3))) C dL_law_362 (nI_add _ _) ?_
      refine j_sld (z := x3) C hX hbl hbA (5 * q + 3) rfl (by omega) (by omega) es3 dL_law_363 ?_
      refine j_callVr C 6 (v := .int (nI 0)) (w := (gW E t sz sg la dk ot mo ou z g b cr ca cg ck on os (nI 2) cr ca cg ck ro LL ff)) (g_cut_m l E A hi hr_i) ok_X5_cut w_981 (by decide) rfl rfl (Nat.le_of_ble_eq_true rfl) rfl rfl ⟨by omega, by omega⟩ dL_law_364 ?_
      refine j_istore (lv' := [(6, .int (nI 0)), (5, .int (nI 2)), (4, .int (nI (5 * q))), (3, .ref ot), (2, .ref mo), (1, .ref dk), (0, .ref bs)]) C dL_law_367 (by decide) rfl ?_
      refine j_goto (tgt := 1674) C dL_law_369 (by decide) ?_
      refine j_lv (lv' := [(4, .int (nI (5 * q))), (3, .ref ot), (2, .ref mo), (1, .ref dk), (0, .ref bs)]) (by simp only [List.mem_cons, List.not_mem_nil, or_false, forall_eq_or_imp, forall_eq, true_or, or_true, and_self, Nat.add_zero]) ?_
      refine j_widen (k := cs + 600) (n := sl + 10000) (by omega) (by omega) ?_
      exact kk _ _ _ _ _ _ _ _ _ _ _ _ _ (hR)
    · skip
      rcases cut_cases x2 x3 hn_i with ⟨a, v, hav, hvn, rfl, rfl⟩ | ho
      · skip
        refine j_aload_n C dL_law_320 rfl ?_
        refine j_aload_n C dL_law_321 rfl ?_
        refine j_iload C dL_law_322 rfl ?_
        refine j_iconst (v := (nI 1)) C dL_law_324 rfl ?_
        refine j_iadd (z := (nI (5 * q + 1))) C dL_law_325 (nI_add _ _) ?_
        refine j_sld (z := (nI i)) C hX hbl hbA (5 * q + 1) rfl (by omega) (by omega) es1 dL_law_326 ?_
        refine j_aload_n C dL_law_327 rfl ?_
        refine j_iload C dL_law_328 rfl ?_
        refine j_iconst (v := (nI 2)) C dL_law_330 rfl ?_
        refine j_iadd (z := (nI (5 * q + 2))) C dL_law_331 (nI_add _ _) ?_
        refine j_sld (z := (nI a)) C hX hbl hbA (5 * q + 2) rfl (by omega) (by omega) es2 dL_law_332 ?_
        refine j_aload_n C dL_law_333 rfl ?_
        refine j_iload C dL_law_334 rfl ?_
        refine j_iconst (v := (nI 3)) C dL_law_336 rfl ?_
        refine j_iadd (z := (nI (5 * q + 3))) C dL_law_337 (nI_add _ _) ?_
        refine j_sld (z := (nI v)) C hX hbl hbA (5 * q + 3) rfl (by omega) (by omega) es3 dL_law_338 ?_
        refine j_aload_n C dL_law_339 rfl ?_
        refine j_callSH C (w_cut_r l E A (rr := nI (v - a)) (f_cut_k l E A hi hn_i hz_i hav hvn)) ok_L_cut w_414 (by decide) rfl rfl (Nat.le_of_ble_eq_true rfl) ⟨by omega, by omega⟩ dL_law_340 (fun _ _ h => ?_)
        obtain ⟨rfl, rfl⟩ := h
        refine j_istore (lv' := [(5, .int (nI 0)), (4, .int (nI (5 * q))), (3, .ref ot), (2, .ref mo), (1, .ref dk), (0, .ref bs)]) C dL_law_343 (by decide) rfl ?_
        refine j_aload_n C dL_law_345 rfl ?_
        refine j_aload_n C dL_law_346 rfl ?_
        refine j_iload C dL_law_347 rfl ?_
        refine j_iconst (v := (nI 1)) C dL_law_349 rfl ?_
        refine j_iadd (z := (nI (5 * q + 1))) C dL_law_350 (nI_add _ _) ?_
        refine j_sld (z := (nI i)) C hX hbl hbA (5 * q + 1) rfl (by omega) (by omega) es1 dL_law_351 ?_
        refine j_aload_n C dL_law_352 rfl ?_
        refine j_iload C dL_law_353 rfl ?_
        refine j_iconst (v := (nI 2)) C dL_law_355 rfl ?_
        refine j_iadd (z := (nI (5 * q + 2))) C dL_law_356 (nI_add _ _) ?_
        refine j_sld (z := (nI a)) C hX hbl hbA (5 * q + 2) rfl (by omega) (by omega) es2 dL_law_357 ?_
        refine j_aload_n C dL_law_358 rfl ?_
        refine j_iload C dL_law_359 rfl ?_
        refine j_iconst (v := (nI 3)) C dL_law_361 rfl ?_
        refine j_iadd (z := (nI (5 * q + 3))) C dL_law_362 (nI_add _ _) ?_
        refine j_sld (z := (nI v)) C hX hbl hbA (5 * q + 3) rfl (by omega) (by omega) es3 dL_law_363 ?_
        refine j_callV C (q0 := 6) (g_cut_k l E A hi hr_i hm_i hf_i hn_i hav hvn) ok_X5_cut w_981 (by decide) rfl rfl (Nat.le_of_ble_eq_true rfl) rfl rfl ⟨by omega, by omega⟩ dL_law_364 (fun _ _ h => h.elim) (fun _ _ h => ?_)
        obtain ⟨qa, hq, rfl, rfl⟩ := h
        refine j_istore (lv' := [(6, .int (nI (v - a))), (5, .int (nI 0)), (4, .int (nI (5 * q))), (3, .ref ot), (2, .ref mo), (1, .ref dk), (0, .ref bs)]) C dL_law_367 (by decide) rfl ?_
        refine j_goto (tgt := 1674) C dL_law_369 (by decide) ?_
        refine j_lv (lv' := [(4, .int (nI (5 * q))), (3, .ref ot), (2, .ref mo), (1, .ref dk), (0, .ref bs)]) (by simp only [List.mem_cons, List.not_mem_nil, or_false, forall_eq_or_imp, forall_eq, true_or, or_true, and_self, Nat.add_zero]) ?_
        refine j_widen (k := cs + 600) (n := sl + 10000) (by omega) (by omega) ?_
        exact kk _ _ _ _ _ _ _ _ _ _ _ _ _ (hR.keep hi hn_i hs_i hav hvn hq)
      · skip
        refine j_aload_n C dL_law_320 rfl ?_
        refine j_aload_n C dL_law_321 rfl ?_
        refine j_iload C dL_law_322 rfl ?_
        refine j_iconst (v := (nI 1)) C dL_law_324 rfl ?_
        refine j_iadd (z := (nI (5 * q + 1))) C dL_law_325 (nI_add _ _) ?_
        refine j_sld (z := (nI i)) C hX hbl hbA (5 * q + 1) rfl (by omega) (by omega) es1 dL_law_326 ?_
        refine j_aload_n C dL_law_327 rfl ?_
        refine j_iload C dL_law_328 rfl ?_
        refine j_iconst (v := (nI 2)) C dL_law_330 rfl ?_
        refine j_iadd (z := (nI (5 * q + 2))) C dL_law_331 (nI_add _ _) ?_
        refine j_sld (z := x2) C hX hbl hbA (5 * q + 2) rfl (by omega) (by omega) es2 dL_law_332 ?_
        refine j_aload_n C dL_law_333 rfl ?_
        refine j_iload C dL_law_334 rfl ?_
        refine j_iconst (v := (nI 3)) C dL_law_336 rfl ?_
        refine j_iadd (z := (nI (5 * q + 3))) C dL_law_337 (nI_add _ _) ?_
        refine j_sld (z := x3) C hX hbl hbA (5 * q + 3) rfl (by omega) (by omega) es3 dL_law_338 ?_
        refine j_aload_n C dL_law_339 rfl ?_
        refine j_callSH C (w_cut_r l E A (rr := -9) (f_cut_o l E A hi hn_i hz_i ho)) ok_L_cut w_414 (by decide) rfl rfl (Nat.le_of_ble_eq_true rfl) ⟨by omega, by omega⟩ dL_law_340 (fun _ _ h => ?_)
        obtain ⟨rfl, rfl⟩ := h
        refine j_istore (lv' := [(5, .int (nI 0)), (4, .int (nI (5 * q))), (3, .ref ot), (2, .ref mo), (1, .ref dk), (0, .ref bs)]) C dL_law_343 (by decide) rfl ?_
        refine j_aload_n C dL_law_345 rfl ?_
        refine j_aload_n C dL_law_346 rfl ?_
        refine j_iload C dL_law_347 rfl ?_
        refine j_iconst (v := (nI 1)) C dL_law_349 rfl ?_
        refine j_iadd (z := (nI (5 * q + 1))) C dL_law_350 (nI_add _ _) ?_
        refine j_sld (z := (nI i)) C hX hbl hbA (5 * q + 1) rfl (by omega) (by omega) es1 dL_law_351 ?_
        refine j_aload_n C dL_law_352 rfl ?_
        refine j_iload C dL_law_353 rfl ?_
        refine j_iconst (v := (nI 2)) C dL_law_355 rfl ?_
        refine j_iadd (z := (nI (5 * q + 2))) C dL_law_356 (nI_add _ _) ?_
        refine j_sld (z := x2) C hX hbl hbA (5 * q + 2) rfl (by omega) (by omega) es2 dL_law_357 ?_
        refine j_aload_n C dL_law_358 rfl ?_
        refine j_iload C dL_law_359 rfl ?_
        refine j_iconst (v := (nI 3)) C dL_law_361 rfl ?_
        refine j_iadd (z := (nI (5 * q + 3))) C dL_law_362 (nI_add _ _) ?_
        refine j_sld (z := x3) C hX hbl hbA (5 * q + 3) rfl (by omega) (by omega) es3 dL_law_363 ?_
        refine j_callVr C 6 (v := .int (-9)) (w := (gW E t sz sg la dk ot mo ou z g b (cr + nI 1) ca cg ck ((-9).toInt64) os (nI 0) (cr + nI 1) ca cg ck ro LL ff)) (g_cut_o l E A hi hr_i hm_i hf_i hn_i ho) ok_X5_cut w_981 (by decide) rfl rfl (Nat.le_of_ble_eq_true rfl) rfl rfl ⟨by omega, by omega⟩ dL_law_364 ?_
        refine j_istore (lv' := [(6, .int (-9)), (5, .int (nI 0)), (4, .int (nI (5 * q))), (3, .ref ot), (2, .ref mo), (1, .ref dk), (0, .ref bs)]) C dL_law_367 (by decide) rfl ?_
        refine j_goto (tgt := 1674) C dL_law_369 (by decide) ?_
        refine j_lv (lv' := [(4, .int (nI (5 * q))), (3, .ref ot), (2, .ref mo), (1, .ref dk), (0, .ref bs)]) (by simp only [List.mem_cons, List.not_mem_nil, or_false, forall_eq_or_imp, forall_eq, true_or, or_true, and_self, Nat.add_zero]) ?_
        refine j_widen (k := cs + 600) (n := sl + 10000) (by omega) (by omega) ?_
        exact kk _ _ _ _ _ _ _ _ _ _ _ _ _ (hR)
  · skip
    refine j_aload_n C dL_law_320 rfl ?_
    refine j_aload_n C dL_law_321 rfl ?_
    refine j_iload C dL_law_322 rfl ?_
    refine j_iconst (v := (nI 1)) C dL_law_324 rfl ?_
    refine j_iadd (z := (nI (5 * q + 1))) C dL_law_325 (nI_add _ _) ?_
    refine j_sld (z := x1) C hX hbl hbA (5 * q + 1) rfl (by omega) (by omega) es1 dL_law_326 ?_
    refine j_aload_n C dL_law_327 rfl ?_
    refine j_iload C dL_law_328 rfl ?_
    refine j_iconst (v := (nI 2)) C dL_law_330 rfl ?_
    refine j_iadd (z := (nI (5 * q + 2))) C dL_law_331 (nI_add _ _) ?_
    refine j_sld (z := x2) C hX hbl hbA (5 * q + 2) rfl (by omega) (by omega) es2 dL_law_332 ?_
    refine j_aload_n C dL_law_333 rfl ?_
    refine j_iload C dL_law_334 rfl ?_
    refine j_iconst (v := (nI 3)) C dL_law_336 rfl ?_
    refine j_iadd (z := (nI (5 * q + 3))) C dL_law_337 (nI_add _ _) ?_
    refine j_sld (z := x3) C hX hbl hbA (5 * q + 3) rfl (by omega) (by omega) es3 dL_law_338 ?_
    refine j_aload_n C dL_law_339 rfl ?_
    refine j_callSH C (w_cut_jIO l E A (f_cut_b l hl E A hbx1)) ok_L_cut w_414 (by decide) rfl rfl (Nat.le_of_ble_eq_true rfl) ⟨by omega, by omega⟩ dL_law_340 (fun _ _ h => ?_)
    obtain ⟨rfl, rfl⟩ := h
    refine j_istore (lv' := [(5, .int (nI 1)), (4, .int (nI (5 * q))), (3, .ref ot), (2, .ref mo), (1, .ref dk), (0, .ref bs)]) C dL_law_343 (by decide) rfl ?_
    refine j_aload_n C dL_law_345 rfl ?_
    refine j_aload_n C dL_law_346 rfl ?_
    refine j_iload C dL_law_347 rfl ?_
    refine j_iconst (v := (nI 1)) C dL_law_349 rfl ?_
    refine j_iadd (z := (nI (5 * q + 1))) C dL_law_350 (nI_add _ _) ?_
    refine j_sld (z := x1) C hX hbl hbA (5 * q + 1) rfl (by omega) (by omega) es1 dL_law_351 ?_
    refine j_aload_n C dL_law_352 rfl ?_
    refine j_iload C dL_law_353 rfl ?_
    refine j_iconst (v := (nI 2)) C dL_law_355 rfl ?_
    refine j_iadd (z := (nI (5 * q + 2))) C dL_law_356 (nI_add _ _) ?_
    refine j_sld (z := x2) C hX hbl hbA (5 * q + 2) rfl (by omega) (by omega) es2 dL_law_357 ?_
    refine j_aload_n C dL_law_358 rfl ?_
    refine j_iload C dL_law_359 rfl ?_
    refine j_iconst (v := (nI 3)) C dL_law_361 rfl ?_
    refine j_iadd (z := (nI (5 * q + 3))) C dL_law_362 (nI_add _ _) ?_
    refine j_sld (z := x3) C hX hbl hbA (5 * q + 3) rfl (by omega) (by omega) es3 dL_law_363 ?_
    refine j_callVr C 6 (v := .int (nI 0)) (w := (gW E t sz sg la dk ot mo ou z g b cr ca cg ck on os (nI 1) cr ca cg ck ro LL ff)) (g_cut_b l E A hbx1) ok_X5_cut w_981 (by decide) rfl rfl (Nat.le_of_ble_eq_true rfl) rfl rfl ⟨by omega, by omega⟩ dL_law_364 ?_
    refine j_istore (lv' := [(6, .int (nI 0)), (5, .int (nI 1)), (4, .int (nI (5 * q))), (3, .ref ot), (2, .ref mo), (1, .ref dk), (0, .ref bs)]) C dL_law_367 (by decide) rfl ?_
    refine j_goto (tgt := 1674) C dL_law_369 (by decide) ?_
    refine j_lv (lv' := [(4, .int (nI (5 * q))), (3, .ref ot), (2, .ref mo), (1, .ref dk), (0, .ref bs)]) (by simp only [List.mem_cons, List.not_mem_nil, or_false, forall_eq_or_imp, forall_eq, true_or, or_true, and_self, Nat.add_zero]) ?_
    refine j_widen (k := cs + 600) (n := sl + 10000) (by omega) (by omega) ?_
    exact kk _ _ _ _ _ _ _ _ _ _ _ _ _ (hR)
set_option maxHeartbeats 4000000 in
set_option maxRecDepth 100000 in
theorem op_take (l : Launch) (hl : l.stackTraces = false) (E : jE) (A : Nat → Prop) {t sz sg la dk ot mo ou : Nat} {z g b : Nat → Int32} {cr ca cg ck : Int32} {on : Int64} {os : Value} {th : Int32} {ro : Nat → Option Nat} {LL : List Nat} {ff : Nat → va_E} {p : Program} {e : Env} {R : Room} {s : State} {m : MethodId} {args : Array Value} {below : List Frame} {meth : Method} {c : Code} {Q : State → Prop} {nn mc ms bs Ln q cs sl : Nat} {xs : Nat → Int32} {x1 x2 x3 x4 : Int32} (C : jC p l e R s m args below meth c x code 7 ret 2000 mc ms E A) (hX : va_X bs Ln xs s s.heap) (hbl : bs < s.heap.size) (hbA : ¬ A bs) (hLn : Ln ≤ 2560) (hq : 5 * q + 5 ≤ Ln) (hmc : cs + 600 ≤ mc) (hms : sl + 10000 ≤ ms) (es1 : xs (5 * q + 1) = x1) (es2 : xs (5 * q + 2) = x2) (es3 : xs (5 * q + 3) = x3) (es4 : xs (5 * q + 4) = x4) (hR : Rel E z g ro LL ff) (kk : ∀ (z' g' b' : Nat → Int32) (cr' ca' cg' ck' : Int32) (on' : Int64) (os' : Value) (th' : Int32) (ro' : Nat → Option Nat) (L' : List Nat) (f' : Nat → va_E), Rel E z' g' ro' L' f' → jJ p l e R s m args below meth c E A 7 Q (cs + 600) (sl + 10000) 1674 [(4, .int (nI (5 * q))), (3, .ref ot), (2, .ref mo), (1, .ref dk), (0, .ref bs)] [] (gW E t sz sg la dk ot mo ou (z') (g') (b') (cr') (ca') (cg') (ck') (on') (os') (th') (cr') (ca') (cg') (ck') (ro') (L') (f'))) : jJ p l e R s m args below meth c E A 7 Q cs sl 372 [(4, .int (nI (5 * q))), (3, .ref ot), (2, .ref mo), (1, .ref dk), (0, .ref bs)] [] (gW E t sz sg la dk ot mo ou z g b cr ca cg ck on os th cr ca cg ck ro LL ff) := by
  have hT := hR.tx
  rcases seat_cases x1 9 (by decide) with ⟨i, hi, rfl⟩ | hbx1
  · skip
    rcases hR.1 i (by omega) with ⟨hz_i, hr_i⟩ | ⟨a_i, n_i, h_i, hn_i, hz_i, hr_i, hm_i, hf_i, hs_i⟩
    · skip
      refine j_aload_n C dL_law_372 rfl ?_
      refine j_aload_n C dL_law_373 rfl ?_
      refine j_iload C dL_law_374 rfl ?_
      refine j_iconst (v := (nI 1)) C dL_law_376 rfl ?_
      refine j_iadd (z := (nI (5 * q + 1))) C dL_law_377 (nI_add _ _) ?_
      refine j_sld (z := (nI i)) C hX hbl hbA (5 * q + 1) rfl (by omega) (by omega) es1 dL_law_378 ?_
      refine j_aload_n C dL_law_379 rfl ?_
      refine j_iload C dL_law_380 rfl ?_
      refine j_iconst (v := (nI 2)) C dL_law_382 rfl ?_
      refine j_iadd (z := (nI (5 * q + 2))) C dL_law_383 (nI_add _ _) ?_
      refine j_sld (z := x2) C hX hbl hbA (5 * q + 2) rfl (by omega) (by omega) es2 dL_law_384 ?_
      refine j_aload_n C dL_law_385 rfl ?_
      refine j_iload C dL_law_386 rfl ?_
      refine j_iconst (v := (nI 3)) C dL_law_388 rfl ?_
      refine j_iadd (z := (nI (5 * q + 3))) C dL_law_389 (nI_add _ _) ?_
      refine j_sld (z := x3) C hX hbl hbA (5 * q + 3) rfl (by omega) (by omega) es3 dL_law_390 ?_
      refine j_aload_n C dL_law_391 rfl ?_
      refine j_callSH C (w_take_jIS l E A (f_take_m l hl E A hi hz_i)) ok_L_take w_426 (by decide) rfl rfl (Nat.le_of_ble_eq_true rfl) ⟨by omega, by omega⟩ dL_law_392 (fun _ _ h => ?_)
      obtain ⟨rfl, rfl⟩ := h
      refine j_istore (lv' := [(5, .int (nI 2)), (4, .int (nI (5 * q))), (3, .ref ot), (2, .ref mo), (1, .ref dk), (0, .ref bs)]) C dL_law_395 (by decide) rfl ?_
      refine j_aload_n C dL_law_397 rfl ?_
      refine j_aload_n C dL_law_398 rfl ?_
      refine j_iload C dL_law_399 rfl ?_
      refine j_iconst (v := (nI 1)) C dL_law_401 rfl ?_
      refine j_iadd (z := (nI (5 * q + 1))) C dL_law_402 (nI_add _ _) ?_
      refine j_sld (z := (nI i)) C hX hbl hbA (5 * q + 1) rfl (by omega) (by omega) es1 dL_law_403 ?_
      refine j_aload_n C dL_law_404 rfl ?_
      refine j_iload C dL_law_405 rfl ?_
      refine j_iconst (v := (nI 2)) C dL_law_407 rfl ?_
      refine j_iadd (z := (nI (5 * q + 2))) C dL_law_408 (nI_add _ _) ?_
      refine j_sld (z := x2) C hX hbl hbA (5 * q + 2) rfl (by omega) (by omega) es2 dL_law_409 ?_
      refine j_aload_n C dL_law_410 rfl ?_
      refine j_iload C dL_law_411 rfl ?_
      refine j_iconst (v := (nI 3)) C dL_law_413 rfl ?_
      refine j_iadd (z := (nI (5 * q + 3))) C dL_law_414 (nI_add _ _) ?_
      refine j_sld (z := x3) C hX hbl hbA (5 * q + 3) rfl (by omega) (by omega) es3 dL_law_415 ?_
      refine j_callVr C 6 (v := .int (nI 0)) (w := (gW E t sz sg la dk ot mo ou z g b cr ca cg ck on os (nI 2) cr ca cg ck ro LL ff)) (g_take_m l E A hi hr_i) ok_X5_take w_999 (by decide) rfl rfl (Nat.le_of_ble_eq_true rfl) rfl rfl ⟨by omega, by omega⟩ dL_law_416 ?_
      refine j_istore (lv' := [(6, .int (nI 0)), (5, .int (nI 2)), (4, .int (nI (5 * q))), (3, .ref ot), (2, .ref mo), (1, .ref dk), (0, .ref bs)]) C dL_law_419 (by decide) rfl ?_
      refine j_goto (tgt := 1674) C dL_law_421 (by decide) ?_
      refine j_lv (lv' := [(4, .int (nI (5 * q))), (3, .ref ot), (2, .ref mo), (1, .ref dk), (0, .ref bs)]) (by simp only [List.mem_cons, List.not_mem_nil, or_false, forall_eq_or_imp, forall_eq, true_or, or_true, and_self, Nat.add_zero]) ?_
      refine j_widen (k := cs + 600) (n := sl + 10000) (by omega) (by omega) ?_
      exact kk _ _ _ _ _ _ _ _ _ _ _ _ _ (hR)
    · skip
      rcases take_cases x2 x3 hn_i with ⟨a, v, hav, rfl, rfl⟩ | ho
      · skip
        refine j_aload_n C dL_law_372 rfl ?_
        refine j_aload_n C dL_law_373 rfl ?_
        refine j_iload C dL_law_374 rfl ?_
        refine j_iconst (v := (nI 1)) C dL_law_376 rfl ?_
        refine j_iadd (z := (nI (5 * q + 1))) C dL_law_377 (nI_add _ _) ?_
        refine j_sld (z := (nI i)) C hX hbl hbA (5 * q + 1) rfl (by omega) (by omega) es1 dL_law_378 ?_
        refine j_aload_n C dL_law_379 rfl ?_
        refine j_iload C dL_law_380 rfl ?_
        refine j_iconst (v := (nI 2)) C dL_law_382 rfl ?_
        refine j_iadd (z := (nI (5 * q + 2))) C dL_law_383 (nI_add _ _) ?_
        refine j_sld (z := (nI a)) C hX hbl hbA (5 * q + 2) rfl (by omega) (by omega) es2 dL_law_384 ?_
        refine j_aload_n C dL_law_385 rfl ?_
        refine j_iload C dL_law_386 rfl ?_
        refine j_iconst (v := (nI 3)) C dL_law_388 rfl ?_
        refine j_iadd (z := (nI (5 * q + 3))) C dL_law_389 (nI_add _ _) ?_
        refine j_sld (z := (nI v)) C hX hbl hbA (5 * q + 3) rfl (by omega) (by omega) es3 dL_law_390 ?_
        refine j_aload_n C dL_law_391 rfl ?_
        refine j_callSH C (w_take_r l E A (rr := nI ((a + v) - a)) (f_take_k l E A hi hn_i hz_i hav)) ok_L_take w_426 (by decide) rfl rfl (Nat.le_of_ble_eq_true rfl) ⟨by omega, by omega⟩ dL_law_392 (fun _ _ h => ?_)
        obtain ⟨rfl, rfl⟩ := h
        refine j_istore (lv' := [(5, .int (nI 0)), (4, .int (nI (5 * q))), (3, .ref ot), (2, .ref mo), (1, .ref dk), (0, .ref bs)]) C dL_law_395 (by decide) rfl ?_
        refine j_aload_n C dL_law_397 rfl ?_
        refine j_aload_n C dL_law_398 rfl ?_
        refine j_iload C dL_law_399 rfl ?_
        refine j_iconst (v := (nI 1)) C dL_law_401 rfl ?_
        refine j_iadd (z := (nI (5 * q + 1))) C dL_law_402 (nI_add _ _) ?_
        refine j_sld (z := (nI i)) C hX hbl hbA (5 * q + 1) rfl (by omega) (by omega) es1 dL_law_403 ?_
        refine j_aload_n C dL_law_404 rfl ?_
        refine j_iload C dL_law_405 rfl ?_
        refine j_iconst (v := (nI 2)) C dL_law_407 rfl ?_
        refine j_iadd (z := (nI (5 * q + 2))) C dL_law_408 (nI_add _ _) ?_
        refine j_sld (z := (nI a)) C hX hbl hbA (5 * q + 2) rfl (by omega) (by omega) es2 dL_law_409 ?_
        refine j_aload_n C dL_law_410 rfl ?_
        refine j_iload C dL_law_411 rfl ?_
        refine j_iconst (v := (nI 3)) C dL_law_413 rfl ?_
        refine j_iadd (z := (nI (5 * q + 3))) C dL_law_414 (nI_add _ _) ?_
        refine j_sld (z := (nI v)) C hX hbl hbA (5 * q + 3) rfl (by omega) (by omega) es3 dL_law_415 ?_
        refine j_callV C (q0 := 6) (g_take_k l E A hi hr_i hm_i hf_i hn_i hav) ok_X5_take w_999 (by decide) rfl rfl (Nat.le_of_ble_eq_true rfl) rfl rfl ⟨by omega, by omega⟩ dL_law_416 (fun _ _ h => h.elim) (fun _ _ h => ?_)
        obtain ⟨qa, hq, rfl, rfl⟩ := h
        refine j_istore (lv' := [(6, .int (nI ((a + v) - a))), (5, .int (nI 0)), (4, .int (nI (5 * q))), (3, .ref ot), (2, .ref mo), (1, .ref dk), (0, .ref bs)]) C dL_law_419 (by decide) rfl ?_
        refine j_goto (tgt := 1674) C dL_law_421 (by decide) ?_
        refine j_lv (lv' := [(4, .int (nI (5 * q))), (3, .ref ot), (2, .ref mo), (1, .ref dk), (0, .ref bs)]) (by simp only [List.mem_cons, List.not_mem_nil, or_false, forall_eq_or_imp, forall_eq, true_or, or_true, and_self, Nat.add_zero]) ?_
        refine j_widen (k := cs + 600) (n := sl + 10000) (by omega) (by omega) ?_
        exact kk _ _ _ _ _ _ _ _ _ _ _ _ _ (hR.keep hi hn_i hs_i (by omega) hav hq)
      · skip
        refine j_aload_n C dL_law_372 rfl ?_
        refine j_aload_n C dL_law_373 rfl ?_
        refine j_iload C dL_law_374 rfl ?_
        refine j_iconst (v := (nI 1)) C dL_law_376 rfl ?_
        refine j_iadd (z := (nI (5 * q + 1))) C dL_law_377 (nI_add _ _) ?_
        refine j_sld (z := (nI i)) C hX hbl hbA (5 * q + 1) rfl (by omega) (by omega) es1 dL_law_378 ?_
        refine j_aload_n C dL_law_379 rfl ?_
        refine j_iload C dL_law_380 rfl ?_
        refine j_iconst (v := (nI 2)) C dL_law_382 rfl ?_
        refine j_iadd (z := (nI (5 * q + 2))) C dL_law_383 (nI_add _ _) ?_
        refine j_sld (z := x2) C hX hbl hbA (5 * q + 2) rfl (by omega) (by omega) es2 dL_law_384 ?_
        refine j_aload_n C dL_law_385 rfl ?_
        refine j_iload C dL_law_386 rfl ?_
        refine j_iconst (v := (nI 3)) C dL_law_388 rfl ?_
        refine j_iadd (z := (nI (5 * q + 3))) C dL_law_389 (nI_add _ _) ?_
        refine j_sld (z := x3) C hX hbl hbA (5 * q + 3) rfl (by omega) (by omega) es3 dL_law_390 ?_
        refine j_aload_n C dL_law_391 rfl ?_
        refine j_callSH C (w_take_r l E A (rr := -9) (f_take_o l E A hi hn_i hz_i ho.1)) ok_L_take w_426 (by decide) rfl rfl (Nat.le_of_ble_eq_true rfl) ⟨by omega, by omega⟩ dL_law_392 (fun _ _ h => ?_)
        obtain ⟨rfl, rfl⟩ := h
        refine j_istore (lv' := [(5, .int (nI 0)), (4, .int (nI (5 * q))), (3, .ref ot), (2, .ref mo), (1, .ref dk), (0, .ref bs)]) C dL_law_395 (by decide) rfl ?_
        refine j_aload_n C dL_law_397 rfl ?_
        refine j_aload_n C dL_law_398 rfl ?_
        refine j_iload C dL_law_399 rfl ?_
        refine j_iconst (v := (nI 1)) C dL_law_401 rfl ?_
        refine j_iadd (z := (nI (5 * q + 1))) C dL_law_402 (nI_add _ _) ?_
        refine j_sld (z := (nI i)) C hX hbl hbA (5 * q + 1) rfl (by omega) (by omega) es1 dL_law_403 ?_
        refine j_aload_n C dL_law_404 rfl ?_
        refine j_iload C dL_law_405 rfl ?_
        refine j_iconst (v := (nI 2)) C dL_law_407 rfl ?_
        refine j_iadd (z := (nI (5 * q + 2))) C dL_law_408 (nI_add _ _) ?_
        refine j_sld (z := x2) C hX hbl hbA (5 * q + 2) rfl (by omega) (by omega) es2 dL_law_409 ?_
        refine j_aload_n C dL_law_410 rfl ?_
        refine j_iload C dL_law_411 rfl ?_
        refine j_iconst (v := (nI 3)) C dL_law_413 rfl ?_
        refine j_iadd (z := (nI (5 * q + 3))) C dL_law_414 (nI_add _ _) ?_
        refine j_sld (z := x3) C hX hbl hbA (5 * q + 3) rfl (by omega) (by omega) es3 dL_law_415 ?_
        refine j_callVr C 6 (v := .int (-9)) (w := (gW E t sz sg la dk ot mo ou z g b (cr + nI 1) ca cg ck ((-9).toInt64) os (nI 0) (cr + nI 1) ca cg ck ro LL ff)) (g_take_o l E A hi hr_i hm_i hf_i hn_i ho.2) ok_X5_take w_999 (by decide) rfl rfl (Nat.le_of_ble_eq_true rfl) rfl rfl ⟨by omega, by omega⟩ dL_law_416 ?_
        refine j_istore (lv' := [(6, .int (-9)), (5, .int (nI 0)), (4, .int (nI (5 * q))), (3, .ref ot), (2, .ref mo), (1, .ref dk), (0, .ref bs)]) C dL_law_419 (by decide) rfl ?_
        refine j_goto (tgt := 1674) C dL_law_421 (by decide) ?_
        refine j_lv (lv' := [(4, .int (nI (5 * q))), (3, .ref ot), (2, .ref mo), (1, .ref dk), (0, .ref bs)]) (by simp only [List.mem_cons, List.not_mem_nil, or_false, forall_eq_or_imp, forall_eq, true_or, or_true, and_self, Nat.add_zero]) ?_
        refine j_widen (k := cs + 600) (n := sl + 10000) (by omega) (by omega) ?_
        exact kk _ _ _ _ _ _ _ _ _ _ _ _ _ (hR)
  · skip
    refine j_aload_n C dL_law_372 rfl ?_
    refine j_aload_n C dL_law_373 rfl ?_
    refine j_iload C dL_law_374 rfl ?_
    refine j_iconst (v := (nI 1)) C dL_law_376 rfl ?_
    refine j_iadd (z := (nI (5 * q + 1))) C dL_law_377 (nI_add _ _) ?_
    refine j_sld (z := x1) C hX hbl hbA (5 * q + 1) rfl (by omega) (by omega) es1 dL_law_378 ?_
    refine j_aload_n C dL_law_379 rfl ?_
    refine j_iload C dL_law_380 rfl ?_
    refine j_iconst (v := (nI 2)) C dL_law_382 rfl ?_
    refine j_iadd (z := (nI (5 * q + 2))) C dL_law_383 (nI_add _ _) ?_
    refine j_sld (z := x2) C hX hbl hbA (5 * q + 2) rfl (by omega) (by omega) es2 dL_law_384 ?_
    refine j_aload_n C dL_law_385 rfl ?_
    refine j_iload C dL_law_386 rfl ?_
    refine j_iconst (v := (nI 3)) C dL_law_388 rfl ?_
    refine j_iadd (z := (nI (5 * q + 3))) C dL_law_389 (nI_add _ _) ?_
    refine j_sld (z := x3) C hX hbl hbA (5 * q + 3) rfl (by omega) (by omega) es3 dL_law_390 ?_
    refine j_aload_n C dL_law_391 rfl ?_
    refine j_callSH C (w_take_jIO l E A (f_take_b l hl E A hbx1)) ok_L_take w_426 (by decide) rfl rfl (Nat.le_of_ble_eq_true rfl) ⟨by omega, by omega⟩ dL_law_392 (fun _ _ h => ?_)
    obtain ⟨rfl, rfl⟩ := h
    refine j_istore (lv' := [(5, .int (nI 1)), (4, .int (nI (5 * q))), (3, .ref ot), (2, .ref mo), (1, .ref dk), (0, .ref bs)]) C dL_law_395 (by decide) rfl ?_
    refine j_aload_n C dL_law_397 rfl ?_
    refine j_aload_n C dL_law_398 rfl ?_
    refine j_iload C dL_law_399 rfl ?_
    refine j_iconst (v := (nI 1)) C dL_law_401 rfl ?_
    refine j_iadd (z := (nI (5 * q + 1))) C dL_law_402 (nI_add _ _) ?_
    refine j_sld (z := x1) C hX hbl hbA (5 * q + 1) rfl (by omega) (by omega) es1 dL_law_403 ?_
    refine j_aload_n C dL_law_404 rfl ?_
    refine j_iload C dL_law_405 rfl ?_
    refine j_iconst (v := (nI 2)) C dL_law_407 rfl ?_
    refine j_iadd (z := (nI (5 * q + 2))) C dL_law_408 (nI_add _ _) ?_
    refine j_sld (z := x2) C hX hbl hbA (5 * q + 2) rfl (by omega) (by omega) es2 dL_law_409 ?_
    refine j_aload_n C dL_law_410 rfl ?_
    refine j_iload C dL_law_411 rfl ?_
    refine j_iconst (v := (nI 3)) C dL_law_413 rfl ?_
    refine j_iadd (z := (nI (5 * q + 3))) C dL_law_414 (nI_add _ _) ?_
    refine j_sld (z := x3) C hX hbl hbA (5 * q + 3) rfl (by omega) (by omega) es3 dL_law_415 ?_
    refine j_callVr C 6 (v := .int (nI 0)) (w := (gW E t sz sg la dk ot mo ou z g b cr ca cg ck on os (nI 1) cr ca cg ck ro LL ff)) (g_take_b l E A hbx1) ok_X5_take w_999 (by decide) rfl rfl (Nat.le_of_ble_eq_true rfl) rfl rfl ⟨by omega, by omega⟩ dL_law_416 ?_
    refine j_istore (lv' := [(6, .int (nI 0)), (5, .int (nI 1)), (4, .int (nI (5 * q))), (3, .ref ot), (2, .ref mo), (1, .ref dk), (0, .ref bs)]) C dL_law_419 (by decide) rfl ?_
    refine j_goto (tgt := 1674) C dL_law_421 (by decide) ?_
    refine j_lv (lv' := [(4, .int (nI (5 * q))), (3, .ref ot), (2, .ref mo), (1, .ref dk), (0, .ref bs)]) (by simp only [List.mem_cons, List.not_mem_nil, or_false, forall_eq_or_imp, forall_eq, true_or, or_true, and_self, Nat.add_zero]) ?_
    refine j_widen (k := cs + 600) (n := sl + 10000) (by omega) (by omega) ?_
    exact kk _ _ _ _ _ _ _ _ _ _ _ _ _ (hR)
set_option maxHeartbeats 4000000 in
set_option maxRecDepth 100000 in
theorem op_put (l : Launch) (hl : l.stackTraces = false) (E : jE) (A : Nat → Prop) {t sz sg la dk ot mo ou : Nat} {z g b : Nat → Int32} {cr ca cg ck : Int32} {on : Int64} {os : Value} {th : Int32} {ro : Nat → Option Nat} {LL : List Nat} {ff : Nat → va_E} {p : Program} {e : Env} {R : Room} {s : State} {m : MethodId} {args : Array Value} {below : List Frame} {meth : Method} {c : Code} {Q : State → Prop} {nn mc ms bs Ln q cs sl : Nat} {xs : Nat → Int32} {x1 x2 x3 x4 : Int32} (C : jC p l e R s m args below meth c x code 7 ret 2000 mc ms E A) (hX : va_X bs Ln xs s s.heap) (hbl : bs < s.heap.size) (hbA : ¬ A bs) (hLn : Ln ≤ 2560) (hq : 5 * q + 5 ≤ Ln) (hmc : cs + 600 ≤ mc) (hms : sl + 10000 ≤ ms) (es1 : xs (5 * q + 1) = x1) (es2 : xs (5 * q + 2) = x2) (es3 : xs (5 * q + 3) = x3) (es4 : xs (5 * q + 4) = x4) (hR : Rel E z g ro LL ff) (kk : ∀ (z' g' b' : Nat → Int32) (cr' ca' cg' ck' : Int32) (on' : Int64) (os' : Value) (th' : Int32) (ro' : Nat → Option Nat) (L' : List Nat) (f' : Nat → va_E), Rel E z' g' ro' L' f' → jJ p l e R s m args below meth c E A 7 Q (cs + 600) (sl + 10000) 1674 [(4, .int (nI (5 * q))), (3, .ref ot), (2, .ref mo), (1, .ref dk), (0, .ref bs)] [] (gW E t sz sg la dk ot mo ou (z') (g') (b') (cr') (ca') (cg') (ck') (on') (os') (th') (cr') (ca') (cg') (ck') (ro') (L') (f'))) : jJ p l e R s m args below meth c E A 7 Q cs sl 424 [(4, .int (nI (5 * q))), (3, .ref ot), (2, .ref mo), (1, .ref dk), (0, .ref bs)] [] (gW E t sz sg la dk ot mo ou z g b cr ca cg ck on os th cr ca cg ck ro LL ff) := by
  have hT := hR.tx
  rcases seat_cases x1 9 (by decide) with ⟨i, hi, rfl⟩ | hbx1
  · skip
    rcases seat_cases x3 10 (by decide) with ⟨w, hw, rfl⟩ | hbx3
    · skip
      rcases hR.1 i (by omega) with ⟨hz_i, hr_i⟩ | ⟨a_i, n_i, h_i, hn_i, hz_i, hr_i, hm_i, hf_i, hs_i⟩
      · skip
        refine j_aload_n C dL_law_424 rfl ?_
        refine j_aload_n C dL_law_425 rfl ?_
        refine j_iload C dL_law_426 rfl ?_
        refine j_iconst (v := (nI 1)) C dL_law_428 rfl ?_
        refine j_iadd (z := (nI (5 * q + 1))) C dL_law_429 (nI_add _ _) ?_
        refine j_sld (z := (nI i)) C hX hbl hbA (5 * q + 1) rfl (by omega) (by omega) es1 dL_law_430 ?_
        refine j_aload_n C dL_law_431 rfl ?_
        refine j_iload C dL_law_432 rfl ?_
        refine j_iconst (v := (nI 2)) C dL_law_434 rfl ?_
        refine j_iadd (z := (nI (5 * q + 2))) C dL_law_435 (nI_add _ _) ?_
        refine j_sld (z := x2) C hX hbl hbA (5 * q + 2) rfl (by omega) (by omega) es2 dL_law_436 ?_
        refine j_aload_n C dL_law_437 rfl ?_
        refine j_iload C dL_law_438 rfl ?_
        refine j_iconst (v := (nI 3)) C dL_law_440 rfl ?_
        refine j_iadd (z := (nI (5 * q + 3))) C dL_law_441 (nI_add _ _) ?_
        refine j_sld (z := (nI w)) C hX hbl hbA (5 * q + 3) rfl (by omega) (by omega) es3 dL_law_442 ?_
        refine j_aload_n C dL_law_443 rfl ?_
        refine j_callSH C (w_put_jIS l E A (f_put_m l hl E A hi hw hz_i)) ok_L_put w_433 (by decide) rfl rfl (Nat.le_of_ble_eq_true rfl) ⟨by omega, by omega⟩ dL_law_444 (fun _ _ h => ?_)
        obtain ⟨rfl, rfl⟩ := h
        refine j_istore (lv' := [(5, .int (nI 3)), (4, .int (nI (5 * q))), (3, .ref ot), (2, .ref mo), (1, .ref dk), (0, .ref bs)]) C dL_law_447 (by decide) rfl ?_
        refine j_aload_n C dL_law_449 rfl ?_
        refine j_aload_n C dL_law_450 rfl ?_
        refine j_iload C dL_law_451 rfl ?_
        refine j_iconst (v := (nI 1)) C dL_law_453 rfl ?_
        refine j_iadd (z := (nI (5 * q + 1))) C dL_law_454 (nI_add _ _) ?_
        refine j_sld (z := (nI i)) C hX hbl hbA (5 * q + 1) rfl (by omega) (by omega) es1 dL_law_455 ?_
        refine j_aload_n C dL_law_456 rfl ?_
        refine j_iload C dL_law_457 rfl ?_
        refine j_iconst (v := (nI 2)) C dL_law_459 rfl ?_
        refine j_iadd (z := (nI (5 * q + 2))) C dL_law_460 (nI_add _ _) ?_
        refine j_sld (z := x2) C hX hbl hbA (5 * q + 2) rfl (by omega) (by omega) es2 dL_law_461 ?_
        refine j_aload_n C dL_law_462 rfl ?_
        refine j_iload C dL_law_463 rfl ?_
        refine j_iconst (v := (nI 3)) C dL_law_465 rfl ?_
        refine j_iadd (z := (nI (5 * q + 3))) C dL_law_466 (nI_add _ _) ?_
        refine j_sld (z := (nI w)) C hX hbl hbA (5 * q + 3) rfl (by omega) (by omega) es3 dL_law_467 ?_
        refine j_callVr C 6 (v := .int (nI 0)) (w := (gW E t sz sg la dk ot mo ou z g b cr ca cg ck on os (nI 3) cr ca cg ck ro LL ff)) (g_put_m l E A hi hr_i hw) ok_X5_put w_1006 (by decide) rfl rfl (Nat.le_of_ble_eq_true rfl) rfl rfl ⟨by omega, by omega⟩ dL_law_468 ?_
        refine j_istore (lv' := [(6, .int (nI 0)), (5, .int (nI 3)), (4, .int (nI (5 * q))), (3, .ref ot), (2, .ref mo), (1, .ref dk), (0, .ref bs)]) C dL_law_471 (by decide) rfl ?_
        refine j_goto (tgt := 1674) C dL_law_473 (by decide) ?_
        refine j_lv (lv' := [(4, .int (nI (5 * q))), (3, .ref ot), (2, .ref mo), (1, .ref dk), (0, .ref bs)]) (by simp only [List.mem_cons, List.not_mem_nil, or_false, forall_eq_or_imp, forall_eq, true_or, or_true, and_self, Nat.add_zero]) ?_
        refine j_widen (k := cs + 600) (n := sl + 10000) (by omega) (by omega) ?_
        exact kk _ _ _ _ _ _ _ _ _ _ _ _ _ (hR)
      · skip
        rcases at_cases x2 hn_i with ⟨y, hy, rfl⟩ | ho
        · skip
          refine j_aload_n C dL_law_424 rfl ?_
          refine j_aload_n C dL_law_425 rfl ?_
          refine j_iload C dL_law_426 rfl ?_
          refine j_iconst (v := (nI 1)) C dL_law_428 rfl ?_
          refine j_iadd (z := (nI (5 * q + 1))) C dL_law_429 (nI_add _ _) ?_
          refine j_sld (z := (nI i)) C hX hbl hbA (5 * q + 1) rfl (by omega) (by omega) es1 dL_law_430 ?_
          refine j_aload_n C dL_law_431 rfl ?_
          refine j_iload C dL_law_432 rfl ?_
          refine j_iconst (v := (nI 2)) C dL_law_434 rfl ?_
          refine j_iadd (z := (nI (5 * q + 2))) C dL_law_435 (nI_add _ _) ?_
          refine j_sld (z := (nI y)) C hX hbl hbA (5 * q + 2) rfl (by omega) (by omega) es2 dL_law_436 ?_
          refine j_aload_n C dL_law_437 rfl ?_
          refine j_iload C dL_law_438 rfl ?_
          refine j_iconst (v := (nI 3)) C dL_law_440 rfl ?_
          refine j_iadd (z := (nI (5 * q + 3))) C dL_law_441 (nI_add _ _) ?_
          refine j_sld (z := (nI w)) C hX hbl hbA (5 * q + 3) rfl (by omega) (by omega) es3 dL_law_442 ?_
          refine j_aload_n C dL_law_443 rfl ?_
          refine j_callSH C (w_put_r l E A (rr := g (i * 24 + y)) (f_put_k l E A hi hw hn_i hz_i hy)) ok_L_put w_433 (by decide) rfl rfl (Nat.le_of_ble_eq_true rfl) ⟨by omega, by omega⟩ dL_law_444 (fun _ _ h => ?_)
          obtain ⟨rfl, rfl⟩ := h
          refine j_istore (lv' := [(5, .int (nI 0)), (4, .int (nI (5 * q))), (3, .ref ot), (2, .ref mo), (1, .ref dk), (0, .ref bs)]) C dL_law_447 (by decide) rfl ?_
          refine j_aload_n C dL_law_449 rfl ?_
          refine j_aload_n C dL_law_450 rfl ?_
          refine j_iload C dL_law_451 rfl ?_
          refine j_iconst (v := (nI 1)) C dL_law_453 rfl ?_
          refine j_iadd (z := (nI (5 * q + 1))) C dL_law_454 (nI_add _ _) ?_
          refine j_sld (z := (nI i)) C hX hbl hbA (5 * q + 1) rfl (by omega) (by omega) es1 dL_law_455 ?_
          refine j_aload_n C dL_law_456 rfl ?_
          refine j_iload C dL_law_457 rfl ?_
          refine j_iconst (v := (nI 2)) C dL_law_459 rfl ?_
          refine j_iadd (z := (nI (5 * q + 2))) C dL_law_460 (nI_add _ _) ?_
          refine j_sld (z := (nI y)) C hX hbl hbA (5 * q + 2) rfl (by omega) (by omega) es2 dL_law_461 ?_
          refine j_aload_n C dL_law_462 rfl ?_
          refine j_iload C dL_law_463 rfl ?_
          refine j_iconst (v := (nI 3)) C dL_law_465 rfl ?_
          refine j_iadd (z := (nI (5 * q + 3))) C dL_law_466 (nI_add _ _) ?_
          refine j_sld (z := (nI w)) C hX hbl hbA (5 * q + 3) rfl (by omega) (by omega) es3 dL_law_467 ?_
          refine j_callVr C 6 (v := .int (h_i y)) (w := (gW E t sz sg la dk ot mo ou z (upd g (i * 24 + y) (nI w)) b cr ca cg ck ((g (i * 24 + y)).toInt64) os (nI 0) cr ca cg ck ro LL (va_up ff a_i (.inl (E.2.1, n_i, .inl (upd h_i y (nI w))))))) (g_put_k l E A hi hr_i hm_i hf_i hn_i hw hy) ok_X5_put w_1006 (by decide) rfl rfl (Nat.le_of_ble_eq_true rfl) rfl rfl ⟨by omega, by omega⟩ dL_law_468 ?_
          refine j_istore (lv' := [(6, .int (h_i y)), (5, .int (nI 0)), (4, .int (nI (5 * q))), (3, .ref ot), (2, .ref mo), (1, .ref dk), (0, .ref bs)]) C dL_law_471 (by decide) rfl ?_
          refine j_goto (tgt := 1674) C dL_law_473 (by decide) ?_
          refine j_lv (lv' := [(4, .int (nI (5 * q))), (3, .ref ot), (2, .ref mo), (1, .ref dk), (0, .ref bs)]) (by simp only [List.mem_cons, List.not_mem_nil, or_false, forall_eq_or_imp, forall_eq, true_or, or_true, and_self, Nat.add_zero]) ?_
          refine j_widen (k := cs + 600) (n := sl + 10000) (by omega) (by omega) ?_
          exact kk _ _ _ _ _ _ _ _ _ _ _ _ _ (hR.put hi hz_i hr_i hf_i hn_i hy hw hs_i)
        · skip
          refine j_aload_n C dL_law_424 rfl ?_
          refine j_aload_n C dL_law_425 rfl ?_
          refine j_iload C dL_law_426 rfl ?_
          refine j_iconst (v := (nI 1)) C dL_law_428 rfl ?_
          refine j_iadd (z := (nI (5 * q + 1))) C dL_law_429 (nI_add _ _) ?_
          refine j_sld (z := (nI i)) C hX hbl hbA (5 * q + 1) rfl (by omega) (by omega) es1 dL_law_430 ?_
          refine j_aload_n C dL_law_431 rfl ?_
          refine j_iload C dL_law_432 rfl ?_
          refine j_iconst (v := (nI 2)) C dL_law_434 rfl ?_
          refine j_iadd (z := (nI (5 * q + 2))) C dL_law_435 (nI_add _ _) ?_
          refine j_sld (z := x2) C hX hbl hbA (5 * q + 2) rfl (by omega) (by omega) es2 dL_law_436 ?_
          refine j_aload_n C dL_law_437 rfl ?_
          refine j_iload C dL_law_438 rfl ?_
          refine j_iconst (v := (nI 3)) C dL_law_440 rfl ?_
          refine j_iadd (z := (nI (5 * q + 3))) C dL_law_441 (nI_add _ _) ?_
          refine j_sld (z := (nI w)) C hX hbl hbA (5 * q + 3) rfl (by omega) (by omega) es3 dL_law_442 ?_
          refine j_aload_n C dL_law_443 rfl ?_
          refine j_callSH C (w_put_r l E A (rr := -9) (f_put_o l E A hi hw hn_i hz_i ho.1)) ok_L_put w_433 (by decide) rfl rfl (Nat.le_of_ble_eq_true rfl) ⟨by omega, by omega⟩ dL_law_444 (fun _ _ h => ?_)
          obtain ⟨rfl, rfl⟩ := h
          refine j_istore (lv' := [(5, .int (nI 0)), (4, .int (nI (5 * q))), (3, .ref ot), (2, .ref mo), (1, .ref dk), (0, .ref bs)]) C dL_law_447 (by decide) rfl ?_
          refine j_aload_n C dL_law_449 rfl ?_
          refine j_aload_n C dL_law_450 rfl ?_
          refine j_iload C dL_law_451 rfl ?_
          refine j_iconst (v := (nI 1)) C dL_law_453 rfl ?_
          refine j_iadd (z := (nI (5 * q + 1))) C dL_law_454 (nI_add _ _) ?_
          refine j_sld (z := (nI i)) C hX hbl hbA (5 * q + 1) rfl (by omega) (by omega) es1 dL_law_455 ?_
          refine j_aload_n C dL_law_456 rfl ?_
          refine j_iload C dL_law_457 rfl ?_
          refine j_iconst (v := (nI 2)) C dL_law_459 rfl ?_
          refine j_iadd (z := (nI (5 * q + 2))) C dL_law_460 (nI_add _ _) ?_
          refine j_sld (z := x2) C hX hbl hbA (5 * q + 2) rfl (by omega) (by omega) es2 dL_law_461 ?_
          refine j_aload_n C dL_law_462 rfl ?_
          refine j_iload C dL_law_463 rfl ?_
          refine j_iconst (v := (nI 3)) C dL_law_465 rfl ?_
          refine j_iadd (z := (nI (5 * q + 3))) C dL_law_466 (nI_add _ _) ?_
          refine j_sld (z := (nI w)) C hX hbl hbA (5 * q + 3) rfl (by omega) (by omega) es3 dL_law_467 ?_
          refine j_callVr C 6 (v := .int (-9)) (w := (gW E t sz sg la dk ot mo ou z g b (cr + nI 1) ca cg ck ((-9).toInt64) os (nI 0) (cr + nI 1) ca cg ck ro LL ff)) (g_put_o l E A hi hr_i hm_i hf_i hn_i hw ho.2) ok_X5_put w_1006 (by decide) rfl rfl (Nat.le_of_ble_eq_true rfl) rfl rfl ⟨by omega, by omega⟩ dL_law_468 ?_
          refine j_istore (lv' := [(6, .int (-9)), (5, .int (nI 0)), (4, .int (nI (5 * q))), (3, .ref ot), (2, .ref mo), (1, .ref dk), (0, .ref bs)]) C dL_law_471 (by decide) rfl ?_
          refine j_goto (tgt := 1674) C dL_law_473 (by decide) ?_
          refine j_lv (lv' := [(4, .int (nI (5 * q))), (3, .ref ot), (2, .ref mo), (1, .ref dk), (0, .ref bs)]) (by simp only [List.mem_cons, List.not_mem_nil, or_false, forall_eq_or_imp, forall_eq, true_or, or_true, and_self, Nat.add_zero]) ?_
          refine j_widen (k := cs + 600) (n := sl + 10000) (by omega) (by omega) ?_
          exact kk _ _ _ _ _ _ _ _ _ _ _ _ _ (hR)
    · skip
      refine j_aload_n C dL_law_424 rfl ?_
      refine j_aload_n C dL_law_425 rfl ?_
      refine j_iload C dL_law_426 rfl ?_
      refine j_iconst (v := (nI 1)) C dL_law_428 rfl ?_
      refine j_iadd (z := (nI (5 * q + 1))) C dL_law_429 (nI_add _ _) ?_
      refine j_sld (z := (nI i)) C hX hbl hbA (5 * q + 1) rfl (by omega) (by omega) es1 dL_law_430 ?_
      refine j_aload_n C dL_law_431 rfl ?_
      refine j_iload C dL_law_432 rfl ?_
      refine j_iconst (v := (nI 2)) C dL_law_434 rfl ?_
      refine j_iadd (z := (nI (5 * q + 2))) C dL_law_435 (nI_add _ _) ?_
      refine j_sld (z := x2) C hX hbl hbA (5 * q + 2) rfl (by omega) (by omega) es2 dL_law_436 ?_
      refine j_aload_n C dL_law_437 rfl ?_
      refine j_iload C dL_law_438 rfl ?_
      refine j_iconst (v := (nI 3)) C dL_law_440 rfl ?_
      refine j_iadd (z := (nI (5 * q + 3))) C dL_law_441 (nI_add _ _) ?_
      refine j_sld (z := x3) C hX hbl hbA (5 * q + 3) rfl (by omega) (by omega) es3 dL_law_442 ?_
      refine j_aload_n C dL_law_443 rfl ?_
      refine j_callSH C (w_put_jIA l E A (f_put_a l hl E A hi hbx3)) ok_L_put w_433 (by decide) rfl rfl (Nat.le_of_ble_eq_true rfl) ⟨by omega, by omega⟩ dL_law_444 (fun _ _ h => ?_)
      obtain ⟨rfl, rfl⟩ := h
      refine j_istore (lv' := [(5, .int (nI 2)), (4, .int (nI (5 * q))), (3, .ref ot), (2, .ref mo), (1, .ref dk), (0, .ref bs)]) C dL_law_447 (by decide) rfl ?_
      refine j_aload_n C dL_law_449 rfl ?_
      refine j_aload_n C dL_law_450 rfl ?_
      refine j_iload C dL_law_451 rfl ?_
      refine j_iconst (v := (nI 1)) C dL_law_453 rfl ?_
      refine j_iadd (z := (nI (5 * q + 1))) C dL_law_454 (nI_add _ _) ?_
      refine j_sld (z := (nI i)) C hX hbl hbA (5 * q + 1) rfl (by omega) (by omega) es1 dL_law_455 ?_
      refine j_aload_n C dL_law_456 rfl ?_
      refine j_iload C dL_law_457 rfl ?_
      refine j_iconst (v := (nI 2)) C dL_law_459 rfl ?_
      refine j_iadd (z := (nI (5 * q + 2))) C dL_law_460 (nI_add _ _) ?_
      refine j_sld (z := x2) C hX hbl hbA (5 * q + 2) rfl (by omega) (by omega) es2 dL_law_461 ?_
      refine j_aload_n C dL_law_462 rfl ?_
      refine j_iload C dL_law_463 rfl ?_
      refine j_iconst (v := (nI 3)) C dL_law_465 rfl ?_
      refine j_iadd (z := (nI (5 * q + 3))) C dL_law_466 (nI_add _ _) ?_
      refine j_sld (z := x3) C hX hbl hbA (5 * q + 3) rfl (by omega) (by omega) es3 dL_law_467 ?_
      refine j_callVr C 6 (v := .int (nI 0)) (w := (gW E t sz sg la dk ot mo ou z g b cr ca cg ck on os (nI 2) cr ca cg ck ro LL ff)) (g_put_a l E A hi hbx3) ok_X5_put w_1006 (by decide) rfl rfl (Nat.le_of_ble_eq_true rfl) rfl rfl ⟨by omega, by omega⟩ dL_law_468 ?_
      refine j_istore (lv' := [(6, .int (nI 0)), (5, .int (nI 2)), (4, .int (nI (5 * q))), (3, .ref ot), (2, .ref mo), (1, .ref dk), (0, .ref bs)]) C dL_law_471 (by decide) rfl ?_
      refine j_goto (tgt := 1674) C dL_law_473 (by decide) ?_
      refine j_lv (lv' := [(4, .int (nI (5 * q))), (3, .ref ot), (2, .ref mo), (1, .ref dk), (0, .ref bs)]) (by simp only [List.mem_cons, List.not_mem_nil, or_false, forall_eq_or_imp, forall_eq, true_or, or_true, and_self, Nat.add_zero]) ?_
      refine j_widen (k := cs + 600) (n := sl + 10000) (by omega) (by omega) ?_
      exact kk _ _ _ _ _ _ _ _ _ _ _ _ _ (hR)
  · skip
    refine j_aload_n C dL_law_424 rfl ?_
    refine j_aload_n C dL_law_425 rfl ?_
    refine j_iload C dL_law_426 rfl ?_
    refine j_iconst (v := (nI 1)) C dL_law_428 rfl ?_
    refine j_iadd (z := (nI (5 * q + 1))) C dL_law_429 (nI_add _ _) ?_
    refine j_sld (z := x1) C hX hbl hbA (5 * q + 1) rfl (by omega) (by omega) es1 dL_law_430 ?_
    refine j_aload_n C dL_law_431 rfl ?_
    refine j_iload C dL_law_432 rfl ?_
    refine j_iconst (v := (nI 2)) C dL_law_434 rfl ?_
    refine j_iadd (z := (nI (5 * q + 2))) C dL_law_435 (nI_add _ _) ?_
    refine j_sld (z := x2) C hX hbl hbA (5 * q + 2) rfl (by omega) (by omega) es2 dL_law_436 ?_
    refine j_aload_n C dL_law_437 rfl ?_
    refine j_iload C dL_law_438 rfl ?_
    refine j_iconst (v := (nI 3)) C dL_law_440 rfl ?_
    refine j_iadd (z := (nI (5 * q + 3))) C dL_law_441 (nI_add _ _) ?_
    refine j_sld (z := x3) C hX hbl hbA (5 * q + 3) rfl (by omega) (by omega) es3 dL_law_442 ?_
    refine j_aload_n C dL_law_443 rfl ?_
    refine j_callSH C (w_put_jIO l E A (f_put_b l hl E A hbx1)) ok_L_put w_433 (by decide) rfl rfl (Nat.le_of_ble_eq_true rfl) ⟨by omega, by omega⟩ dL_law_444 (fun _ _ h => ?_)
    obtain ⟨rfl, rfl⟩ := h
    refine j_istore (lv' := [(5, .int (nI 1)), (4, .int (nI (5 * q))), (3, .ref ot), (2, .ref mo), (1, .ref dk), (0, .ref bs)]) C dL_law_447 (by decide) rfl ?_
    refine j_aload_n C dL_law_449 rfl ?_
    refine j_aload_n C dL_law_450 rfl ?_
    refine j_iload C dL_law_451 rfl ?_
    refine j_iconst (v := (nI 1)) C dL_law_453 rfl ?_
    refine j_iadd (z := (nI (5 * q + 1))) C dL_law_454 (nI_add _ _) ?_
    refine j_sld (z := x1) C hX hbl hbA (5 * q + 1) rfl (by omega) (by omega) es1 dL_law_455 ?_
    refine j_aload_n C dL_law_456 rfl ?_
    refine j_iload C dL_law_457 rfl ?_
    refine j_iconst (v := (nI 2)) C dL_law_459 rfl ?_
    refine j_iadd (z := (nI (5 * q + 2))) C dL_law_460 (nI_add _ _) ?_
    refine j_sld (z := x2) C hX hbl hbA (5 * q + 2) rfl (by omega) (by omega) es2 dL_law_461 ?_
    refine j_aload_n C dL_law_462 rfl ?_
    refine j_iload C dL_law_463 rfl ?_
    refine j_iconst (v := (nI 3)) C dL_law_465 rfl ?_
    refine j_iadd (z := (nI (5 * q + 3))) C dL_law_466 (nI_add _ _) ?_
    refine j_sld (z := x3) C hX hbl hbA (5 * q + 3) rfl (by omega) (by omega) es3 dL_law_467 ?_
    refine j_callVr C 6 (v := .int (nI 0)) (w := (gW E t sz sg la dk ot mo ou z g b cr ca cg ck on os (nI 1) cr ca cg ck ro LL ff)) (g_put_b l E A hbx1) ok_X5_put w_1006 (by decide) rfl rfl (Nat.le_of_ble_eq_true rfl) rfl rfl ⟨by omega, by omega⟩ dL_law_468 ?_
    refine j_istore (lv' := [(6, .int (nI 0)), (5, .int (nI 1)), (4, .int (nI (5 * q))), (3, .ref ot), (2, .ref mo), (1, .ref dk), (0, .ref bs)]) C dL_law_471 (by decide) rfl ?_
    refine j_goto (tgt := 1674) C dL_law_473 (by decide) ?_
    refine j_lv (lv' := [(4, .int (nI (5 * q))), (3, .ref ot), (2, .ref mo), (1, .ref dk), (0, .ref bs)]) (by simp only [List.mem_cons, List.not_mem_nil, or_false, forall_eq_or_imp, forall_eq, true_or, or_true, and_self, Nat.add_zero]) ?_
    refine j_widen (k := cs + 600) (n := sl + 10000) (by omega) (by omega) ?_
    exact kk _ _ _ _ _ _ _ _ _ _ _ _ _ (hR)
set_option maxHeartbeats 4000000 in
set_option maxRecDepth 100000 in
theorem op_copy (l : Launch) (hl : l.stackTraces = false) (E : jE) (A : Nat → Prop) {t sz sg la dk ot mo ou : Nat} {z g b : Nat → Int32} {cr ca cg ck : Int32} {on : Int64} {os : Value} {th : Int32} {ro : Nat → Option Nat} {LL : List Nat} {ff : Nat → va_E} {p : Program} {e : Env} {R : Room} {s : State} {m : MethodId} {args : Array Value} {below : List Frame} {meth : Method} {c : Code} {Q : State → Prop} {nn mc ms bs Ln q cs sl : Nat} {xs : Nat → Int32} {x1 x2 x3 x4 : Int32} (C : jC p l e R s m args below meth c x code 7 ret 2000 mc ms E A) (hX : va_X bs Ln xs s s.heap) (hbl : bs < s.heap.size) (hbA : ¬ A bs) (hLn : Ln ≤ 2560) (hq : 5 * q + 5 ≤ Ln) (hmc : cs + 600 ≤ mc) (hms : sl + 10000 ≤ ms) (es1 : xs (5 * q + 1) = x1) (es2 : xs (5 * q + 2) = x2) (es3 : xs (5 * q + 3) = x3) (es4 : xs (5 * q + 4) = x4) (hR : Rel E z g ro LL ff) (kk : ∀ (z' g' b' : Nat → Int32) (cr' ca' cg' ck' : Int32) (on' : Int64) (os' : Value) (th' : Int32) (ro' : Nat → Option Nat) (L' : List Nat) (f' : Nat → va_E), Rel E z' g' ro' L' f' → jJ p l e R s m args below meth c E A 7 Q (cs + 600) (sl + 10000) 1674 [(4, .int (nI (5 * q))), (3, .ref ot), (2, .ref mo), (1, .ref dk), (0, .ref bs)] [] (gW E t sz sg la dk ot mo ou (z') (g') (b') (cr') (ca') (cg') (ck') (on') (os') (th') (cr') (ca') (cg') (ck') (ro') (L') (f'))) : jJ p l e R s m args below meth c E A 7 Q cs sl 476 [(4, .int (nI (5 * q))), (3, .ref ot), (2, .ref mo), (1, .ref dk), (0, .ref bs)] [] (gW E t sz sg la dk ot mo ou z g b cr ca cg ck on os th cr ca cg ck ro LL ff) := by
  have hT := hR.tx
  rcases seat_cases x1 9 (by decide) with ⟨i, hi, rfl⟩ | hbx1
  · skip
    rcases seat_cases x2 9 (by decide) with ⟨j, hj, rfl⟩ | hbx2
    · skip
      rcases hR.1 j (by omega) with ⟨hz_j, hr_j⟩ | ⟨a_j, n_j, h_j, hn_j, hz_j, hr_j, hm_j, hf_j, hs_j⟩
      · skip
        refine j_aload_n C dL_law_476 rfl ?_
        refine j_aload_n C dL_law_477 rfl ?_
        refine j_iload C dL_law_478 rfl ?_
        refine j_iconst (v := (nI 1)) C dL_law_480 rfl ?_
        refine j_iadd (z := (nI (5 * q + 1))) C dL_law_481 (nI_add _ _) ?_
        refine j_sld (z := (nI i)) C hX hbl hbA (5 * q + 1) rfl (by omega) (by omega) es1 dL_law_482 ?_
        refine j_aload_n C dL_law_483 rfl ?_
        refine j_iload C dL_law_484 rfl ?_
        refine j_iconst (v := (nI 2)) C dL_law_486 rfl ?_
        refine j_iadd (z := (nI (5 * q + 2))) C dL_law_487 (nI_add _ _) ?_
        refine j_sld (z := (nI j)) C hX hbl hbA (5 * q + 2) rfl (by omega) (by omega) es2 dL_law_488 ?_
        refine j_aload_n C dL_law_489 rfl ?_
        refine j_callSH C (w_copy_r l E A (rr := -1) (f_copy_m l E A hi hj hz_j)) ok_L_copy w_442 (by decide) rfl rfl (Nat.le_of_ble_eq_true rfl) ⟨by omega, by omega⟩ dL_law_490 (fun _ _ h => ?_)
        obtain ⟨rfl, rfl⟩ := h
        refine j_istore (lv' := [(5, .int (nI 0)), (4, .int (nI (5 * q))), (3, .ref ot), (2, .ref mo), (1, .ref dk), (0, .ref bs)]) C dL_law_493 (by decide) rfl ?_
        refine j_aload_n C dL_law_495 rfl ?_
        refine j_aload_n C dL_law_496 rfl ?_
        refine j_iload C dL_law_497 rfl ?_
        refine j_iconst (v := (nI 1)) C dL_law_499 rfl ?_
        refine j_iadd (z := (nI (5 * q + 1))) C dL_law_500 (nI_add _ _) ?_
        refine j_sld (z := (nI i)) C hX hbl hbA (5 * q + 1) rfl (by omega) (by omega) es1 dL_law_501 ?_
        refine j_aload_n C dL_law_502 rfl ?_
        refine j_iload C dL_law_503 rfl ?_
        refine j_iconst (v := (nI 2)) C dL_law_505 rfl ?_
        refine j_iadd (z := (nI (5 * q + 2))) C dL_law_506 (nI_add _ _) ?_
        refine j_sld (z := (nI j)) C hX hbl hbA (5 * q + 2) rfl (by omega) (by omega) es2 dL_law_507 ?_
        refine j_callVr C 6 (v := .int (-1)) (w := (gW E t sz sg la dk ot mo ou (upd z i (z j)) g b cr ca cg ck ((-1).toInt64) os (nI 0) cr ca cg ck (va_up ro i none) LL ff)) (g_copy_m l E A hi hj hr_j) ok_X5_copy w_1010 (by decide) rfl rfl (Nat.le_of_ble_eq_true rfl) rfl rfl ⟨by omega, by omega⟩ dL_law_508 ?_
        refine j_istore (lv' := [(6, .int (-1)), (5, .int (nI 0)), (4, .int (nI (5 * q))), (3, .ref ot), (2, .ref mo), (1, .ref dk), (0, .ref bs)]) C dL_law_511 (by decide) rfl ?_
        refine j_goto (tgt := 1674) C dL_law_513 (by decide) ?_
        refine j_lv (lv' := [(4, .int (nI (5 * q))), (3, .ref ot), (2, .ref mo), (1, .ref dk), (0, .ref bs)]) (by simp only [List.mem_cons, List.not_mem_nil, or_false, forall_eq_or_imp, forall_eq, true_or, or_true, and_self, Nat.add_zero]) ?_
        refine j_widen (k := cs + 600) (n := sl + 10000) (by omega) (by omega) ?_
        exact kk _ _ _ _ _ _ _ _ _ _ _ _ _ (by rw [hz_j]; exact hR.leave hi)
      · skip
        refine j_aload_n C dL_law_476 rfl ?_
        refine j_aload_n C dL_law_477 rfl ?_
        refine j_iload C dL_law_478 rfl ?_
        refine j_iconst (v := (nI 1)) C dL_law_480 rfl ?_
        refine j_iadd (z := (nI (5 * q + 1))) C dL_law_481 (nI_add _ _) ?_
        refine j_sld (z := (nI i)) C hX hbl hbA (5 * q + 1) rfl (by omega) (by omega) es1 dL_law_482 ?_
        refine j_aload_n C dL_law_483 rfl ?_
        refine j_iload C dL_law_484 rfl ?_
        refine j_iconst (v := (nI 2)) C dL_law_486 rfl ?_
        refine j_iadd (z := (nI (5 * q + 2))) C dL_law_487 (nI_add _ _) ?_
        refine j_sld (z := (nI j)) C hX hbl hbA (5 * q + 2) rfl (by omega) (by omega) es2 dL_law_488 ?_
        refine j_aload_n C dL_law_489 rfl ?_
        refine j_callSH C (w_copy_r l E A (rr := nI n_j) (f_copy_k l E A hi hj hn_j hz_j)) ok_L_copy w_442 (by decide) rfl rfl (Nat.le_of_ble_eq_true rfl) ⟨by omega, by omega⟩ dL_law_490 (fun _ _ h => ?_)
        obtain ⟨rfl, rfl⟩ := h
        refine j_istore (lv' := [(5, .int (nI 0)), (4, .int (nI (5 * q))), (3, .ref ot), (2, .ref mo), (1, .ref dk), (0, .ref bs)]) C dL_law_493 (by decide) rfl ?_
        refine j_aload_n C dL_law_495 rfl ?_
        refine j_aload_n C dL_law_496 rfl ?_
        refine j_iload C dL_law_497 rfl ?_
        refine j_iconst (v := (nI 1)) C dL_law_499 rfl ?_
        refine j_iadd (z := (nI (5 * q + 1))) C dL_law_500 (nI_add _ _) ?_
        refine j_sld (z := (nI i)) C hX hbl hbA (5 * q + 1) rfl (by omega) (by omega) es1 dL_law_501 ?_
        refine j_aload_n C dL_law_502 rfl ?_
        refine j_iload C dL_law_503 rfl ?_
        refine j_iconst (v := (nI 2)) C dL_law_505 rfl ?_
        refine j_iadd (z := (nI (5 * q + 2))) C dL_law_506 (nI_add _ _) ?_
        refine j_sld (z := (nI j)) C hX hbl hbA (5 * q + 2) rfl (by omega) (by omega) es2 dL_law_507 ?_
        refine j_callV C (q0 := 6) (g_copy_k l E A hi hj hr_j hm_j hf_j hn_j) ok_X5_copy w_1010 (by decide) rfl rfl (Nat.le_of_ble_eq_true rfl) rfl rfl ⟨by omega, by omega⟩ dL_law_508 (fun _ _ h => h.elim) (fun _ _ h => ?_)
        obtain ⟨qa, hq, rfl, rfl⟩ := h
        refine j_istore (lv' := [(6, .int (nI n_j)), (5, .int (nI 0)), (4, .int (nI (5 * q))), (3, .ref ot), (2, .ref mo), (1, .ref dk), (0, .ref bs)]) C dL_law_511 (by decide) rfl ?_
        refine j_goto (tgt := 1674) C dL_law_513 (by decide) ?_
        refine j_lv (lv' := [(4, .int (nI (5 * q))), (3, .ref ot), (2, .ref mo), (1, .ref dk), (0, .ref bs)]) (by simp only [List.mem_cons, List.not_mem_nil, or_false, forall_eq_or_imp, forall_eq, true_or, or_true, and_self, Nat.add_zero]) ?_
        refine j_widen (k := cs + 600) (n := sl + 10000) (by omega) (by omega) ?_
        exact kk _ _ _ _ _ _ _ _ _ _ _ _ _ (hR.copy hi hj hz_j hn_j hs_j hq)
    · skip
      refine j_aload_n C dL_law_476 rfl ?_
      refine j_aload_n C dL_law_477 rfl ?_
      refine j_iload C dL_law_478 rfl ?_
      refine j_iconst (v := (nI 1)) C dL_law_480 rfl ?_
      refine j_iadd (z := (nI (5 * q + 1))) C dL_law_481 (nI_add _ _) ?_
      refine j_sld (z := (nI i)) C hX hbl hbA (5 * q + 1) rfl (by omega) (by omega) es1 dL_law_482 ?_
      refine j_aload_n C dL_law_483 rfl ?_
      refine j_iload C dL_law_484 rfl ?_
      refine j_iconst (v := (nI 2)) C dL_law_486 rfl ?_
      refine j_iadd (z := (nI (5 * q + 2))) C dL_law_487 (nI_add _ _) ?_
      refine j_sld (z := x2) C hX hbl hbA (5 * q + 2) rfl (by omega) (by omega) es2 dL_law_488 ?_
      refine j_aload_n C dL_law_489 rfl ?_
      refine j_callSH C (w_copy_jIO l E A (f_copy_b2 l hl E A hi hbx2)) ok_L_copy w_442 (by decide) rfl rfl (Nat.le_of_ble_eq_true rfl) ⟨by omega, by omega⟩ dL_law_490 (fun _ _ h => ?_)
      obtain ⟨rfl, rfl⟩ := h
      refine j_istore (lv' := [(5, .int (nI 1)), (4, .int (nI (5 * q))), (3, .ref ot), (2, .ref mo), (1, .ref dk), (0, .ref bs)]) C dL_law_493 (by decide) rfl ?_
      refine j_aload_n C dL_law_495 rfl ?_
      refine j_aload_n C dL_law_496 rfl ?_
      refine j_iload C dL_law_497 rfl ?_
      refine j_iconst (v := (nI 1)) C dL_law_499 rfl ?_
      refine j_iadd (z := (nI (5 * q + 1))) C dL_law_500 (nI_add _ _) ?_
      refine j_sld (z := (nI i)) C hX hbl hbA (5 * q + 1) rfl (by omega) (by omega) es1 dL_law_501 ?_
      refine j_aload_n C dL_law_502 rfl ?_
      refine j_iload C dL_law_503 rfl ?_
      refine j_iconst (v := (nI 2)) C dL_law_505 rfl ?_
      refine j_iadd (z := (nI (5 * q + 2))) C dL_law_506 (nI_add _ _) ?_
      refine j_sld (z := x2) C hX hbl hbA (5 * q + 2) rfl (by omega) (by omega) es2 dL_law_507 ?_
      refine j_callVr C 6 (v := .int (nI 0)) (w := (gW E t sz sg la dk ot mo ou z g b cr ca cg ck on os (nI 1) cr ca cg ck ro LL ff)) (g_copy_b2 l E A hi hbx2) ok_X5_copy w_1010 (by decide) rfl rfl (Nat.le_of_ble_eq_true rfl) rfl rfl ⟨by omega, by omega⟩ dL_law_508 ?_
      refine j_istore (lv' := [(6, .int (nI 0)), (5, .int (nI 1)), (4, .int (nI (5 * q))), (3, .ref ot), (2, .ref mo), (1, .ref dk), (0, .ref bs)]) C dL_law_511 (by decide) rfl ?_
      refine j_goto (tgt := 1674) C dL_law_513 (by decide) ?_
      refine j_lv (lv' := [(4, .int (nI (5 * q))), (3, .ref ot), (2, .ref mo), (1, .ref dk), (0, .ref bs)]) (by simp only [List.mem_cons, List.not_mem_nil, or_false, forall_eq_or_imp, forall_eq, true_or, or_true, and_self, Nat.add_zero]) ?_
      refine j_widen (k := cs + 600) (n := sl + 10000) (by omega) (by omega) ?_
      exact kk _ _ _ _ _ _ _ _ _ _ _ _ _ (hR)
  · skip
    refine j_aload_n C dL_law_476 rfl ?_
    refine j_aload_n C dL_law_477 rfl ?_
    refine j_iload C dL_law_478 rfl ?_
    refine j_iconst (v := (nI 1)) C dL_law_480 rfl ?_
    refine j_iadd (z := (nI (5 * q + 1))) C dL_law_481 (nI_add _ _) ?_
    refine j_sld (z := x1) C hX hbl hbA (5 * q + 1) rfl (by omega) (by omega) es1 dL_law_482 ?_
    refine j_aload_n C dL_law_483 rfl ?_
    refine j_iload C dL_law_484 rfl ?_
    refine j_iconst (v := (nI 2)) C dL_law_486 rfl ?_
    refine j_iadd (z := (nI (5 * q + 2))) C dL_law_487 (nI_add _ _) ?_
    refine j_sld (z := x2) C hX hbl hbA (5 * q + 2) rfl (by omega) (by omega) es2 dL_law_488 ?_
    refine j_aload_n C dL_law_489 rfl ?_
    refine j_callSH C (w_copy_jIO l E A (f_copy_b1 l hl E A hbx1)) ok_L_copy w_442 (by decide) rfl rfl (Nat.le_of_ble_eq_true rfl) ⟨by omega, by omega⟩ dL_law_490 (fun _ _ h => ?_)
    obtain ⟨rfl, rfl⟩ := h
    refine j_istore (lv' := [(5, .int (nI 1)), (4, .int (nI (5 * q))), (3, .ref ot), (2, .ref mo), (1, .ref dk), (0, .ref bs)]) C dL_law_493 (by decide) rfl ?_
    refine j_aload_n C dL_law_495 rfl ?_
    refine j_aload_n C dL_law_496 rfl ?_
    refine j_iload C dL_law_497 rfl ?_
    refine j_iconst (v := (nI 1)) C dL_law_499 rfl ?_
    refine j_iadd (z := (nI (5 * q + 1))) C dL_law_500 (nI_add _ _) ?_
    refine j_sld (z := x1) C hX hbl hbA (5 * q + 1) rfl (by omega) (by omega) es1 dL_law_501 ?_
    refine j_aload_n C dL_law_502 rfl ?_
    refine j_iload C dL_law_503 rfl ?_
    refine j_iconst (v := (nI 2)) C dL_law_505 rfl ?_
    refine j_iadd (z := (nI (5 * q + 2))) C dL_law_506 (nI_add _ _) ?_
    refine j_sld (z := x2) C hX hbl hbA (5 * q + 2) rfl (by omega) (by omega) es2 dL_law_507 ?_
    refine j_callVr C 6 (v := .int (nI 0)) (w := (gW E t sz sg la dk ot mo ou z g b cr ca cg ck on os (nI 1) cr ca cg ck ro LL ff)) (g_copy_b1 l E A hbx1) ok_X5_copy w_1010 (by decide) rfl rfl (Nat.le_of_ble_eq_true rfl) rfl rfl ⟨by omega, by omega⟩ dL_law_508 ?_
    refine j_istore (lv' := [(6, .int (nI 0)), (5, .int (nI 1)), (4, .int (nI (5 * q))), (3, .ref ot), (2, .ref mo), (1, .ref dk), (0, .ref bs)]) C dL_law_511 (by decide) rfl ?_
    refine j_goto (tgt := 1674) C dL_law_513 (by decide) ?_
    refine j_lv (lv' := [(4, .int (nI (5 * q))), (3, .ref ot), (2, .ref mo), (1, .ref dk), (0, .ref bs)]) (by simp only [List.mem_cons, List.not_mem_nil, or_false, forall_eq_or_imp, forall_eq, true_or, or_true, and_self, Nat.add_zero]) ?_
    refine j_widen (k := cs + 600) (n := sl + 10000) (by omega) (by omega) ?_
    exact kk _ _ _ _ _ _ _ _ _ _ _ _ _ (hR)
set_option maxHeartbeats 4000000 in
set_option maxRecDepth 100000 in
theorem op_leave (l : Launch) (hl : l.stackTraces = false) (E : jE) (A : Nat → Prop) {t sz sg la dk ot mo ou : Nat} {z g b : Nat → Int32} {cr ca cg ck : Int32} {on : Int64} {os : Value} {th : Int32} {ro : Nat → Option Nat} {LL : List Nat} {ff : Nat → va_E} {p : Program} {e : Env} {R : Room} {s : State} {m : MethodId} {args : Array Value} {below : List Frame} {meth : Method} {c : Code} {Q : State → Prop} {nn mc ms bs Ln q cs sl : Nat} {xs : Nat → Int32} {x1 x2 x3 x4 : Int32} (C : jC p l e R s m args below meth c x code 7 ret 2000 mc ms E A) (hX : va_X bs Ln xs s s.heap) (hbl : bs < s.heap.size) (hbA : ¬ A bs) (hLn : Ln ≤ 2560) (hq : 5 * q + 5 ≤ Ln) (hmc : cs + 600 ≤ mc) (hms : sl + 10000 ≤ ms) (es1 : xs (5 * q + 1) = x1) (es2 : xs (5 * q + 2) = x2) (es3 : xs (5 * q + 3) = x3) (es4 : xs (5 * q + 4) = x4) (hR : Rel E z g ro LL ff) (kk : ∀ (z' g' b' : Nat → Int32) (cr' ca' cg' ck' : Int32) (on' : Int64) (os' : Value) (th' : Int32) (ro' : Nat → Option Nat) (L' : List Nat) (f' : Nat → va_E), Rel E z' g' ro' L' f' → jJ p l e R s m args below meth c E A 7 Q (cs + 600) (sl + 10000) 1674 [(4, .int (nI (5 * q))), (3, .ref ot), (2, .ref mo), (1, .ref dk), (0, .ref bs)] [] (gW E t sz sg la dk ot mo ou (z') (g') (b') (cr') (ca') (cg') (ck') (on') (os') (th') (cr') (ca') (cg') (ck') (ro') (L') (f'))) : jJ p l e R s m args below meth c E A 7 Q cs sl 516 [(4, .int (nI (5 * q))), (3, .ref ot), (2, .ref mo), (1, .ref dk), (0, .ref bs)] [] (gW E t sz sg la dk ot mo ou z g b cr ca cg ck on os th cr ca cg ck ro LL ff) := by
  have hT := hR.tx
  rcases seat_cases x1 9 (by decide) with ⟨i, hi, rfl⟩ | hbx1
  · skip
    rcases hR.1 i (by omega) with ⟨hz_i, hr_i⟩ | ⟨a_i, n_i, h_i, hn_i, hz_i, hr_i, hm_i, hf_i, hs_i⟩
    · skip
      refine j_aload_n C dL_law_516 rfl ?_
      refine j_aload_n C dL_law_517 rfl ?_
      refine j_iload C dL_law_518 rfl ?_
      refine j_iconst (v := (nI 1)) C dL_law_520 rfl ?_
      refine j_iadd (z := (nI (5 * q + 1))) C dL_law_521 (nI_add _ _) ?_
      refine j_sld (z := (nI i)) C hX hbl hbA (5 * q + 1) rfl (by omega) (by omega) es1 dL_law_522 ?_
      refine j_aload_n C dL_law_523 rfl ?_
      refine j_callSH C (w_leave_r l E A (rr := z i) (f_leave_k l E A hi)) ok_L_leave w_453 (by decide) rfl rfl (Nat.le_of_ble_eq_true rfl) ⟨by omega, by omega⟩ dL_law_524 (fun _ _ h => ?_)
      obtain ⟨rfl, rfl⟩ := h
      refine j_istore (lv' := [(5, .int (nI 0)), (4, .int (nI (5 * q))), (3, .ref ot), (2, .ref mo), (1, .ref dk), (0, .ref bs)]) C dL_law_527 (by decide) rfl ?_
      refine j_aload_n C dL_law_529 rfl ?_
      refine j_aload_n C dL_law_530 rfl ?_
      refine j_iload C dL_law_531 rfl ?_
      refine j_iconst (v := (nI 1)) C dL_law_533 rfl ?_
      refine j_iadd (z := (nI (5 * q + 1))) C dL_law_534 (nI_add _ _) ?_
      refine j_sld (z := (nI i)) C hX hbl hbA (5 * q + 1) rfl (by omega) (by omega) es1 dL_law_535 ?_
      refine j_callVr C 6 (v := .int (-1)) (w := (gW E t sz sg la dk ot mo ou (upd z i (-1)) g b cr ca cg ck ((z i).toInt64) os (nI 0) cr ca cg ck (va_up ro i none) LL ff)) (g_leave_m l E A hi hr_i) ok_X5_leave w_1018 (by decide) rfl rfl (Nat.le_of_ble_eq_true rfl) rfl rfl ⟨by omega, by omega⟩ dL_law_536 ?_
      refine j_istore (lv' := [(6, .int (-1)), (5, .int (nI 0)), (4, .int (nI (5 * q))), (3, .ref ot), (2, .ref mo), (1, .ref dk), (0, .ref bs)]) C dL_law_539 (by decide) rfl ?_
      refine j_goto (tgt := 1674) C dL_law_541 (by decide) ?_
      refine j_lv (lv' := [(4, .int (nI (5 * q))), (3, .ref ot), (2, .ref mo), (1, .ref dk), (0, .ref bs)]) (by simp only [List.mem_cons, List.not_mem_nil, or_false, forall_eq_or_imp, forall_eq, true_or, or_true, and_self, Nat.add_zero]) ?_
      refine j_widen (k := cs + 600) (n := sl + 10000) (by omega) (by omega) ?_
      exact kk _ _ _ _ _ _ _ _ _ _ _ _ _ (hR.leave hi)
    · skip
      refine j_aload_n C dL_law_516 rfl ?_
      refine j_aload_n C dL_law_517 rfl ?_
      refine j_iload C dL_law_518 rfl ?_
      refine j_iconst (v := (nI 1)) C dL_law_520 rfl ?_
      refine j_iadd (z := (nI (5 * q + 1))) C dL_law_521 (nI_add _ _) ?_
      refine j_sld (z := (nI i)) C hX hbl hbA (5 * q + 1) rfl (by omega) (by omega) es1 dL_law_522 ?_
      refine j_aload_n C dL_law_523 rfl ?_
      refine j_callSH C (w_leave_r l E A (rr := z i) (f_leave_k l E A hi)) ok_L_leave w_453 (by decide) rfl rfl (Nat.le_of_ble_eq_true rfl) ⟨by omega, by omega⟩ dL_law_524 (fun _ _ h => ?_)
      obtain ⟨rfl, rfl⟩ := h
      refine j_istore (lv' := [(5, .int (nI 0)), (4, .int (nI (5 * q))), (3, .ref ot), (2, .ref mo), (1, .ref dk), (0, .ref bs)]) C dL_law_527 (by decide) rfl ?_
      refine j_aload_n C dL_law_529 rfl ?_
      refine j_aload_n C dL_law_530 rfl ?_
      refine j_iload C dL_law_531 rfl ?_
      refine j_iconst (v := (nI 1)) C dL_law_533 rfl ?_
      refine j_iadd (z := (nI (5 * q + 1))) C dL_law_534 (nI_add _ _) ?_
      refine j_sld (z := (nI i)) C hX hbl hbA (5 * q + 1) rfl (by omega) (by omega) es1 dL_law_535 ?_
      refine j_callVr C 6 (v := .int (nI n_i)) (w := (gW E t sz sg la dk ot mo ou (upd z i (-1)) g b cr ca cg ck ((z i).toInt64) os (nI 0) cr ca cg ck (va_up ro i none) LL ff)) (g_leave_k l E A hi hr_i hm_i hf_i hn_i) ok_X5_leave w_1018 (by decide) rfl rfl (Nat.le_of_ble_eq_true rfl) rfl rfl ⟨by omega, by omega⟩ dL_law_536 ?_
      refine j_istore (lv' := [(6, .int (nI n_i)), (5, .int (nI 0)), (4, .int (nI (5 * q))), (3, .ref ot), (2, .ref mo), (1, .ref dk), (0, .ref bs)]) C dL_law_539 (by decide) rfl ?_
      refine j_goto (tgt := 1674) C dL_law_541 (by decide) ?_
      refine j_lv (lv' := [(4, .int (nI (5 * q))), (3, .ref ot), (2, .ref mo), (1, .ref dk), (0, .ref bs)]) (by simp only [List.mem_cons, List.not_mem_nil, or_false, forall_eq_or_imp, forall_eq, true_or, or_true, and_self, Nat.add_zero]) ?_
      refine j_widen (k := cs + 600) (n := sl + 10000) (by omega) (by omega) ?_
      exact kk _ _ _ _ _ _ _ _ _ _ _ _ _ (hR.leave hi)
  · skip
    refine j_aload_n C dL_law_516 rfl ?_
    refine j_aload_n C dL_law_517 rfl ?_
    refine j_iload C dL_law_518 rfl ?_
    refine j_iconst (v := (nI 1)) C dL_law_520 rfl ?_
    refine j_iadd (z := (nI (5 * q + 1))) C dL_law_521 (nI_add _ _) ?_
    refine j_sld (z := x1) C hX hbl hbA (5 * q + 1) rfl (by omega) (by omega) es1 dL_law_522 ?_
    refine j_aload_n C dL_law_523 rfl ?_
    refine j_callSH C (w_leave_jIO l E A (f_leave_b l hl E A hbx1)) ok_L_leave w_453 (by decide) rfl rfl (Nat.le_of_ble_eq_true rfl) ⟨by omega, by omega⟩ dL_law_524 (fun _ _ h => ?_)
    obtain ⟨rfl, rfl⟩ := h
    refine j_istore (lv' := [(5, .int (nI 1)), (4, .int (nI (5 * q))), (3, .ref ot), (2, .ref mo), (1, .ref dk), (0, .ref bs)]) C dL_law_527 (by decide) rfl ?_
    refine j_aload_n C dL_law_529 rfl ?_
    refine j_aload_n C dL_law_530 rfl ?_
    refine j_iload C dL_law_531 rfl ?_
    refine j_iconst (v := (nI 1)) C dL_law_533 rfl ?_
    refine j_iadd (z := (nI (5 * q + 1))) C dL_law_534 (nI_add _ _) ?_
    refine j_sld (z := x1) C hX hbl hbA (5 * q + 1) rfl (by omega) (by omega) es1 dL_law_535 ?_
    refine j_callVr C 6 (v := .int (nI 0)) (w := (gW E t sz sg la dk ot mo ou z g b cr ca cg ck on os (nI 1) cr ca cg ck ro LL ff)) (g_leave_b l E A hbx1) ok_X5_leave w_1018 (by decide) rfl rfl (Nat.le_of_ble_eq_true rfl) rfl rfl ⟨by omega, by omega⟩ dL_law_536 ?_
    refine j_istore (lv' := [(6, .int (nI 0)), (5, .int (nI 1)), (4, .int (nI (5 * q))), (3, .ref ot), (2, .ref mo), (1, .ref dk), (0, .ref bs)]) C dL_law_539 (by decide) rfl ?_
    refine j_goto (tgt := 1674) C dL_law_541 (by decide) ?_
    refine j_lv (lv' := [(4, .int (nI (5 * q))), (3, .ref ot), (2, .ref mo), (1, .ref dk), (0, .ref bs)]) (by simp only [List.mem_cons, List.not_mem_nil, or_false, forall_eq_or_imp, forall_eq, true_or, or_true, and_self, Nat.add_zero]) ?_
    refine j_widen (k := cs + 600) (n := sl + 10000) (by omega) (by omega) ?_
    exact kk _ _ _ _ _ _ _ _ _ _ _ _ _ (hR)
set_option maxHeartbeats 4000000 in
set_option maxRecDepth 100000 in
theorem op_place (l : Launch) (hl : l.stackTraces = false) (E : jE) (A : Nat → Prop) {t sz sg la dk ot mo ou : Nat} {z g b : Nat → Int32} {cr ca cg ck : Int32} {on : Int64} {os : Value} {th : Int32} {ro : Nat → Option Nat} {LL : List Nat} {ff : Nat → va_E} {p : Program} {e : Env} {R : Room} {s : State} {m : MethodId} {args : Array Value} {below : List Frame} {meth : Method} {c : Code} {Q : State → Prop} {nn mc ms bs Ln q cs sl : Nat} {xs : Nat → Int32} {x1 x2 x3 x4 : Int32} (C : jC p l e R s m args below meth c x code 7 ret 2000 mc ms E A) (hX : va_X bs Ln xs s s.heap) (hbl : bs < s.heap.size) (hbA : ¬ A bs) (hLn : Ln ≤ 2560) (hq : 5 * q + 5 ≤ Ln) (hmc : cs + 600 ≤ mc) (hms : sl + 10000 ≤ ms) (es1 : xs (5 * q + 1) = x1) (es2 : xs (5 * q + 2) = x2) (es3 : xs (5 * q + 3) = x3) (es4 : xs (5 * q + 4) = x4) (hR : Rel E z g ro LL ff) (kk : ∀ (z' g' b' : Nat → Int32) (cr' ca' cg' ck' : Int32) (on' : Int64) (os' : Value) (th' : Int32) (ro' : Nat → Option Nat) (L' : List Nat) (f' : Nat → va_E), Rel E z' g' ro' L' f' → jJ p l e R s m args below meth c E A 7 Q (cs + 600) (sl + 10000) 1674 [(4, .int (nI (5 * q))), (3, .ref ot), (2, .ref mo), (1, .ref dk), (0, .ref bs)] [] (gW E t sz sg la dk ot mo ou (z') (g') (b') (cr') (ca') (cg') (ck') (on') (os') (th') (cr') (ca') (cg') (ck') (ro') (L') (f'))) : jJ p l e R s m args below meth c E A 7 Q cs sl 544 [(4, .int (nI (5 * q))), (3, .ref ot), (2, .ref mo), (1, .ref dk), (0, .ref bs)] [] (gW E t sz sg la dk ot mo ou z g b cr ca cg ck on os th cr ca cg ck ro LL ff) := by
  have hT := hR.tx
  by_cases hc : ¬ x1.toInt64 < 0 ∧ ¬ x2.toInt64 ≤ x1.toInt64
  · skip
    refine j_aload_n C dL_law_544 rfl ?_
    refine j_aload_n C dL_law_545 rfl ?_
    refine j_iload C dL_law_546 rfl ?_
    refine j_iconst (v := (nI 1)) C dL_law_548 rfl ?_
    refine j_iadd (z := (nI (5 * q + 1))) C dL_law_549 (nI_add _ _) ?_
    refine j_sld (z := x1) C hX hbl hbA (5 * q + 1) rfl (by omega) (by omega) es1 dL_law_550 ?_
    refine j_aload_n C dL_law_551 rfl ?_
    refine j_iload C dL_law_552 rfl ?_
    refine j_iconst (v := (nI 2)) C dL_law_554 rfl ?_
    refine j_iadd (z := (nI (5 * q + 2))) C dL_law_555 (nI_add _ _) ?_
    refine j_sld (z := x2) C hX hbl hbA (5 * q + 2) rfl (by omega) (by omega) es2 dL_law_556 ?_
    refine j_callVr C 4 (v := .int x1) (w := (gW E t sz sg la dk ot mo ou z g b cr ca cg ck on os th cr ca cg ck ro LL ff)) (f_place_k l E A hc) ok_X3_place w_89 (by decide) rfl rfl (Nat.le_of_ble_eq_true rfl) rfl rfl ⟨by omega, by omega⟩ dL_law_557 ?_
    refine j_pop C dL_law_560 rfl ?_
    refine j_aload_n C dL_law_561 rfl ?_
    refine j_aload_n C dL_law_562 rfl ?_
    refine j_iload C dL_law_563 rfl ?_
    refine j_iconst (v := (nI 1)) C dL_law_565 rfl ?_
    refine j_iadd (z := (nI (5 * q + 1))) C dL_law_566 (nI_add _ _) ?_
    refine j_sld (z := x1) C hX hbl hbA (5 * q + 1) rfl (by omega) (by omega) es1 dL_law_567 ?_
    refine j_aload_n C dL_law_568 rfl ?_
    refine j_iload C dL_law_569 rfl ?_
    refine j_iconst (v := (nI 2)) C dL_law_571 rfl ?_
    refine j_iadd (z := (nI (5 * q + 2))) C dL_law_572 (nI_add _ _) ?_
    refine j_sld (z := x2) C hX hbl hbA (5 * q + 2) rfl (by omega) (by omega) es2 dL_law_573 ?_
    refine j_callVr C 6 (v := .int x1) (w := (gW E t sz sg la dk ot mo ou z g b cr ca cg ck on os (nI 0) cr ca cg ck ro LL ff)) (g_place_k l E A ((place_iff x1 x2).mp hc)) ok_X5_place w_1022 (by decide) rfl rfl (Nat.le_of_ble_eq_true rfl) rfl rfl ⟨by omega, by omega⟩ dL_law_574 ?_
    refine j_pop C dL_law_577 rfl ?_
    refine j_goto (tgt := 1674) C dL_law_578 (by decide) ?_
    refine j_lv (lv' := [(4, .int (nI (5 * q))), (3, .ref ot), (2, .ref mo), (1, .ref dk), (0, .ref bs)]) (by simp only [List.mem_cons, List.not_mem_nil, or_false, forall_eq_or_imp, forall_eq, true_or, or_true, and_self, Nat.add_zero]) ?_
    refine j_widen (k := cs + 600) (n := sl + 10000) (by omega) (by omega) ?_
    exact kk _ _ _ _ _ _ _ _ _ _ _ _ _ (hR)
  · skip
    refine j_aload_n C dL_law_544 rfl ?_
    refine j_aload_n C dL_law_545 rfl ?_
    refine j_iload C dL_law_546 rfl ?_
    refine j_iconst (v := (nI 1)) C dL_law_548 rfl ?_
    refine j_iadd (z := (nI (5 * q + 1))) C dL_law_549 (nI_add _ _) ?_
    refine j_sld (z := x1) C hX hbl hbA (5 * q + 1) rfl (by omega) (by omega) es1 dL_law_550 ?_
    refine j_aload_n C dL_law_551 rfl ?_
    refine j_iload C dL_law_552 rfl ?_
    refine j_iconst (v := (nI 2)) C dL_law_554 rfl ?_
    refine j_iadd (z := (nI (5 * q + 2))) C dL_law_555 (nI_add _ _) ?_
    refine j_sld (z := x2) C hX hbl hbA (5 * q + 2) rfl (by omega) (by omega) es2 dL_law_556 ?_
    refine j_callVr C 4 (v := .int (-9)) (w := (gW E t sz sg la dk ot mo ou z g b (cr + nI 1) ca cg ck on os th cr ca cg ck ro LL ff)) (f_place_o l E A hc) ok_X3_place w_89 (by decide) rfl rfl (Nat.le_of_ble_eq_true rfl) rfl rfl ⟨by omega, by omega⟩ dL_law_557 ?_
    refine j_pop C dL_law_560 rfl ?_
    refine j_aload_n C dL_law_561 rfl ?_
    refine j_aload_n C dL_law_562 rfl ?_
    refine j_iload C dL_law_563 rfl ?_
    refine j_iconst (v := (nI 1)) C dL_law_565 rfl ?_
    refine j_iadd (z := (nI (5 * q + 1))) C dL_law_566 (nI_add _ _) ?_
    refine j_sld (z := x1) C hX hbl hbA (5 * q + 1) rfl (by omega) (by omega) es1 dL_law_567 ?_
    refine j_aload_n C dL_law_568 rfl ?_
    refine j_iload C dL_law_569 rfl ?_
    refine j_iconst (v := (nI 2)) C dL_law_571 rfl ?_
    refine j_iadd (z := (nI (5 * q + 2))) C dL_law_572 (nI_add _ _) ?_
    refine j_sld (z := x2) C hX hbl hbA (5 * q + 2) rfl (by omega) (by omega) es2 dL_law_573 ?_
    refine j_callVr C 6 (v := .int (-9)) (w := (gW E t sz sg la dk ot mo ou z g b (cr + nI 1) ca cg ck on os (nI 0) (cr + nI 1) ca cg ck ro LL ff)) (g_place_o l E A (fun q => hc ((place_iff x1 x2).mpr q))) ok_X5_place w_1022 (by decide) rfl rfl (Nat.le_of_ble_eq_true rfl) rfl rfl ⟨by omega, by omega⟩ dL_law_574 ?_
    refine j_pop C dL_law_577 rfl ?_
    refine j_goto (tgt := 1674) C dL_law_578 (by decide) ?_
    refine j_lv (lv' := [(4, .int (nI (5 * q))), (3, .ref ot), (2, .ref mo), (1, .ref dk), (0, .ref bs)]) (by simp only [List.mem_cons, List.not_mem_nil, or_false, forall_eq_or_imp, forall_eq, true_or, or_true, and_self, Nat.add_zero]) ?_
    refine j_widen (k := cs + 600) (n := sl + 10000) (by omega) (by omega) ?_
    exact kk _ _ _ _ _ _ _ _ _ _ _ _ _ (hR)
set_option maxHeartbeats 4000000 in
set_option maxRecDepth 100000 in
theorem op_span (l : Launch) (hl : l.stackTraces = false) (E : jE) (A : Nat → Prop) {t sz sg la dk ot mo ou : Nat} {z g b : Nat → Int32} {cr ca cg ck : Int32} {on : Int64} {os : Value} {th : Int32} {ro : Nat → Option Nat} {LL : List Nat} {ff : Nat → va_E} {p : Program} {e : Env} {R : Room} {s : State} {m : MethodId} {args : Array Value} {below : List Frame} {meth : Method} {c : Code} {Q : State → Prop} {nn mc ms bs Ln q cs sl : Nat} {xs : Nat → Int32} {x1 x2 x3 x4 : Int32} (C : jC p l e R s m args below meth c x code 7 ret 2000 mc ms E A) (hX : va_X bs Ln xs s s.heap) (hbl : bs < s.heap.size) (hbA : ¬ A bs) (hLn : Ln ≤ 2560) (hq : 5 * q + 5 ≤ Ln) (hmc : cs + 600 ≤ mc) (hms : sl + 10000 ≤ ms) (es1 : xs (5 * q + 1) = x1) (es2 : xs (5 * q + 2) = x2) (es3 : xs (5 * q + 3) = x3) (es4 : xs (5 * q + 4) = x4) (hR : Rel E z g ro LL ff) (kk : ∀ (z' g' b' : Nat → Int32) (cr' ca' cg' ck' : Int32) (on' : Int64) (os' : Value) (th' : Int32) (ro' : Nat → Option Nat) (L' : List Nat) (f' : Nat → va_E), Rel E z' g' ro' L' f' → jJ p l e R s m args below meth c E A 7 Q (cs + 600) (sl + 10000) 1674 [(4, .int (nI (5 * q))), (3, .ref ot), (2, .ref mo), (1, .ref dk), (0, .ref bs)] [] (gW E t sz sg la dk ot mo ou (z') (g') (b') (cr') (ca') (cg') (ck') (on') (os') (th') (cr') (ca') (cg') (ck') (ro') (L') (f'))) : jJ p l e R s m args below meth c E A 7 Q cs sl 581 [(4, .int (nI (5 * q))), (3, .ref ot), (2, .ref mo), (1, .ref dk), (0, .ref bs)] [] (gW E t sz sg la dk ot mo ou z g b cr ca cg ck on os th cr ca cg ck ro LL ff) := by
  have hT := hR.tx
  by_cases hc : ¬ x1.toInt64 < 0 ∧ ¬ x2.toInt64 < x1.toInt64 ∧ ¬ x3.toInt64 < x2.toInt64
  · skip
    refine j_aload_n C dL_law_581 rfl ?_
    refine j_aload_n C dL_law_582 rfl ?_
    refine j_iload C dL_law_583 rfl ?_
    refine j_iconst (v := (nI 1)) C dL_law_585 rfl ?_
    refine j_iadd (z := (nI (5 * q + 1))) C dL_law_586 (nI_add _ _) ?_
    refine j_sld (z := x1) C hX hbl hbA (5 * q + 1) rfl (by omega) (by omega) es1 dL_law_587 ?_
    refine j_aload_n C dL_law_588 rfl ?_
    refine j_iload C dL_law_589 rfl ?_
    refine j_iconst (v := (nI 2)) C dL_law_591 rfl ?_
    refine j_iadd (z := (nI (5 * q + 2))) C dL_law_592 (nI_add _ _) ?_
    refine j_sld (z := x2) C hX hbl hbA (5 * q + 2) rfl (by omega) (by omega) es2 dL_law_593 ?_
    refine j_aload_n C dL_law_594 rfl ?_
    refine j_iload C dL_law_595 rfl ?_
    refine j_iconst (v := (nI 3)) C dL_law_597 rfl ?_
    refine j_iadd (z := (nI (5 * q + 3))) C dL_law_598 (nI_add _ _) ?_
    refine j_sld (z := x3) C hX hbl hbA (5 * q + 3) rfl (by omega) (by omega) es3 dL_law_599 ?_
    refine j_callVr C 4 (v := .int x1) (w := (gW E t sz sg la dk ot mo ou z g b cr ca cg ck on os th cr ca cg ck ro LL ff)) (f_span_k l E A hc) ok_X3_span w_100 (by decide) rfl rfl (Nat.le_of_ble_eq_true rfl) rfl rfl ⟨by omega, by omega⟩ dL_law_600 ?_
    refine j_pop C dL_law_603 rfl ?_
    refine j_aload_n C dL_law_604 rfl ?_
    refine j_aload_n C dL_law_605 rfl ?_
    refine j_iload C dL_law_606 rfl ?_
    refine j_iconst (v := (nI 1)) C dL_law_608 rfl ?_
    refine j_iadd (z := (nI (5 * q + 1))) C dL_law_609 (nI_add _ _) ?_
    refine j_sld (z := x1) C hX hbl hbA (5 * q + 1) rfl (by omega) (by omega) es1 dL_law_610 ?_
    refine j_aload_n C dL_law_611 rfl ?_
    refine j_iload C dL_law_612 rfl ?_
    refine j_iconst (v := (nI 2)) C dL_law_614 rfl ?_
    refine j_iadd (z := (nI (5 * q + 2))) C dL_law_615 (nI_add _ _) ?_
    refine j_sld (z := x2) C hX hbl hbA (5 * q + 2) rfl (by omega) (by omega) es2 dL_law_616 ?_
    refine j_aload_n C dL_law_617 rfl ?_
    refine j_iload C dL_law_618 rfl ?_
    refine j_iconst (v := (nI 3)) C dL_law_620 rfl ?_
    refine j_iadd (z := (nI (5 * q + 3))) C dL_law_621 (nI_add _ _) ?_
    refine j_sld (z := x3) C hX hbl hbA (5 * q + 3) rfl (by omega) (by omega) es3 dL_law_622 ?_
    refine j_callVr C 6 (v := .int x1) (w := (gW E t sz sg la dk ot mo ou z g b cr ca cg ck on os (nI 0) cr ca cg ck ro LL ff)) (g_span_k l E A hc) ok_X5_span w_1030 (by decide) rfl rfl (Nat.le_of_ble_eq_true rfl) rfl rfl ⟨by omega, by omega⟩ dL_law_623 ?_
    refine j_pop C dL_law_626 rfl ?_
    refine j_goto (tgt := 1674) C dL_law_627 (by decide) ?_
    refine j_lv (lv' := [(4, .int (nI (5 * q))), (3, .ref ot), (2, .ref mo), (1, .ref dk), (0, .ref bs)]) (by simp only [List.mem_cons, List.not_mem_nil, or_false, forall_eq_or_imp, forall_eq, true_or, or_true, and_self, Nat.add_zero]) ?_
    refine j_widen (k := cs + 600) (n := sl + 10000) (by omega) (by omega) ?_
    exact kk _ _ _ _ _ _ _ _ _ _ _ _ _ (hR)
  · skip
    refine j_aload_n C dL_law_581 rfl ?_
    refine j_aload_n C dL_law_582 rfl ?_
    refine j_iload C dL_law_583 rfl ?_
    refine j_iconst (v := (nI 1)) C dL_law_585 rfl ?_
    refine j_iadd (z := (nI (5 * q + 1))) C dL_law_586 (nI_add _ _) ?_
    refine j_sld (z := x1) C hX hbl hbA (5 * q + 1) rfl (by omega) (by omega) es1 dL_law_587 ?_
    refine j_aload_n C dL_law_588 rfl ?_
    refine j_iload C dL_law_589 rfl ?_
    refine j_iconst (v := (nI 2)) C dL_law_591 rfl ?_
    refine j_iadd (z := (nI (5 * q + 2))) C dL_law_592 (nI_add _ _) ?_
    refine j_sld (z := x2) C hX hbl hbA (5 * q + 2) rfl (by omega) (by omega) es2 dL_law_593 ?_
    refine j_aload_n C dL_law_594 rfl ?_
    refine j_iload C dL_law_595 rfl ?_
    refine j_iconst (v := (nI 3)) C dL_law_597 rfl ?_
    refine j_iadd (z := (nI (5 * q + 3))) C dL_law_598 (nI_add _ _) ?_
    refine j_sld (z := x3) C hX hbl hbA (5 * q + 3) rfl (by omega) (by omega) es3 dL_law_599 ?_
    refine j_callVr C 4 (v := .int (-9)) (w := (gW E t sz sg la dk ot mo ou z g b (cr + nI 1) ca cg ck on os th cr ca cg ck ro LL ff)) (f_span_o l E A hc) ok_X3_span w_100 (by decide) rfl rfl (Nat.le_of_ble_eq_true rfl) rfl rfl ⟨by omega, by omega⟩ dL_law_600 ?_
    refine j_pop C dL_law_603 rfl ?_
    refine j_aload_n C dL_law_604 rfl ?_
    refine j_aload_n C dL_law_605 rfl ?_
    refine j_iload C dL_law_606 rfl ?_
    refine j_iconst (v := (nI 1)) C dL_law_608 rfl ?_
    refine j_iadd (z := (nI (5 * q + 1))) C dL_law_609 (nI_add _ _) ?_
    refine j_sld (z := x1) C hX hbl hbA (5 * q + 1) rfl (by omega) (by omega) es1 dL_law_610 ?_
    refine j_aload_n C dL_law_611 rfl ?_
    refine j_iload C dL_law_612 rfl ?_
    refine j_iconst (v := (nI 2)) C dL_law_614 rfl ?_
    refine j_iadd (z := (nI (5 * q + 2))) C dL_law_615 (nI_add _ _) ?_
    refine j_sld (z := x2) C hX hbl hbA (5 * q + 2) rfl (by omega) (by omega) es2 dL_law_616 ?_
    refine j_aload_n C dL_law_617 rfl ?_
    refine j_iload C dL_law_618 rfl ?_
    refine j_iconst (v := (nI 3)) C dL_law_620 rfl ?_
    refine j_iadd (z := (nI (5 * q + 3))) C dL_law_621 (nI_add _ _) ?_
    refine j_sld (z := x3) C hX hbl hbA (5 * q + 3) rfl (by omega) (by omega) es3 dL_law_622 ?_
    refine j_callVr C 6 (v := .int (-9)) (w := (gW E t sz sg la dk ot mo ou z g b (cr + nI 1) ca cg ck on os (nI 0) (cr + nI 1) ca cg ck ro LL ff)) (g_span_o l E A hc) ok_X5_span w_1030 (by decide) rfl rfl (Nat.le_of_ble_eq_true rfl) rfl rfl ⟨by omega, by omega⟩ dL_law_623 ?_
    refine j_pop C dL_law_626 rfl ?_
    refine j_goto (tgt := 1674) C dL_law_627 (by decide) ?_
    refine j_lv (lv' := [(4, .int (nI (5 * q))), (3, .ref ot), (2, .ref mo), (1, .ref dk), (0, .ref bs)]) (by simp only [List.mem_cons, List.not_mem_nil, or_false, forall_eq_or_imp, forall_eq, true_or, or_true, and_self, Nat.add_zero]) ?_
    refine j_widen (k := cs + 600) (n := sl + 10000) (by omega) (by omega) ?_
    exact kk _ _ _ _ _ _ _ _ _ _ _ _ _ (hR)
set_option maxHeartbeats 4000000 in
set_option maxRecDepth 100000 in
theorem op_stretch (l : Launch) (hl : l.stackTraces = false) (E : jE) (A : Nat → Prop) {t sz sg la dk ot mo ou : Nat} {z g b : Nat → Int32} {cr ca cg ck : Int32} {on : Int64} {os : Value} {th : Int32} {ro : Nat → Option Nat} {LL : List Nat} {ff : Nat → va_E} {p : Program} {e : Env} {R : Room} {s : State} {m : MethodId} {args : Array Value} {below : List Frame} {meth : Method} {c : Code} {Q : State → Prop} {nn mc ms bs Ln q cs sl : Nat} {xs : Nat → Int32} {x1 x2 x3 x4 : Int32} (C : jC p l e R s m args below meth c x code 7 ret 2000 mc ms E A) (hX : va_X bs Ln xs s s.heap) (hbl : bs < s.heap.size) (hbA : ¬ A bs) (hLn : Ln ≤ 2560) (hq : 5 * q + 5 ≤ Ln) (hmc : cs + 600 ≤ mc) (hms : sl + 10000 ≤ ms) (es1 : xs (5 * q + 1) = x1) (es2 : xs (5 * q + 2) = x2) (es3 : xs (5 * q + 3) = x3) (es4 : xs (5 * q + 4) = x4) (hR : Rel E z g ro LL ff) (kk : ∀ (z' g' b' : Nat → Int32) (cr' ca' cg' ck' : Int32) (on' : Int64) (os' : Value) (th' : Int32) (ro' : Nat → Option Nat) (L' : List Nat) (f' : Nat → va_E), Rel E z' g' ro' L' f' → jJ p l e R s m args below meth c E A 7 Q (cs + 600) (sl + 10000) 1674 [(4, .int (nI (5 * q))), (3, .ref ot), (2, .ref mo), (1, .ref dk), (0, .ref bs)] [] (gW E t sz sg la dk ot mo ou (z') (g') (b') (cr') (ca') (cg') (ck') (on') (os') (th') (cr') (ca') (cg') (ck') (ro') (L') (f'))) : jJ p l e R s m args below meth c E A 7 Q cs sl 630 [(4, .int (nI (5 * q))), (3, .ref ot), (2, .ref mo), (1, .ref dk), (0, .ref bs)] [] (gW E t sz sg la dk ot mo ou z g b cr ca cg ck on os th cr ca cg ck ro LL ff) := by
  have hT := hR.tx
  by_cases hc : ¬ x1.toInt64 < 0 ∧ ¬ x2.toInt64 < 0 ∧ ¬ x3.toInt64 < 0 ∧ ¬ x3.toInt64 - x2.toInt64 < x1.toInt64
  · skip
    refine j_aload_n C dL_law_630 rfl ?_
    refine j_aload_n C dL_law_631 rfl ?_
    refine j_iload C dL_law_632 rfl ?_
    refine j_iconst (v := (nI 1)) C dL_law_634 rfl ?_
    refine j_iadd (z := (nI (5 * q + 1))) C dL_law_635 (nI_add _ _) ?_
    refine j_sld (z := x1) C hX hbl hbA (5 * q + 1) rfl (by omega) (by omega) es1 dL_law_636 ?_
    refine j_aload_n C dL_law_637 rfl ?_
    refine j_iload C dL_law_638 rfl ?_
    refine j_iconst (v := (nI 2)) C dL_law_640 rfl ?_
    refine j_iadd (z := (nI (5 * q + 2))) C dL_law_641 (nI_add _ _) ?_
    refine j_sld (z := x2) C hX hbl hbA (5 * q + 2) rfl (by omega) (by omega) es2 dL_law_642 ?_
    refine j_aload_n C dL_law_643 rfl ?_
    refine j_iload C dL_law_644 rfl ?_
    refine j_iconst (v := (nI 3)) C dL_law_646 rfl ?_
    refine j_iadd (z := (nI (5 * q + 3))) C dL_law_647 (nI_add _ _) ?_
    refine j_sld (z := x3) C hX hbl hbA (5 * q + 3) rfl (by omega) (by omega) es3 dL_law_648 ?_
    refine j_callVr C 4 (v := .int x1) (w := (gW E t sz sg la dk ot mo ou z g b cr ca cg ck on os th cr ca cg ck ro LL ff)) (f_stretch_k l E A hc) ok_X3_stretch w_107 (by decide) rfl rfl (Nat.le_of_ble_eq_true rfl) rfl rfl ⟨by omega, by omega⟩ dL_law_649 ?_
    refine j_pop C dL_law_652 rfl ?_
    refine j_aload_n C dL_law_653 rfl ?_
    refine j_aload_n C dL_law_654 rfl ?_
    refine j_iload C dL_law_655 rfl ?_
    refine j_iconst (v := (nI 1)) C dL_law_657 rfl ?_
    refine j_iadd (z := (nI (5 * q + 1))) C dL_law_658 (nI_add _ _) ?_
    refine j_sld (z := x1) C hX hbl hbA (5 * q + 1) rfl (by omega) (by omega) es1 dL_law_659 ?_
    refine j_aload_n C dL_law_660 rfl ?_
    refine j_iload C dL_law_661 rfl ?_
    refine j_iconst (v := (nI 2)) C dL_law_663 rfl ?_
    refine j_iadd (z := (nI (5 * q + 2))) C dL_law_664 (nI_add _ _) ?_
    refine j_sld (z := x2) C hX hbl hbA (5 * q + 2) rfl (by omega) (by omega) es2 dL_law_665 ?_
    refine j_aload_n C dL_law_666 rfl ?_
    refine j_iload C dL_law_667 rfl ?_
    refine j_iconst (v := (nI 3)) C dL_law_669 rfl ?_
    refine j_iadd (z := (nI (5 * q + 3))) C dL_law_670 (nI_add _ _) ?_
    refine j_sld (z := x3) C hX hbl hbA (5 * q + 3) rfl (by omega) (by omega) es3 dL_law_671 ?_
    refine j_callVr C 6 (v := .int x1) (w := (gW E t sz sg la dk ot mo ou z g b cr ca cg ck on os (nI 0) cr ca cg ck ro LL ff)) (g_stretch_k l E A ((stretch_iff x1 x2 x3).mp hc)) ok_X5_stretch w_1034 (by decide) rfl rfl (Nat.le_of_ble_eq_true rfl) rfl rfl ⟨by omega, by omega⟩ dL_law_672 ?_
    refine j_pop C dL_law_675 rfl ?_
    refine j_goto (tgt := 1674) C dL_law_676 (by decide) ?_
    refine j_lv (lv' := [(4, .int (nI (5 * q))), (3, .ref ot), (2, .ref mo), (1, .ref dk), (0, .ref bs)]) (by simp only [List.mem_cons, List.not_mem_nil, or_false, forall_eq_or_imp, forall_eq, true_or, or_true, and_self, Nat.add_zero]) ?_
    refine j_widen (k := cs + 600) (n := sl + 10000) (by omega) (by omega) ?_
    exact kk _ _ _ _ _ _ _ _ _ _ _ _ _ (hR)
  · skip
    refine j_aload_n C dL_law_630 rfl ?_
    refine j_aload_n C dL_law_631 rfl ?_
    refine j_iload C dL_law_632 rfl ?_
    refine j_iconst (v := (nI 1)) C dL_law_634 rfl ?_
    refine j_iadd (z := (nI (5 * q + 1))) C dL_law_635 (nI_add _ _) ?_
    refine j_sld (z := x1) C hX hbl hbA (5 * q + 1) rfl (by omega) (by omega) es1 dL_law_636 ?_
    refine j_aload_n C dL_law_637 rfl ?_
    refine j_iload C dL_law_638 rfl ?_
    refine j_iconst (v := (nI 2)) C dL_law_640 rfl ?_
    refine j_iadd (z := (nI (5 * q + 2))) C dL_law_641 (nI_add _ _) ?_
    refine j_sld (z := x2) C hX hbl hbA (5 * q + 2) rfl (by omega) (by omega) es2 dL_law_642 ?_
    refine j_aload_n C dL_law_643 rfl ?_
    refine j_iload C dL_law_644 rfl ?_
    refine j_iconst (v := (nI 3)) C dL_law_646 rfl ?_
    refine j_iadd (z := (nI (5 * q + 3))) C dL_law_647 (nI_add _ _) ?_
    refine j_sld (z := x3) C hX hbl hbA (5 * q + 3) rfl (by omega) (by omega) es3 dL_law_648 ?_
    refine j_callVr C 4 (v := .int (-9)) (w := (gW E t sz sg la dk ot mo ou z g b (cr + nI 1) ca cg ck on os th cr ca cg ck ro LL ff)) (f_stretch_o l E A hc) ok_X3_stretch w_107 (by decide) rfl rfl (Nat.le_of_ble_eq_true rfl) rfl rfl ⟨by omega, by omega⟩ dL_law_649 ?_
    refine j_pop C dL_law_652 rfl ?_
    refine j_aload_n C dL_law_653 rfl ?_
    refine j_aload_n C dL_law_654 rfl ?_
    refine j_iload C dL_law_655 rfl ?_
    refine j_iconst (v := (nI 1)) C dL_law_657 rfl ?_
    refine j_iadd (z := (nI (5 * q + 1))) C dL_law_658 (nI_add _ _) ?_
    refine j_sld (z := x1) C hX hbl hbA (5 * q + 1) rfl (by omega) (by omega) es1 dL_law_659 ?_
    refine j_aload_n C dL_law_660 rfl ?_
    refine j_iload C dL_law_661 rfl ?_
    refine j_iconst (v := (nI 2)) C dL_law_663 rfl ?_
    refine j_iadd (z := (nI (5 * q + 2))) C dL_law_664 (nI_add _ _) ?_
    refine j_sld (z := x2) C hX hbl hbA (5 * q + 2) rfl (by omega) (by omega) es2 dL_law_665 ?_
    refine j_aload_n C dL_law_666 rfl ?_
    refine j_iload C dL_law_667 rfl ?_
    refine j_iconst (v := (nI 3)) C dL_law_669 rfl ?_
    refine j_iadd (z := (nI (5 * q + 3))) C dL_law_670 (nI_add _ _) ?_
    refine j_sld (z := x3) C hX hbl hbA (5 * q + 3) rfl (by omega) (by omega) es3 dL_law_671 ?_
    refine j_callVr C 6 (v := .int (-9)) (w := (gW E t sz sg la dk ot mo ou z g b (cr + nI 1) ca cg ck on os (nI 0) (cr + nI 1) ca cg ck ro LL ff)) (g_stretch_o l E A (fun q => hc ((stretch_iff x1 x2 x3).mpr q))) ok_X5_stretch w_1034 (by decide) rfl rfl (Nat.le_of_ble_eq_true rfl) rfl rfl ⟨by omega, by omega⟩ dL_law_672 ?_
    refine j_pop C dL_law_675 rfl ?_
    refine j_goto (tgt := 1674) C dL_law_676 (by decide) ?_
    refine j_lv (lv' := [(4, .int (nI (5 * q))), (3, .ref ot), (2, .ref mo), (1, .ref dk), (0, .ref bs)]) (by simp only [List.mem_cons, List.not_mem_nil, or_false, forall_eq_or_imp, forall_eq, true_or, or_true, and_self, Nat.add_zero]) ?_
    refine j_widen (k := cs + 600) (n := sl + 10000) (by omega) (by omega) ?_
    exact kk _ _ _ _ _ _ _ _ _ _ _ _ _ (hR)
set_option maxHeartbeats 4000000 in
set_option maxRecDepth 100000 in
theorem op_isFarPlace (l : Launch) (hl : l.stackTraces = false) (E : jE) (A : Nat → Prop) {t sz sg la dk ot mo ou : Nat} {z g b : Nat → Int32} {cr ca cg ck : Int32} {on : Int64} {os : Value} {th : Int32} {ro : Nat → Option Nat} {LL : List Nat} {ff : Nat → va_E} {p : Program} {e : Env} {R : Room} {s : State} {m : MethodId} {args : Array Value} {below : List Frame} {meth : Method} {c : Code} {Q : State → Prop} {nn mc ms bs Ln q cs sl : Nat} {xs : Nat → Int32} {x1 x2 x3 x4 : Int32} (C : jC p l e R s m args below meth c x code 7 ret 2000 mc ms E A) (hX : va_X bs Ln xs s s.heap) (hbl : bs < s.heap.size) (hbA : ¬ A bs) (hLn : Ln ≤ 2560) (hq : 5 * q + 5 ≤ Ln) (hmc : cs + 600 ≤ mc) (hms : sl + 10000 ≤ ms) (es1 : xs (5 * q + 1) = x1) (es2 : xs (5 * q + 2) = x2) (es3 : xs (5 * q + 3) = x3) (es4 : xs (5 * q + 4) = x4) (hR : Rel E z g ro LL ff) (kk : ∀ (z' g' b' : Nat → Int32) (cr' ca' cg' ck' : Int32) (on' : Int64) (os' : Value) (th' : Int32) (ro' : Nat → Option Nat) (L' : List Nat) (f' : Nat → va_E), Rel E z' g' ro' L' f' → jJ p l e R s m args below meth c E A 7 Q (cs + 600) (sl + 10000) 1674 [(4, .int (nI (5 * q))), (3, .ref ot), (2, .ref mo), (1, .ref dk), (0, .ref bs)] [] (gW E t sz sg la dk ot mo ou (z') (g') (b') (cr') (ca') (cg') (ck') (on') (os') (th') (cr') (ca') (cg') (ck') (ro') (L') (f'))) : jJ p l e R s m args below meth c E A 7 Q cs sl 679 [(4, .int (nI (5 * q))), (3, .ref ot), (2, .ref mo), (1, .ref dk), (0, .ref bs)] [] (gW E t sz sg la dk ot mo ou z g b cr ca cg ck on os th cr ca cg ck ro LL ff) := by
  have hT := hR.tx
  refine j_aload_n C dL_law_679 rfl ?_
  refine j_aload_n C dL_law_680 rfl ?_
  refine j_iload C dL_law_681 rfl ?_
  refine j_iconst (v := (nI 1)) C dL_law_683 rfl ?_
  refine j_iadd (z := (nI (5 * q + 1))) C dL_law_684 (nI_add _ _) ?_
  refine j_sld (z := x1) C hX hbl hbA (5 * q + 1) rfl (by omega) (by omega) es1 dL_law_685 ?_
  refine j_aload_n C dL_law_686 rfl ?_
  refine j_iload C dL_law_687 rfl ?_
  refine j_iconst (v := (nI 2)) C dL_law_689 rfl ?_
  refine j_iadd (z := (nI (5 * q + 2))) C dL_law_690 (nI_add _ _) ?_
  refine j_sld (z := x2) C hX hbl hbA (5 * q + 2) rfl (by omega) (by omega) es2 dL_law_691 ?_
  refine j_callVr C 4 (v := .int (bI (¬ (x1.toInt64 * 4294967296) < 0 ∧ ¬ (x2.toInt64 * 4294967296) ≤ (x1.toInt64 * 4294967296)))) (w := (gW E t sz sg la dk ot mo ou z g b cr ca cg ck on os th cr ca cg ck ro LL ff)) (f_isFarPlace_k l E A) ok_X3_isFarPlace w_114 (by decide) rfl rfl (Nat.le_of_ble_eq_true rfl) rfl rfl ⟨by omega, by omega⟩ dL_law_692 ?_
  refine j_pop C dL_law_695 rfl ?_
  refine j_aload_n C dL_law_696 rfl ?_
  refine j_aload_n C dL_law_697 rfl ?_
  refine j_iload C dL_law_698 rfl ?_
  refine j_iconst (v := (nI 1)) C dL_law_700 rfl ?_
  refine j_iadd (z := (nI (5 * q + 1))) C dL_law_701 (nI_add _ _) ?_
  refine j_sld (z := x1) C hX hbl hbA (5 * q + 1) rfl (by omega) (by omega) es1 dL_law_702 ?_
  refine j_aload_n C dL_law_703 rfl ?_
  refine j_iload C dL_law_704 rfl ?_
  refine j_iconst (v := (nI 2)) C dL_law_706 rfl ?_
  refine j_iadd (z := (nI (5 * q + 2))) C dL_law_707 (nI_add _ _) ?_
  refine j_sld (z := x2) C hX hbl hbA (5 * q + 2) rfl (by omega) (by omega) es2 dL_law_708 ?_
  refine j_callVr C 6 (v := .int (bI (¬ x1 < 0 ∧ ¬ x2 ≤ x1))) (w := (gW E t sz sg la dk ot mo ou z g b cr ca cg ck on os (nI 0) cr ca cg ck ro LL ff)) (g_isFarPlace_k l E A) ok_X5_isFarPlace w_1038 (by decide) rfl rfl (Nat.le_of_ble_eq_true rfl) rfl rfl ⟨by omega, by omega⟩ dL_law_709 ?_
  refine j_pop C dL_law_712 rfl ?_
  refine j_goto (tgt := 1674) C dL_law_713 (by decide) ?_
  refine j_lv (lv' := [(4, .int (nI (5 * q))), (3, .ref ot), (2, .ref mo), (1, .ref dk), (0, .ref bs)]) (by simp only [List.mem_cons, List.not_mem_nil, or_false, forall_eq_or_imp, forall_eq, true_or, or_true, and_self, Nat.add_zero]) ?_
  refine j_widen (k := cs + 600) (n := sl + 10000) (by omega) (by omega) ?_
  exact kk _ _ _ _ _ _ _ _ _ _ _ _ _ (hR)
set_option maxHeartbeats 4000000 in
set_option maxRecDepth 100000 in
theorem op_isFarSpan (l : Launch) (hl : l.stackTraces = false) (E : jE) (A : Nat → Prop) {t sz sg la dk ot mo ou : Nat} {z g b : Nat → Int32} {cr ca cg ck : Int32} {on : Int64} {os : Value} {th : Int32} {ro : Nat → Option Nat} {LL : List Nat} {ff : Nat → va_E} {p : Program} {e : Env} {R : Room} {s : State} {m : MethodId} {args : Array Value} {below : List Frame} {meth : Method} {c : Code} {Q : State → Prop} {nn mc ms bs Ln q cs sl : Nat} {xs : Nat → Int32} {x1 x2 x3 x4 : Int32} (C : jC p l e R s m args below meth c x code 7 ret 2000 mc ms E A) (hX : va_X bs Ln xs s s.heap) (hbl : bs < s.heap.size) (hbA : ¬ A bs) (hLn : Ln ≤ 2560) (hq : 5 * q + 5 ≤ Ln) (hmc : cs + 600 ≤ mc) (hms : sl + 10000 ≤ ms) (es1 : xs (5 * q + 1) = x1) (es2 : xs (5 * q + 2) = x2) (es3 : xs (5 * q + 3) = x3) (es4 : xs (5 * q + 4) = x4) (hR : Rel E z g ro LL ff) (kk : ∀ (z' g' b' : Nat → Int32) (cr' ca' cg' ck' : Int32) (on' : Int64) (os' : Value) (th' : Int32) (ro' : Nat → Option Nat) (L' : List Nat) (f' : Nat → va_E), Rel E z' g' ro' L' f' → jJ p l e R s m args below meth c E A 7 Q (cs + 600) (sl + 10000) 1674 [(4, .int (nI (5 * q))), (3, .ref ot), (2, .ref mo), (1, .ref dk), (0, .ref bs)] [] (gW E t sz sg la dk ot mo ou (z') (g') (b') (cr') (ca') (cg') (ck') (on') (os') (th') (cr') (ca') (cg') (ck') (ro') (L') (f'))) : jJ p l e R s m args below meth c E A 7 Q cs sl 716 [(4, .int (nI (5 * q))), (3, .ref ot), (2, .ref mo), (1, .ref dk), (0, .ref bs)] [] (gW E t sz sg la dk ot mo ou z g b cr ca cg ck on os th cr ca cg ck ro LL ff) := by
  have hT := hR.tx
  refine j_aload_n C dL_law_716 rfl ?_
  refine j_aload_n C dL_law_717 rfl ?_
  refine j_iload C dL_law_718 rfl ?_
  refine j_iconst (v := (nI 1)) C dL_law_720 rfl ?_
  refine j_iadd (z := (nI (5 * q + 1))) C dL_law_721 (nI_add _ _) ?_
  refine j_sld (z := x1) C hX hbl hbA (5 * q + 1) rfl (by omega) (by omega) es1 dL_law_722 ?_
  refine j_aload_n C dL_law_723 rfl ?_
  refine j_iload C dL_law_724 rfl ?_
  refine j_iconst (v := (nI 2)) C dL_law_726 rfl ?_
  refine j_iadd (z := (nI (5 * q + 2))) C dL_law_727 (nI_add _ _) ?_
  refine j_sld (z := x2) C hX hbl hbA (5 * q + 2) rfl (by omega) (by omega) es2 dL_law_728 ?_
  refine j_aload_n C dL_law_729 rfl ?_
  refine j_iload C dL_law_730 rfl ?_
  refine j_iconst (v := (nI 3)) C dL_law_732 rfl ?_
  refine j_iadd (z := (nI (5 * q + 3))) C dL_law_733 (nI_add _ _) ?_
  refine j_sld (z := x3) C hX hbl hbA (5 * q + 3) rfl (by omega) (by omega) es3 dL_law_734 ?_
  refine j_callVr C 4 (v := .int (bI (¬ (x1.toInt64 * 4294967296) < 0 ∧ ¬ (x2.toInt64 * 4294967296) < (x1.toInt64 * 4294967296) ∧ ¬ (x3.toInt64 * 4294967296) < (x2.toInt64 * 4294967296)))) (w := (gW E t sz sg la dk ot mo ou z g b cr ca cg ck on os th cr ca cg ck ro LL ff)) (f_isFarSpan_k l E A) ok_X3_isFarSpan w_122 (by decide) rfl rfl (Nat.le_of_ble_eq_true rfl) rfl rfl ⟨by omega, by omega⟩ dL_law_735 ?_
  refine j_pop C dL_law_738 rfl ?_
  refine j_aload_n C dL_law_739 rfl ?_
  refine j_aload_n C dL_law_740 rfl ?_
  refine j_iload C dL_law_741 rfl ?_
  refine j_iconst (v := (nI 1)) C dL_law_743 rfl ?_
  refine j_iadd (z := (nI (5 * q + 1))) C dL_law_744 (nI_add _ _) ?_
  refine j_sld (z := x1) C hX hbl hbA (5 * q + 1) rfl (by omega) (by omega) es1 dL_law_745 ?_
  refine j_aload_n C dL_law_746 rfl ?_
  refine j_iload C dL_law_747 rfl ?_
  refine j_iconst (v := (nI 2)) C dL_law_749 rfl ?_
  refine j_iadd (z := (nI (5 * q + 2))) C dL_law_750 (nI_add _ _) ?_
  refine j_sld (z := x2) C hX hbl hbA (5 * q + 2) rfl (by omega) (by omega) es2 dL_law_751 ?_
  refine j_aload_n C dL_law_752 rfl ?_
  refine j_iload C dL_law_753 rfl ?_
  refine j_iconst (v := (nI 3)) C dL_law_755 rfl ?_
  refine j_iadd (z := (nI (5 * q + 3))) C dL_law_756 (nI_add _ _) ?_
  refine j_sld (z := x3) C hX hbl hbA (5 * q + 3) rfl (by omega) (by omega) es3 dL_law_757 ?_
  refine j_callVr C 6 (v := .int (bI (¬ x1.toInt64 < 0 ∧ ¬ x2.toInt64 < x1.toInt64 ∧ ¬ x3.toInt64 < x2.toInt64))) (w := (gW E t sz sg la dk ot mo ou z g b cr ca cg ck on os (nI 0) cr ca cg ck ro LL ff)) (g_isFarSpan_k l E A) ok_X5_isFarSpan w_1046 (by decide) rfl rfl (Nat.le_of_ble_eq_true rfl) rfl rfl ⟨by omega, by omega⟩ dL_law_758 ?_
  refine j_pop C dL_law_761 rfl ?_
  refine j_goto (tgt := 1674) C dL_law_762 (by decide) ?_
  refine j_lv (lv' := [(4, .int (nI (5 * q))), (3, .ref ot), (2, .ref mo), (1, .ref dk), (0, .ref bs)]) (by simp only [List.mem_cons, List.not_mem_nil, or_false, forall_eq_or_imp, forall_eq, true_or, or_true, and_self, Nat.add_zero]) ?_
  refine j_widen (k := cs + 600) (n := sl + 10000) (by omega) (by omega) ?_
  exact kk _ _ _ _ _ _ _ _ _ _ _ _ _ (hR)
set_option maxHeartbeats 4000000 in
set_option maxRecDepth 100000 in
theorem op_isFarStretch (l : Launch) (hl : l.stackTraces = false) (E : jE) (A : Nat → Prop) {t sz sg la dk ot mo ou : Nat} {z g b : Nat → Int32} {cr ca cg ck : Int32} {on : Int64} {os : Value} {th : Int32} {ro : Nat → Option Nat} {LL : List Nat} {ff : Nat → va_E} {p : Program} {e : Env} {R : Room} {s : State} {m : MethodId} {args : Array Value} {below : List Frame} {meth : Method} {c : Code} {Q : State → Prop} {nn mc ms bs Ln q cs sl : Nat} {xs : Nat → Int32} {x1 x2 x3 x4 : Int32} (C : jC p l e R s m args below meth c x code 7 ret 2000 mc ms E A) (hX : va_X bs Ln xs s s.heap) (hbl : bs < s.heap.size) (hbA : ¬ A bs) (hLn : Ln ≤ 2560) (hq : 5 * q + 5 ≤ Ln) (hmc : cs + 600 ≤ mc) (hms : sl + 10000 ≤ ms) (es1 : xs (5 * q + 1) = x1) (es2 : xs (5 * q + 2) = x2) (es3 : xs (5 * q + 3) = x3) (es4 : xs (5 * q + 4) = x4) (hR : Rel E z g ro LL ff) (kk : ∀ (z' g' b' : Nat → Int32) (cr' ca' cg' ck' : Int32) (on' : Int64) (os' : Value) (th' : Int32) (ro' : Nat → Option Nat) (L' : List Nat) (f' : Nat → va_E), Rel E z' g' ro' L' f' → jJ p l e R s m args below meth c E A 7 Q (cs + 600) (sl + 10000) 1674 [(4, .int (nI (5 * q))), (3, .ref ot), (2, .ref mo), (1, .ref dk), (0, .ref bs)] [] (gW E t sz sg la dk ot mo ou (z') (g') (b') (cr') (ca') (cg') (ck') (on') (os') (th') (cr') (ca') (cg') (ck') (ro') (L') (f'))) : jJ p l e R s m args below meth c E A 7 Q cs sl 765 [(4, .int (nI (5 * q))), (3, .ref ot), (2, .ref mo), (1, .ref dk), (0, .ref bs)] [] (gW E t sz sg la dk ot mo ou z g b cr ca cg ck on os th cr ca cg ck ro LL ff) := by
  have hT := hR.tx
  refine j_aload_n C dL_law_765 rfl ?_
  refine j_aload_n C dL_law_766 rfl ?_
  refine j_iload C dL_law_767 rfl ?_
  refine j_iconst (v := (nI 1)) C dL_law_769 rfl ?_
  refine j_iadd (z := (nI (5 * q + 1))) C dL_law_770 (nI_add _ _) ?_
  refine j_sld (z := x1) C hX hbl hbA (5 * q + 1) rfl (by omega) (by omega) es1 dL_law_771 ?_
  refine j_aload_n C dL_law_772 rfl ?_
  refine j_iload C dL_law_773 rfl ?_
  refine j_iconst (v := (nI 2)) C dL_law_775 rfl ?_
  refine j_iadd (z := (nI (5 * q + 2))) C dL_law_776 (nI_add _ _) ?_
  refine j_sld (z := x2) C hX hbl hbA (5 * q + 2) rfl (by omega) (by omega) es2 dL_law_777 ?_
  refine j_aload_n C dL_law_778 rfl ?_
  refine j_iload C dL_law_779 rfl ?_
  refine j_iconst (v := (nI 3)) C dL_law_781 rfl ?_
  refine j_iadd (z := (nI (5 * q + 3))) C dL_law_782 (nI_add _ _) ?_
  refine j_sld (z := x3) C hX hbl hbA (5 * q + 3) rfl (by omega) (by omega) es3 dL_law_783 ?_
  refine j_callVr C 4 (v := .int (bI (¬ (x1.toInt64 * 4294967296) < 0 ∧ ¬ (x2.toInt64 * 4294967296) < 0 ∧ ¬ (x3.toInt64 * 4294967296) < 0 ∧ ¬ (x3.toInt64 * 4294967296) - (x2.toInt64 * 4294967296) < (x1.toInt64 * 4294967296)))) (w := (gW E t sz sg la dk ot mo ou z g b cr ca cg ck on os th cr ca cg ck ro LL ff)) (f_isFarStretch_k l E A) ok_X3_isFarStretch w_126 (by decide) rfl rfl (Nat.le_of_ble_eq_true rfl) rfl rfl ⟨by omega, by omega⟩ dL_law_784 ?_
  refine j_pop C dL_law_787 rfl ?_
  refine j_aload_n C dL_law_788 rfl ?_
  refine j_aload_n C dL_law_789 rfl ?_
  refine j_iload C dL_law_790 rfl ?_
  refine j_iconst (v := (nI 1)) C dL_law_792 rfl ?_
  refine j_iadd (z := (nI (5 * q + 1))) C dL_law_793 (nI_add _ _) ?_
  refine j_sld (z := x1) C hX hbl hbA (5 * q + 1) rfl (by omega) (by omega) es1 dL_law_794 ?_
  refine j_aload_n C dL_law_795 rfl ?_
  refine j_iload C dL_law_796 rfl ?_
  refine j_iconst (v := (nI 2)) C dL_law_798 rfl ?_
  refine j_iadd (z := (nI (5 * q + 2))) C dL_law_799 (nI_add _ _) ?_
  refine j_sld (z := x2) C hX hbl hbA (5 * q + 2) rfl (by omega) (by omega) es2 dL_law_800 ?_
  refine j_aload_n C dL_law_801 rfl ?_
  refine j_iload C dL_law_802 rfl ?_
  refine j_iconst (v := (nI 3)) C dL_law_804 rfl ?_
  refine j_iadd (z := (nI (5 * q + 3))) C dL_law_805 (nI_add _ _) ?_
  refine j_sld (z := x3) C hX hbl hbA (5 * q + 3) rfl (by omega) (by omega) es3 dL_law_806 ?_
  refine j_callVr C 6 (v := .int (bI (¬ x1.toInt64 < 0 ∧ ¬ x2.toInt64 < 0 ∧ ¬ x3.toInt64 < 0 ∧ ¬ x3.toInt64 < x1.toInt64 + x2.toInt64))) (w := (gW E t sz sg la dk ot mo ou z g b cr ca cg ck on os (nI 0) cr ca cg ck ro LL ff)) (g_isFarStretch_k l E A) ok_X5_isFarStretch w_1050 (by decide) rfl rfl (Nat.le_of_ble_eq_true rfl) rfl rfl ⟨by omega, by omega⟩ dL_law_807 ?_
  refine j_pop C dL_law_810 rfl ?_
  refine j_goto (tgt := 1674) C dL_law_811 (by decide) ?_
  refine j_lv (lv' := [(4, .int (nI (5 * q))), (3, .ref ot), (2, .ref mo), (1, .ref dk), (0, .ref bs)]) (by simp only [List.mem_cons, List.not_mem_nil, or_false, forall_eq_or_imp, forall_eq, true_or, or_true, and_self, Nat.add_zero]) ?_
  refine j_widen (k := cs + 600) (n := sl + 10000) (by omega) (by omega) ?_
  exact kk _ _ _ _ _ _ _ _ _ _ _ _ _ (hR)
set_option maxHeartbeats 4000000 in
set_option maxRecDepth 100000 in
theorem op_length (l : Launch) (hl : l.stackTraces = false) (E : jE) (A : Nat → Prop) {t sz sg la dk ot mo ou : Nat} {z g b : Nat → Int32} {cr ca cg ck : Int32} {on : Int64} {os : Value} {th : Int32} {ro : Nat → Option Nat} {LL : List Nat} {ff : Nat → va_E} {p : Program} {e : Env} {R : Room} {s : State} {m : MethodId} {args : Array Value} {below : List Frame} {meth : Method} {c : Code} {Q : State → Prop} {nn mc ms bs Ln q cs sl : Nat} {xs : Nat → Int32} {x1 x2 x3 x4 : Int32} (C : jC p l e R s m args below meth c x code 7 ret 2000 mc ms E A) (hX : va_X bs Ln xs s s.heap) (hbl : bs < s.heap.size) (hbA : ¬ A bs) (hLn : Ln ≤ 2560) (hq : 5 * q + 5 ≤ Ln) (hmc : cs + 600 ≤ mc) (hms : sl + 10000 ≤ ms) (es1 : xs (5 * q + 1) = x1) (es2 : xs (5 * q + 2) = x2) (es3 : xs (5 * q + 3) = x3) (es4 : xs (5 * q + 4) = x4) (hR : Rel E z g ro LL ff) (kk : ∀ (z' g' b' : Nat → Int32) (cr' ca' cg' ck' : Int32) (on' : Int64) (os' : Value) (th' : Int32) (ro' : Nat → Option Nat) (L' : List Nat) (f' : Nat → va_E), Rel E z' g' ro' L' f' → jJ p l e R s m args below meth c E A 7 Q (cs + 600) (sl + 10000) 1674 [(4, .int (nI (5 * q))), (3, .ref ot), (2, .ref mo), (1, .ref dk), (0, .ref bs)] [] (gW E t sz sg la dk ot mo ou (z') (g') (b') (cr') (ca') (cg') (ck') (on') (os') (th') (cr') (ca') (cg') (ck') (ro') (L') (f'))) : jJ p l e R s m args below meth c E A 7 Q cs sl 882 [(4, .int (nI (5 * q))), (3, .ref ot), (2, .ref mo), (1, .ref dk), (0, .ref bs)] [] (gW E t sz sg la dk ot mo ou z g b cr ca cg ck on os th cr ca cg ck ro LL ff) := by
  have hT := hR.tx
  rcases seat_cases x1 9 (by decide) with ⟨i, hi, rfl⟩ | hbx1
  · skip
    rcases hR.1 i (by omega) with ⟨hz_i, hr_i⟩ | ⟨a_i, n_i, h_i, hn_i, hz_i, hr_i, hm_i, hf_i, hs_i⟩
    · skip
      refine j_aload_n C dL_law_882 rfl ?_
      refine j_aload_n C dL_law_883 rfl ?_
      refine j_iload C dL_law_884 rfl ?_
      refine j_iconst (v := (nI 1)) C dL_law_886 rfl ?_
      refine j_iadd (z := (nI (5 * q + 1))) C dL_law_887 (nI_add _ _) ?_
      refine j_sld (z := (nI i)) C hX hbl hbA (5 * q + 1) rfl (by omega) (by omega) es1 dL_law_888 ?_
      refine j_aload_n C dL_law_889 rfl ?_
      refine j_callSH C (w_length_r l E A (rr := z i) (f_length_k l E A hi)) ok_L_length w_759 (by decide) rfl rfl (Nat.le_of_ble_eq_true rfl) ⟨by omega, by omega⟩ dL_law_890 (fun _ _ h => ?_)
      obtain ⟨rfl, rfl⟩ := h
      refine j_istore (lv' := [(5, .int (nI 0)), (4, .int (nI (5 * q))), (3, .ref ot), (2, .ref mo), (1, .ref dk), (0, .ref bs)]) C dL_law_893 (by decide) rfl ?_
      refine j_aload_n C dL_law_895 rfl ?_
      refine j_aload_n C dL_law_896 rfl ?_
      refine j_iload C dL_law_897 rfl ?_
      refine j_iconst (v := (nI 1)) C dL_law_899 rfl ?_
      refine j_iadd (z := (nI (5 * q + 1))) C dL_law_900 (nI_add _ _) ?_
      refine j_sld (z := (nI i)) C hX hbl hbA (5 * q + 1) rfl (by omega) (by omega) es1 dL_law_901 ?_
      refine j_callVr C 6 (v := .int (-1)) (w := (gW E t sz sg la dk ot mo ou z g b cr ca cg ck ((z i).toInt64) os (nI 0) cr ca cg ck ro LL ff)) (g_length_m l E A hi hr_i) ok_X5_length w_1072 (by decide) rfl rfl (Nat.le_of_ble_eq_true rfl) rfl rfl ⟨by omega, by omega⟩ dL_law_902 ?_
      refine j_istore (lv' := [(6, .int (-1)), (5, .int (nI 0)), (4, .int (nI (5 * q))), (3, .ref ot), (2, .ref mo), (1, .ref dk), (0, .ref bs)]) C dL_law_905 (by decide) rfl ?_
      refine j_goto (tgt := 1674) C dL_law_907 (by decide) ?_
      refine j_lv (lv' := [(4, .int (nI (5 * q))), (3, .ref ot), (2, .ref mo), (1, .ref dk), (0, .ref bs)]) (by simp only [List.mem_cons, List.not_mem_nil, or_false, forall_eq_or_imp, forall_eq, true_or, or_true, and_self, Nat.add_zero]) ?_
      refine j_widen (k := cs + 600) (n := sl + 10000) (by omega) (by omega) ?_
      exact kk _ _ _ _ _ _ _ _ _ _ _ _ _ (hR)
    · skip
      refine j_aload_n C dL_law_882 rfl ?_
      refine j_aload_n C dL_law_883 rfl ?_
      refine j_iload C dL_law_884 rfl ?_
      refine j_iconst (v := (nI 1)) C dL_law_886 rfl ?_
      refine j_iadd (z := (nI (5 * q + 1))) C dL_law_887 (nI_add _ _) ?_
      refine j_sld (z := (nI i)) C hX hbl hbA (5 * q + 1) rfl (by omega) (by omega) es1 dL_law_888 ?_
      refine j_aload_n C dL_law_889 rfl ?_
      refine j_callSH C (w_length_r l E A (rr := z i) (f_length_k l E A hi)) ok_L_length w_759 (by decide) rfl rfl (Nat.le_of_ble_eq_true rfl) ⟨by omega, by omega⟩ dL_law_890 (fun _ _ h => ?_)
      obtain ⟨rfl, rfl⟩ := h
      refine j_istore (lv' := [(5, .int (nI 0)), (4, .int (nI (5 * q))), (3, .ref ot), (2, .ref mo), (1, .ref dk), (0, .ref bs)]) C dL_law_893 (by decide) rfl ?_
      refine j_aload_n C dL_law_895 rfl ?_
      refine j_aload_n C dL_law_896 rfl ?_
      refine j_iload C dL_law_897 rfl ?_
      refine j_iconst (v := (nI 1)) C dL_law_899 rfl ?_
      refine j_iadd (z := (nI (5 * q + 1))) C dL_law_900 (nI_add _ _) ?_
      refine j_sld (z := (nI i)) C hX hbl hbA (5 * q + 1) rfl (by omega) (by omega) es1 dL_law_901 ?_
      refine j_callVr C 6 (v := .int (nI n_i)) (w := (gW E t sz sg la dk ot mo ou z g b cr ca cg ck ((z i).toInt64) os (nI 0) cr ca cg ck ro LL ff)) (g_length_k l E A hi hr_i hm_i hf_i hn_i) ok_X5_length w_1072 (by decide) rfl rfl (Nat.le_of_ble_eq_true rfl) rfl rfl ⟨by omega, by omega⟩ dL_law_902 ?_
      refine j_istore (lv' := [(6, .int (nI n_i)), (5, .int (nI 0)), (4, .int (nI (5 * q))), (3, .ref ot), (2, .ref mo), (1, .ref dk), (0, .ref bs)]) C dL_law_905 (by decide) rfl ?_
      refine j_goto (tgt := 1674) C dL_law_907 (by decide) ?_
      refine j_lv (lv' := [(4, .int (nI (5 * q))), (3, .ref ot), (2, .ref mo), (1, .ref dk), (0, .ref bs)]) (by simp only [List.mem_cons, List.not_mem_nil, or_false, forall_eq_or_imp, forall_eq, true_or, or_true, and_self, Nat.add_zero]) ?_
      refine j_widen (k := cs + 600) (n := sl + 10000) (by omega) (by omega) ?_
      exact kk _ _ _ _ _ _ _ _ _ _ _ _ _ (hR)
  · skip
    refine j_aload_n C dL_law_882 rfl ?_
    refine j_aload_n C dL_law_883 rfl ?_
    refine j_iload C dL_law_884 rfl ?_
    refine j_iconst (v := (nI 1)) C dL_law_886 rfl ?_
    refine j_iadd (z := (nI (5 * q + 1))) C dL_law_887 (nI_add _ _) ?_
    refine j_sld (z := x1) C hX hbl hbA (5 * q + 1) rfl (by omega) (by omega) es1 dL_law_888 ?_
    refine j_aload_n C dL_law_889 rfl ?_
    refine j_callSH C (w_length_jIO l E A (f_length_b l hl E A hbx1)) ok_L_length w_759 (by decide) rfl rfl (Nat.le_of_ble_eq_true rfl) ⟨by omega, by omega⟩ dL_law_890 (fun _ _ h => ?_)
    obtain ⟨rfl, rfl⟩ := h
    refine j_istore (lv' := [(5, .int (nI 1)), (4, .int (nI (5 * q))), (3, .ref ot), (2, .ref mo), (1, .ref dk), (0, .ref bs)]) C dL_law_893 (by decide) rfl ?_
    refine j_aload_n C dL_law_895 rfl ?_
    refine j_aload_n C dL_law_896 rfl ?_
    refine j_iload C dL_law_897 rfl ?_
    refine j_iconst (v := (nI 1)) C dL_law_899 rfl ?_
    refine j_iadd (z := (nI (5 * q + 1))) C dL_law_900 (nI_add _ _) ?_
    refine j_sld (z := x1) C hX hbl hbA (5 * q + 1) rfl (by omega) (by omega) es1 dL_law_901 ?_
    refine j_callVr C 6 (v := .int (nI 0)) (w := (gW E t sz sg la dk ot mo ou z g b cr ca cg ck on os (nI 1) cr ca cg ck ro LL ff)) (g_length_b l E A hbx1) ok_X5_length w_1072 (by decide) rfl rfl (Nat.le_of_ble_eq_true rfl) rfl rfl ⟨by omega, by omega⟩ dL_law_902 ?_
    refine j_istore (lv' := [(6, .int (nI 0)), (5, .int (nI 1)), (4, .int (nI (5 * q))), (3, .ref ot), (2, .ref mo), (1, .ref dk), (0, .ref bs)]) C dL_law_905 (by decide) rfl ?_
    refine j_goto (tgt := 1674) C dL_law_907 (by decide) ?_
    refine j_lv (lv' := [(4, .int (nI (5 * q))), (3, .ref ot), (2, .ref mo), (1, .ref dk), (0, .ref bs)]) (by simp only [List.mem_cons, List.not_mem_nil, or_false, forall_eq_or_imp, forall_eq, true_or, or_true, and_self, Nat.add_zero]) ?_
    refine j_widen (k := cs + 600) (n := sl + 10000) (by omega) (by omega) ?_
    exact kk _ _ _ _ _ _ _ _ _ _ _ _ _ (hR)
set_option maxHeartbeats 4000000 in
set_option maxRecDepth 100000 in
theorem op_signAt (l : Launch) (hl : l.stackTraces = false) (E : jE) (A : Nat → Prop) {t sz sg la dk ot mo ou : Nat} {z g b : Nat → Int32} {cr ca cg ck : Int32} {on : Int64} {os : Value} {th : Int32} {ro : Nat → Option Nat} {LL : List Nat} {ff : Nat → va_E} {p : Program} {e : Env} {R : Room} {s : State} {m : MethodId} {args : Array Value} {below : List Frame} {meth : Method} {c : Code} {Q : State → Prop} {nn mc ms bs Ln q cs sl : Nat} {xs : Nat → Int32} {x1 x2 x3 x4 : Int32} (C : jC p l e R s m args below meth c x code 7 ret 2000 mc ms E A) (hX : va_X bs Ln xs s s.heap) (hbl : bs < s.heap.size) (hbA : ¬ A bs) (hLn : Ln ≤ 2560) (hq : 5 * q + 5 ≤ Ln) (hmc : cs + 600 ≤ mc) (hms : sl + 10000 ≤ ms) (es1 : xs (5 * q + 1) = x1) (es2 : xs (5 * q + 2) = x2) (es3 : xs (5 * q + 3) = x3) (es4 : xs (5 * q + 4) = x4) (hR : Rel E z g ro LL ff) (kk : ∀ (z' g' b' : Nat → Int32) (cr' ca' cg' ck' : Int32) (on' : Int64) (os' : Value) (th' : Int32) (ro' : Nat → Option Nat) (L' : List Nat) (f' : Nat → va_E), Rel E z' g' ro' L' f' → jJ p l e R s m args below meth c E A 7 Q (cs + 600) (sl + 10000) 1674 [(4, .int (nI (5 * q))), (3, .ref ot), (2, .ref mo), (1, .ref dk), (0, .ref bs)] [] (gW E t sz sg la dk ot mo ou (z') (g') (b') (cr') (ca') (cg') (ck') (on') (os') (th') (cr') (ca') (cg') (ck') (ro') (L') (f'))) : jJ p l e R s m args below meth c E A 7 Q cs sl 910 [(4, .int (nI (5 * q))), (3, .ref ot), (2, .ref mo), (1, .ref dk), (0, .ref bs)] [] (gW E t sz sg la dk ot mo ou z g b cr ca cg ck on os th cr ca cg ck ro LL ff) := by
  have hT := hR.tx
  rcases seat_cases x1 9 (by decide) with ⟨i, hi, rfl⟩ | hbx1
  · skip
    rcases hR.1 i (by omega) with ⟨hz_i, hr_i⟩ | ⟨a_i, n_i, h_i, hn_i, hz_i, hr_i, hm_i, hf_i, hs_i⟩
    · skip
      refine j_aload_n C dL_law_910 rfl ?_
      refine j_aload_n C dL_law_911 rfl ?_
      refine j_iload C dL_law_912 rfl ?_
      refine j_iconst (v := (nI 1)) C dL_law_914 rfl ?_
      refine j_iadd (z := (nI (5 * q + 1))) C dL_law_915 (nI_add _ _) ?_
      refine j_sld (z := (nI i)) C hX hbl hbA (5 * q + 1) rfl (by omega) (by omega) es1 dL_law_916 ?_
      refine j_aload_n C dL_law_917 rfl ?_
      refine j_iload C dL_law_918 rfl ?_
      refine j_iconst (v := (nI 2)) C dL_law_920 rfl ?_
      refine j_iadd (z := (nI (5 * q + 2))) C dL_law_921 (nI_add _ _) ?_
      refine j_sld (z := x2) C hX hbl hbA (5 * q + 2) rfl (by omega) (by omega) es2 dL_law_922 ?_
      refine j_aload_n C dL_law_923 rfl ?_
      refine j_callSH C (w_signAt_r l E A (rr := -9) (f_signAt_m l E A hi hz_i)) ok_L_signAt w_766 (by decide) rfl rfl (Nat.le_of_ble_eq_true rfl) ⟨by omega, by omega⟩ dL_law_924 (fun _ _ h => ?_)
      obtain ⟨rfl, rfl⟩ := h
      refine j_istore (lv' := [(5, .int (nI 0)), (4, .int (nI (5 * q))), (3, .ref ot), (2, .ref mo), (1, .ref dk), (0, .ref bs)]) C dL_law_927 (by decide) rfl ?_
      refine j_aload_n C dL_law_929 rfl ?_
      refine j_aload_n C dL_law_930 rfl ?_
      refine j_iload C dL_law_931 rfl ?_
      refine j_iconst (v := (nI 1)) C dL_law_933 rfl ?_
      refine j_iadd (z := (nI (5 * q + 1))) C dL_law_934 (nI_add _ _) ?_
      refine j_sld (z := (nI i)) C hX hbl hbA (5 * q + 1) rfl (by omega) (by omega) es1 dL_law_935 ?_
      refine j_aload_n C dL_law_936 rfl ?_
      refine j_iload C dL_law_937 rfl ?_
      refine j_iconst (v := (nI 2)) C dL_law_939 rfl ?_
      refine j_iadd (z := (nI (5 * q + 2))) C dL_law_940 (nI_add _ _) ?_
      refine j_sld (z := x2) C hX hbl hbA (5 * q + 2) rfl (by omega) (by omega) es2 dL_law_941 ?_
      refine j_callVr C 6 (v := .int (-9)) (w := (gW E t sz sg la dk ot mo ou z g b (cr + nI 1) ca cg ck ((-9).toInt64) os (nI 0) (cr + nI 1) ca cg ck ro LL ff)) (g_signAt_m l E A hi hr_i) ok_X5_signAt w_1076 (by decide) rfl rfl (Nat.le_of_ble_eq_true rfl) rfl rfl ⟨by omega, by omega⟩ dL_law_942 ?_
      refine j_istore (lv' := [(6, .int (-9)), (5, .int (nI 0)), (4, .int (nI (5 * q))), (3, .ref ot), (2, .ref mo), (1, .ref dk), (0, .ref bs)]) C dL_law_945 (by decide) rfl ?_
      refine j_goto (tgt := 1674) C dL_law_947 (by decide) ?_
      refine j_lv (lv' := [(4, .int (nI (5 * q))), (3, .ref ot), (2, .ref mo), (1, .ref dk), (0, .ref bs)]) (by simp only [List.mem_cons, List.not_mem_nil, or_false, forall_eq_or_imp, forall_eq, true_or, or_true, and_self, Nat.add_zero]) ?_
      refine j_widen (k := cs + 600) (n := sl + 10000) (by omega) (by omega) ?_
      exact kk _ _ _ _ _ _ _ _ _ _ _ _ _ (hR)
    · skip
      rcases at_cases x2 hn_i with ⟨y, hy, rfl⟩ | ho
      · skip
        refine j_aload_n C dL_law_910 rfl ?_
        refine j_aload_n C dL_law_911 rfl ?_
        refine j_iload C dL_law_912 rfl ?_
        refine j_iconst (v := (nI 1)) C dL_law_914 rfl ?_
        refine j_iadd (z := (nI (5 * q + 1))) C dL_law_915 (nI_add _ _) ?_
        refine j_sld (z := (nI i)) C hX hbl hbA (5 * q + 1) rfl (by omega) (by omega) es1 dL_law_916 ?_
        refine j_aload_n C dL_law_917 rfl ?_
        refine j_iload C dL_law_918 rfl ?_
        refine j_iconst (v := (nI 2)) C dL_law_920 rfl ?_
        refine j_iadd (z := (nI (5 * q + 2))) C dL_law_921 (nI_add _ _) ?_
        refine j_sld (z := (nI y)) C hX hbl hbA (5 * q + 2) rfl (by omega) (by omega) es2 dL_law_922 ?_
        refine j_aload_n C dL_law_923 rfl ?_
        refine j_callSH C (w_signAt_r l E A (rr := g (i * 24 + y)) (f_signAt_k l E A hi hn_i hz_i hy)) ok_L_signAt w_766 (by decide) rfl rfl (Nat.le_of_ble_eq_true rfl) ⟨by omega, by omega⟩ dL_law_924 (fun _ _ h => ?_)
        obtain ⟨rfl, rfl⟩ := h
        refine j_istore (lv' := [(5, .int (nI 0)), (4, .int (nI (5 * q))), (3, .ref ot), (2, .ref mo), (1, .ref dk), (0, .ref bs)]) C dL_law_927 (by decide) rfl ?_
        refine j_aload_n C dL_law_929 rfl ?_
        refine j_aload_n C dL_law_930 rfl ?_
        refine j_iload C dL_law_931 rfl ?_
        refine j_iconst (v := (nI 1)) C dL_law_933 rfl ?_
        refine j_iadd (z := (nI (5 * q + 1))) C dL_law_934 (nI_add _ _) ?_
        refine j_sld (z := (nI i)) C hX hbl hbA (5 * q + 1) rfl (by omega) (by omega) es1 dL_law_935 ?_
        refine j_aload_n C dL_law_936 rfl ?_
        refine j_iload C dL_law_937 rfl ?_
        refine j_iconst (v := (nI 2)) C dL_law_939 rfl ?_
        refine j_iadd (z := (nI (5 * q + 2))) C dL_law_940 (nI_add _ _) ?_
        refine j_sld (z := (nI y)) C hX hbl hbA (5 * q + 2) rfl (by omega) (by omega) es2 dL_law_941 ?_
        refine j_callVr C 6 (v := .int (h_i y)) (w := (gW E t sz sg la dk ot mo ou z g b cr ca cg ck ((g (i * 24 + y)).toInt64) os (nI 0) cr ca cg ck ro LL ff)) (g_signAt_k l E A hi hr_i hm_i hf_i hn_i hy) ok_X5_signAt w_1076 (by decide) rfl rfl (Nat.le_of_ble_eq_true rfl) rfl rfl ⟨by omega, by omega⟩ dL_law_942 ?_
        refine j_istore (lv' := [(6, .int (h_i y)), (5, .int (nI 0)), (4, .int (nI (5 * q))), (3, .ref ot), (2, .ref mo), (1, .ref dk), (0, .ref bs)]) C dL_law_945 (by decide) rfl ?_
        refine j_goto (tgt := 1674) C dL_law_947 (by decide) ?_
        refine j_lv (lv' := [(4, .int (nI (5 * q))), (3, .ref ot), (2, .ref mo), (1, .ref dk), (0, .ref bs)]) (by simp only [List.mem_cons, List.not_mem_nil, or_false, forall_eq_or_imp, forall_eq, true_or, or_true, and_self, Nat.add_zero]) ?_
        refine j_widen (k := cs + 600) (n := sl + 10000) (by omega) (by omega) ?_
        exact kk _ _ _ _ _ _ _ _ _ _ _ _ _ (hR)
      · skip
        refine j_aload_n C dL_law_910 rfl ?_
        refine j_aload_n C dL_law_911 rfl ?_
        refine j_iload C dL_law_912 rfl ?_
        refine j_iconst (v := (nI 1)) C dL_law_914 rfl ?_
        refine j_iadd (z := (nI (5 * q + 1))) C dL_law_915 (nI_add _ _) ?_
        refine j_sld (z := (nI i)) C hX hbl hbA (5 * q + 1) rfl (by omega) (by omega) es1 dL_law_916 ?_
        refine j_aload_n C dL_law_917 rfl ?_
        refine j_iload C dL_law_918 rfl ?_
        refine j_iconst (v := (nI 2)) C dL_law_920 rfl ?_
        refine j_iadd (z := (nI (5 * q + 2))) C dL_law_921 (nI_add _ _) ?_
        refine j_sld (z := x2) C hX hbl hbA (5 * q + 2) rfl (by omega) (by omega) es2 dL_law_922 ?_
        refine j_aload_n C dL_law_923 rfl ?_
        refine j_callSH C (w_signAt_r l E A (rr := -9) (f_signAt_o l E A hi hn_i hz_i ho.1)) ok_L_signAt w_766 (by decide) rfl rfl (Nat.le_of_ble_eq_true rfl) ⟨by omega, by omega⟩ dL_law_924 (fun _ _ h => ?_)
        obtain ⟨rfl, rfl⟩ := h
        refine j_istore (lv' := [(5, .int (nI 0)), (4, .int (nI (5 * q))), (3, .ref ot), (2, .ref mo), (1, .ref dk), (0, .ref bs)]) C dL_law_927 (by decide) rfl ?_
        refine j_aload_n C dL_law_929 rfl ?_
        refine j_aload_n C dL_law_930 rfl ?_
        refine j_iload C dL_law_931 rfl ?_
        refine j_iconst (v := (nI 1)) C dL_law_933 rfl ?_
        refine j_iadd (z := (nI (5 * q + 1))) C dL_law_934 (nI_add _ _) ?_
        refine j_sld (z := (nI i)) C hX hbl hbA (5 * q + 1) rfl (by omega) (by omega) es1 dL_law_935 ?_
        refine j_aload_n C dL_law_936 rfl ?_
        refine j_iload C dL_law_937 rfl ?_
        refine j_iconst (v := (nI 2)) C dL_law_939 rfl ?_
        refine j_iadd (z := (nI (5 * q + 2))) C dL_law_940 (nI_add _ _) ?_
        refine j_sld (z := x2) C hX hbl hbA (5 * q + 2) rfl (by omega) (by omega) es2 dL_law_941 ?_
        refine j_callVr C 6 (v := .int (-9)) (w := (gW E t sz sg la dk ot mo ou z g b (cr + nI 1) ca cg ck ((-9).toInt64) os (nI 0) (cr + nI 1) ca cg ck ro LL ff)) (g_signAt_o l E A hi hr_i hm_i hf_i hn_i ho.2) ok_X5_signAt w_1076 (by decide) rfl rfl (Nat.le_of_ble_eq_true rfl) rfl rfl ⟨by omega, by omega⟩ dL_law_942 ?_
        refine j_istore (lv' := [(6, .int (-9)), (5, .int (nI 0)), (4, .int (nI (5 * q))), (3, .ref ot), (2, .ref mo), (1, .ref dk), (0, .ref bs)]) C dL_law_945 (by decide) rfl ?_
        refine j_goto (tgt := 1674) C dL_law_947 (by decide) ?_
        refine j_lv (lv' := [(4, .int (nI (5 * q))), (3, .ref ot), (2, .ref mo), (1, .ref dk), (0, .ref bs)]) (by simp only [List.mem_cons, List.not_mem_nil, or_false, forall_eq_or_imp, forall_eq, true_or, or_true, and_self, Nat.add_zero]) ?_
        refine j_widen (k := cs + 600) (n := sl + 10000) (by omega) (by omega) ?_
        exact kk _ _ _ _ _ _ _ _ _ _ _ _ _ (hR)
  · skip
    refine j_aload_n C dL_law_910 rfl ?_
    refine j_aload_n C dL_law_911 rfl ?_
    refine j_iload C dL_law_912 rfl ?_
    refine j_iconst (v := (nI 1)) C dL_law_914 rfl ?_
    refine j_iadd (z := (nI (5 * q + 1))) C dL_law_915 (nI_add _ _) ?_
    refine j_sld (z := x1) C hX hbl hbA (5 * q + 1) rfl (by omega) (by omega) es1 dL_law_916 ?_
    refine j_aload_n C dL_law_917 rfl ?_
    refine j_iload C dL_law_918 rfl ?_
    refine j_iconst (v := (nI 2)) C dL_law_920 rfl ?_
    refine j_iadd (z := (nI (5 * q + 2))) C dL_law_921 (nI_add _ _) ?_
    refine j_sld (z := x2) C hX hbl hbA (5 * q + 2) rfl (by omega) (by omega) es2 dL_law_922 ?_
    refine j_aload_n C dL_law_923 rfl ?_
    refine j_callSH C (w_signAt_jIO l E A (f_signAt_b l hl E A hbx1)) ok_L_signAt w_766 (by decide) rfl rfl (Nat.le_of_ble_eq_true rfl) ⟨by omega, by omega⟩ dL_law_924 (fun _ _ h => ?_)
    obtain ⟨rfl, rfl⟩ := h
    refine j_istore (lv' := [(5, .int (nI 1)), (4, .int (nI (5 * q))), (3, .ref ot), (2, .ref mo), (1, .ref dk), (0, .ref bs)]) C dL_law_927 (by decide) rfl ?_
    refine j_aload_n C dL_law_929 rfl ?_
    refine j_aload_n C dL_law_930 rfl ?_
    refine j_iload C dL_law_931 rfl ?_
    refine j_iconst (v := (nI 1)) C dL_law_933 rfl ?_
    refine j_iadd (z := (nI (5 * q + 1))) C dL_law_934 (nI_add _ _) ?_
    refine j_sld (z := x1) C hX hbl hbA (5 * q + 1) rfl (by omega) (by omega) es1 dL_law_935 ?_
    refine j_aload_n C dL_law_936 rfl ?_
    refine j_iload C dL_law_937 rfl ?_
    refine j_iconst (v := (nI 2)) C dL_law_939 rfl ?_
    refine j_iadd (z := (nI (5 * q + 2))) C dL_law_940 (nI_add _ _) ?_
    refine j_sld (z := x2) C hX hbl hbA (5 * q + 2) rfl (by omega) (by omega) es2 dL_law_941 ?_
    refine j_callVr C 6 (v := .int (nI 0)) (w := (gW E t sz sg la dk ot mo ou z g b cr ca cg ck on os (nI 1) cr ca cg ck ro LL ff)) (g_signAt_b l E A hbx1) ok_X5_signAt w_1076 (by decide) rfl rfl (Nat.le_of_ble_eq_true rfl) rfl rfl ⟨by omega, by omega⟩ dL_law_942 ?_
    refine j_istore (lv' := [(6, .int (nI 0)), (5, .int (nI 1)), (4, .int (nI (5 * q))), (3, .ref ot), (2, .ref mo), (1, .ref dk), (0, .ref bs)]) C dL_law_945 (by decide) rfl ?_
    refine j_goto (tgt := 1674) C dL_law_947 (by decide) ?_
    refine j_lv (lv' := [(4, .int (nI (5 * q))), (3, .ref ot), (2, .ref mo), (1, .ref dk), (0, .ref bs)]) (by simp only [List.mem_cons, List.not_mem_nil, or_false, forall_eq_or_imp, forall_eq, true_or, or_true, and_self, Nat.add_zero]) ?_
    refine j_widen (k := cs + 600) (n := sl + 10000) (by omega) (by omega) ?_
    exact kk _ _ _ _ _ _ _ _ _ _ _ _ _ (hR)
set_option maxHeartbeats 4000000 in
set_option maxRecDepth 100000 in
theorem op_isEmpty (l : Launch) (hl : l.stackTraces = false) (E : jE) (A : Nat → Prop) {t sz sg la dk ot mo ou : Nat} {z g b : Nat → Int32} {cr ca cg ck : Int32} {on : Int64} {os : Value} {th : Int32} {ro : Nat → Option Nat} {LL : List Nat} {ff : Nat → va_E} {p : Program} {e : Env} {R : Room} {s : State} {m : MethodId} {args : Array Value} {below : List Frame} {meth : Method} {c : Code} {Q : State → Prop} {nn mc ms bs Ln q cs sl : Nat} {xs : Nat → Int32} {x1 x2 x3 x4 : Int32} (C : jC p l e R s m args below meth c x code 7 ret 2000 mc ms E A) (hX : va_X bs Ln xs s s.heap) (hbl : bs < s.heap.size) (hbA : ¬ A bs) (hLn : Ln ≤ 2560) (hq : 5 * q + 5 ≤ Ln) (hmc : cs + 600 ≤ mc) (hms : sl + 10000 ≤ ms) (es1 : xs (5 * q + 1) = x1) (es2 : xs (5 * q + 2) = x2) (es3 : xs (5 * q + 3) = x3) (es4 : xs (5 * q + 4) = x4) (hR : Rel E z g ro LL ff) (kk : ∀ (z' g' b' : Nat → Int32) (cr' ca' cg' ck' : Int32) (on' : Int64) (os' : Value) (th' : Int32) (ro' : Nat → Option Nat) (L' : List Nat) (f' : Nat → va_E), Rel E z' g' ro' L' f' → jJ p l e R s m args below meth c E A 7 Q (cs + 600) (sl + 10000) 1674 [(4, .int (nI (5 * q))), (3, .ref ot), (2, .ref mo), (1, .ref dk), (0, .ref bs)] [] (gW E t sz sg la dk ot mo ou (z') (g') (b') (cr') (ca') (cg') (ck') (on') (os') (th') (cr') (ca') (cg') (ck') (ro') (L') (f'))) : jJ p l e R s m args below meth c E A 7 Q cs sl 1002 [(4, .int (nI (5 * q))), (3, .ref ot), (2, .ref mo), (1, .ref dk), (0, .ref bs)] [] (gW E t sz sg la dk ot mo ou z g b cr ca cg ck on os th cr ca cg ck ro LL ff) := by
  have hT := hR.tx
  rcases seat_cases x1 9 (by decide) with ⟨i, hi, rfl⟩ | hbx1
  · skip
    rcases hR.1 i (by omega) with ⟨hz_i, hr_i⟩ | ⟨a_i, n_i, h_i, hn_i, hz_i, hr_i, hm_i, hf_i, hs_i⟩
    · skip
      refine j_aload_n C dL_law_1002 rfl ?_
      refine j_aload_n C dL_law_1003 rfl ?_
      refine j_iload C dL_law_1004 rfl ?_
      refine j_iconst (v := (nI 1)) C dL_law_1006 rfl ?_
      refine j_iadd (z := (nI (5 * q + 1))) C dL_law_1007 (nI_add _ _) ?_
      refine j_sld (z := (nI i)) C hX hbl hbA (5 * q + 1) rfl (by omega) (by omega) es1 dL_law_1008 ?_
      refine j_aload_n C dL_law_1009 rfl ?_
      refine j_callSH C (w_isEmpty_jIS l E A (f_isEmpty_m l hl E A hi hz_i)) ok_L_isEmpty w_786 (by decide) rfl rfl (Nat.le_of_ble_eq_true rfl) ⟨by omega, by omega⟩ dL_law_1010 (fun _ _ h => ?_)
      obtain ⟨rfl, rfl⟩ := h
      refine j_istore (lv' := [(5, .int (nI 2)), (4, .int (nI (5 * q))), (3, .ref ot), (2, .ref mo), (1, .ref dk), (0, .ref bs)]) C dL_law_1013 (by decide) rfl ?_
      refine j_aload_n C dL_law_1015 rfl ?_
      refine j_aload_n C dL_law_1016 rfl ?_
      refine j_iload C dL_law_1017 rfl ?_
      refine j_iconst (v := (nI 1)) C dL_law_1019 rfl ?_
      refine j_iadd (z := (nI (5 * q + 1))) C dL_law_1020 (nI_add _ _) ?_
      refine j_sld (z := (nI i)) C hX hbl hbA (5 * q + 1) rfl (by omega) (by omega) es1 dL_law_1021 ?_
      refine j_callVr C 6 (v := .int (nI 0)) (w := (gW E t sz sg la dk ot mo ou z g b cr ca cg ck on os (nI 2) cr ca cg ck ro LL ff)) (g_isEmpty_m l E A hi hr_i) ok_X5_isEmpty w_1089 (by decide) rfl rfl (Nat.le_of_ble_eq_true rfl) rfl rfl ⟨by omega, by omega⟩ dL_law_1022 ?_
      refine j_istore (lv' := [(6, .int (nI 0)), (5, .int (nI 2)), (4, .int (nI (5 * q))), (3, .ref ot), (2, .ref mo), (1, .ref dk), (0, .ref bs)]) C dL_law_1025 (by decide) rfl ?_
      refine j_goto (tgt := 1674) C dL_law_1027 (by decide) ?_
      refine j_lv (lv' := [(4, .int (nI (5 * q))), (3, .ref ot), (2, .ref mo), (1, .ref dk), (0, .ref bs)]) (by simp only [List.mem_cons, List.not_mem_nil, or_false, forall_eq_or_imp, forall_eq, true_or, or_true, and_self, Nat.add_zero]) ?_
      refine j_widen (k := cs + 600) (n := sl + 10000) (by omega) (by omega) ?_
      exact kk _ _ _ _ _ _ _ _ _ _ _ _ _ (hR)
    · skip
      by_cases h0 : n_i = 0
      · skip
        refine j_aload_n C dL_law_1002 rfl ?_
        refine j_aload_n C dL_law_1003 rfl ?_
        refine j_iload C dL_law_1004 rfl ?_
        refine j_iconst (v := (nI 1)) C dL_law_1006 rfl ?_
        refine j_iadd (z := (nI (5 * q + 1))) C dL_law_1007 (nI_add _ _) ?_
        refine j_sld (z := (nI i)) C hX hbl hbA (5 * q + 1) rfl (by omega) (by omega) es1 dL_law_1008 ?_
        refine j_aload_n C dL_law_1009 rfl ?_
        refine j_callSH C (w_isEmpty_t l E A (rr := bI (n_i = 0)) (by rw [bI_t h0]; decide) (f_isEmpty_k l E A hi hn_i hz_i)) ok_L_isEmpty w_786 (by decide) rfl rfl (Nat.le_of_ble_eq_true rfl) ⟨by omega, by omega⟩ dL_law_1010 (fun _ _ h => ?_)
        obtain ⟨rfl, rfl⟩ := h
        refine j_istore (lv' := [(5, .int (nI 0)), (4, .int (nI (5 * q))), (3, .ref ot), (2, .ref mo), (1, .ref dk), (0, .ref bs)]) C dL_law_1013 (by decide) rfl ?_
        refine j_aload_n C dL_law_1015 rfl ?_
        refine j_aload_n C dL_law_1016 rfl ?_
        refine j_iload C dL_law_1017 rfl ?_
        refine j_iconst (v := (nI 1)) C dL_law_1019 rfl ?_
        refine j_iadd (z := (nI (5 * q + 1))) C dL_law_1020 (nI_add _ _) ?_
        refine j_sld (z := (nI i)) C hX hbl hbA (5 * q + 1) rfl (by omega) (by omega) es1 dL_law_1021 ?_
        refine j_callVr C 6 (v := .int (bI (n_i = 0))) (w := (gW E t sz sg la dk ot mo ou z g b cr ca cg ck 1 os (nI 0) cr ca cg ck ro LL ff)) (g_isEmpty_k l E A hi hr_i hm_i hf_i hn_i) ok_X5_isEmpty w_1089 (by decide) rfl rfl (Nat.le_of_ble_eq_true rfl) rfl rfl ⟨by omega, by omega⟩ dL_law_1022 ?_
        refine j_istore (lv' := [(6, .int (bI (n_i = 0))), (5, .int (nI 0)), (4, .int (nI (5 * q))), (3, .ref ot), (2, .ref mo), (1, .ref dk), (0, .ref bs)]) C dL_law_1025 (by decide) rfl ?_
        refine j_goto (tgt := 1674) C dL_law_1027 (by decide) ?_
        refine j_lv (lv' := [(4, .int (nI (5 * q))), (3, .ref ot), (2, .ref mo), (1, .ref dk), (0, .ref bs)]) (by simp only [List.mem_cons, List.not_mem_nil, or_false, forall_eq_or_imp, forall_eq, true_or, or_true, and_self, Nat.add_zero]) ?_
        refine j_widen (k := cs + 600) (n := sl + 10000) (by omega) (by omega) ?_
        exact kk _ _ _ _ _ _ _ _ _ _ _ _ _ (hR)
      · skip
        refine j_aload_n C dL_law_1002 rfl ?_
        refine j_aload_n C dL_law_1003 rfl ?_
        refine j_iload C dL_law_1004 rfl ?_
        refine j_iconst (v := (nI 1)) C dL_law_1006 rfl ?_
        refine j_iadd (z := (nI (5 * q + 1))) C dL_law_1007 (nI_add _ _) ?_
        refine j_sld (z := (nI i)) C hX hbl hbA (5 * q + 1) rfl (by omega) (by omega) es1 dL_law_1008 ?_
        refine j_aload_n C dL_law_1009 rfl ?_
        refine j_callSH C (w_isEmpty_f l E A (rr := bI (n_i = 0)) (bI_f h0) (f_isEmpty_k l E A hi hn_i hz_i)) ok_L_isEmpty w_786 (by decide) rfl rfl (Nat.le_of_ble_eq_true rfl) ⟨by omega, by omega⟩ dL_law_1010 (fun _ _ h => ?_)
        obtain ⟨rfl, rfl⟩ := h
        refine j_istore (lv' := [(5, .int (nI 0)), (4, .int (nI (5 * q))), (3, .ref ot), (2, .ref mo), (1, .ref dk), (0, .ref bs)]) C dL_law_1013 (by decide) rfl ?_
        refine j_aload_n C dL_law_1015 rfl ?_
        refine j_aload_n C dL_law_1016 rfl ?_
        refine j_iload C dL_law_1017 rfl ?_
        refine j_iconst (v := (nI 1)) C dL_law_1019 rfl ?_
        refine j_iadd (z := (nI (5 * q + 1))) C dL_law_1020 (nI_add _ _) ?_
        refine j_sld (z := (nI i)) C hX hbl hbA (5 * q + 1) rfl (by omega) (by omega) es1 dL_law_1021 ?_
        refine j_callVr C 6 (v := .int (bI (n_i = 0))) (w := (gW E t sz sg la dk ot mo ou z g b cr ca cg ck 0 os (nI 0) cr ca cg ck ro LL ff)) (g_isEmpty_k l E A hi hr_i hm_i hf_i hn_i) ok_X5_isEmpty w_1089 (by decide) rfl rfl (Nat.le_of_ble_eq_true rfl) rfl rfl ⟨by omega, by omega⟩ dL_law_1022 ?_
        refine j_istore (lv' := [(6, .int (bI (n_i = 0))), (5, .int (nI 0)), (4, .int (nI (5 * q))), (3, .ref ot), (2, .ref mo), (1, .ref dk), (0, .ref bs)]) C dL_law_1025 (by decide) rfl ?_
        refine j_goto (tgt := 1674) C dL_law_1027 (by decide) ?_
        refine j_lv (lv' := [(4, .int (nI (5 * q))), (3, .ref ot), (2, .ref mo), (1, .ref dk), (0, .ref bs)]) (by simp only [List.mem_cons, List.not_mem_nil, or_false, forall_eq_or_imp, forall_eq, true_or, or_true, and_self, Nat.add_zero]) ?_
        refine j_widen (k := cs + 600) (n := sl + 10000) (by omega) (by omega) ?_
        exact kk _ _ _ _ _ _ _ _ _ _ _ _ _ (hR)
  · skip
    refine j_aload_n C dL_law_1002 rfl ?_
    refine j_aload_n C dL_law_1003 rfl ?_
    refine j_iload C dL_law_1004 rfl ?_
    refine j_iconst (v := (nI 1)) C dL_law_1006 rfl ?_
    refine j_iadd (z := (nI (5 * q + 1))) C dL_law_1007 (nI_add _ _) ?_
    refine j_sld (z := x1) C hX hbl hbA (5 * q + 1) rfl (by omega) (by omega) es1 dL_law_1008 ?_
    refine j_aload_n C dL_law_1009 rfl ?_
    refine j_callSH C (w_isEmpty_jIO l E A (f_isEmpty_b l hl E A hbx1)) ok_L_isEmpty w_786 (by decide) rfl rfl (Nat.le_of_ble_eq_true rfl) ⟨by omega, by omega⟩ dL_law_1010 (fun _ _ h => ?_)
    obtain ⟨rfl, rfl⟩ := h
    refine j_istore (lv' := [(5, .int (nI 1)), (4, .int (nI (5 * q))), (3, .ref ot), (2, .ref mo), (1, .ref dk), (0, .ref bs)]) C dL_law_1013 (by decide) rfl ?_
    refine j_aload_n C dL_law_1015 rfl ?_
    refine j_aload_n C dL_law_1016 rfl ?_
    refine j_iload C dL_law_1017 rfl ?_
    refine j_iconst (v := (nI 1)) C dL_law_1019 rfl ?_
    refine j_iadd (z := (nI (5 * q + 1))) C dL_law_1020 (nI_add _ _) ?_
    refine j_sld (z := x1) C hX hbl hbA (5 * q + 1) rfl (by omega) (by omega) es1 dL_law_1021 ?_
    refine j_callVr C 6 (v := .int (nI 0)) (w := (gW E t sz sg la dk ot mo ou z g b cr ca cg ck on os (nI 1) cr ca cg ck ro LL ff)) (g_isEmpty_b l E A hbx1) ok_X5_isEmpty w_1089 (by decide) rfl rfl (Nat.le_of_ble_eq_true rfl) rfl rfl ⟨by omega, by omega⟩ dL_law_1022 ?_
    refine j_istore (lv' := [(6, .int (nI 0)), (5, .int (nI 1)), (4, .int (nI (5 * q))), (3, .ref ot), (2, .ref mo), (1, .ref dk), (0, .ref bs)]) C dL_law_1025 (by decide) rfl ?_
    refine j_goto (tgt := 1674) C dL_law_1027 (by decide) ?_
    refine j_lv (lv' := [(4, .int (nI (5 * q))), (3, .ref ot), (2, .ref mo), (1, .ref dk), (0, .ref bs)]) (by simp only [List.mem_cons, List.not_mem_nil, or_false, forall_eq_or_imp, forall_eq, true_or, or_true, and_self, Nat.add_zero]) ?_
    refine j_widen (k := cs + 600) (n := sl + 10000) (by omega) (by omega) ?_
    exact kk _ _ _ _ _ _ _ _ _ _ _ _ _ (hR)
set_option maxHeartbeats 4000000 in
set_option maxRecDepth 100000 in
theorem op_compare (l : Launch) (hl : l.stackTraces = false) (E : jE) (A : Nat → Prop) {t sz sg la dk ot mo ou : Nat} {z g b : Nat → Int32} {cr ca cg ck : Int32} {on : Int64} {os : Value} {th : Int32} {ro : Nat → Option Nat} {LL : List Nat} {ff : Nat → va_E} {p : Program} {e : Env} {R : Room} {s : State} {m : MethodId} {args : Array Value} {below : List Frame} {meth : Method} {c : Code} {Q : State → Prop} {nn mc ms bs Ln q cs sl : Nat} {xs : Nat → Int32} {x1 x2 x3 x4 : Int32} (C : jC p l e R s m args below meth c x code 7 ret 2000 mc ms E A) (hX : va_X bs Ln xs s s.heap) (hbl : bs < s.heap.size) (hbA : ¬ A bs) (hLn : Ln ≤ 2560) (hq : 5 * q + 5 ≤ Ln) (hmc : cs + 600 ≤ mc) (hms : sl + 10000 ≤ ms) (es1 : xs (5 * q + 1) = x1) (es2 : xs (5 * q + 2) = x2) (es3 : xs (5 * q + 3) = x3) (es4 : xs (5 * q + 4) = x4) (hR : Rel E z g ro LL ff) (kk : ∀ (z' g' b' : Nat → Int32) (cr' ca' cg' ck' : Int32) (on' : Int64) (os' : Value) (th' : Int32) (ro' : Nat → Option Nat) (L' : List Nat) (f' : Nat → va_E), Rel E z' g' ro' L' f' → jJ p l e R s m args below meth c E A 7 Q (cs + 600) (sl + 10000) 1674 [(4, .int (nI (5 * q))), (3, .ref ot), (2, .ref mo), (1, .ref dk), (0, .ref bs)] [] (gW E t sz sg la dk ot mo ou (z') (g') (b') (cr') (ca') (cg') (ck') (on') (os') (th') (cr') (ca') (cg') (ck') (ro') (L') (f'))) : jJ p l e R s m args below meth c E A 7 Q cs sl 1030 [(4, .int (nI (5 * q))), (3, .ref ot), (2, .ref mo), (1, .ref dk), (0, .ref bs)] [] (gW E t sz sg la dk ot mo ou z g b cr ca cg ck on os th cr ca cg ck ro LL ff) := by
  have hT := hR.tx
  rcases seat_cases x1 9 (by decide) with ⟨i, hi, rfl⟩ | hbx1
  · skip
    rcases seat_cases x2 9 (by decide) with ⟨j, hj, rfl⟩ | hbx2
    · skip
      rcases hR.1 i (by omega) with ⟨hz_i, hr_i⟩ | ⟨a_i, n_i, h_i, hn_i, hz_i, hr_i, hm_i, hf_i, hs_i⟩
      · skip
        refine j_aload_n C dL_law_1030 rfl ?_
        refine j_aload_n C dL_law_1031 rfl ?_
        refine j_iload C dL_law_1032 rfl ?_
        refine j_iconst (v := (nI 1)) C dL_law_1034 rfl ?_
        refine j_iadd (z := (nI (5 * q + 1))) C dL_law_1035 (nI_add _ _) ?_
        refine j_sld (z := (nI i)) C hX hbl hbA (5 * q + 1) rfl (by omega) (by omega) es1 dL_law_1036 ?_
        refine j_aload_n C dL_law_1037 rfl ?_
        refine j_iload C dL_law_1038 rfl ?_
        refine j_iconst (v := (nI 2)) C dL_law_1040 rfl ?_
        refine j_iadd (z := (nI (5 * q + 2))) C dL_law_1041 (nI_add _ _) ?_
        refine j_sld (z := (nI j)) C hX hbl hbA (5 * q + 2) rfl (by omega) (by omega) es2 dL_law_1042 ?_
        refine j_aload_n C dL_law_1043 rfl ?_
        refine j_callSH C (w_compare_r l E A (rr := -9) (f_compare_m1 l E A hi hj hz_i)) ok_L_compare w_793 (by decide) rfl rfl (Nat.le_of_ble_eq_true rfl) ⟨by omega, by omega⟩ dL_law_1044 (fun _ _ h => ?_)
        obtain ⟨rfl, rfl⟩ := h
        refine j_istore (lv' := [(5, .int (nI 0)), (4, .int (nI (5 * q))), (3, .ref ot), (2, .ref mo), (1, .ref dk), (0, .ref bs)]) C dL_law_1047 (by decide) rfl ?_
        refine j_aload_n C dL_law_1049 rfl ?_
        refine j_aload_n C dL_law_1050 rfl ?_
        refine j_iload C dL_law_1051 rfl ?_
        refine j_iconst (v := (nI 1)) C dL_law_1053 rfl ?_
        refine j_iadd (z := (nI (5 * q + 1))) C dL_law_1054 (nI_add _ _) ?_
        refine j_sld (z := (nI i)) C hX hbl hbA (5 * q + 1) rfl (by omega) (by omega) es1 dL_law_1055 ?_
        refine j_aload_n C dL_law_1056 rfl ?_
        refine j_iload C dL_law_1057 rfl ?_
        refine j_iconst (v := (nI 2)) C dL_law_1059 rfl ?_
        refine j_iadd (z := (nI (5 * q + 2))) C dL_law_1060 (nI_add _ _) ?_
        refine j_sld (z := (nI j)) C hX hbl hbA (5 * q + 2) rfl (by omega) (by omega) es2 dL_law_1061 ?_
        refine j_callVr C 6 (v := .int (-9)) (w := (gW E t sz sg la dk ot mo ou z g b (cr + nI 1) ca cg ck ((-9).toInt64) os (nI 0) (cr + nI 1) ca cg ck ro LL ff)) (g_compare_m1 l E A hi hr_i hj) ok_X5_compare w_1093 (by decide) rfl rfl (Nat.le_of_ble_eq_true rfl) rfl rfl ⟨by omega, by omega⟩ dL_law_1062 ?_
        refine j_istore (lv' := [(6, .int (-9)), (5, .int (nI 0)), (4, .int (nI (5 * q))), (3, .ref ot), (2, .ref mo), (1, .ref dk), (0, .ref bs)]) C dL_law_1065 (by decide) rfl ?_
        refine j_goto (tgt := 1674) C dL_law_1067 (by decide) ?_
        refine j_lv (lv' := [(4, .int (nI (5 * q))), (3, .ref ot), (2, .ref mo), (1, .ref dk), (0, .ref bs)]) (by simp only [List.mem_cons, List.not_mem_nil, or_false, forall_eq_or_imp, forall_eq, true_or, or_true, and_self, Nat.add_zero]) ?_
        refine j_widen (k := cs + 600) (n := sl + 10000) (by omega) (by omega) ?_
        exact kk _ _ _ _ _ _ _ _ _ _ _ _ _ (hR)
      · skip
        rcases hR.1 j (by omega) with ⟨hz_j, hr_j⟩ | ⟨a_j, n_j, h_j, hn_j, hz_j, hr_j, hm_j, hf_j, hs_j⟩
        · skip
          refine j_aload_n C dL_law_1030 rfl ?_
          refine j_aload_n C dL_law_1031 rfl ?_
          refine j_iload C dL_law_1032 rfl ?_
          refine j_iconst (v := (nI 1)) C dL_law_1034 rfl ?_
          refine j_iadd (z := (nI (5 * q + 1))) C dL_law_1035 (nI_add _ _) ?_
          refine j_sld (z := (nI i)) C hX hbl hbA (5 * q + 1) rfl (by omega) (by omega) es1 dL_law_1036 ?_
          refine j_aload_n C dL_law_1037 rfl ?_
          refine j_iload C dL_law_1038 rfl ?_
          refine j_iconst (v := (nI 2)) C dL_law_1040 rfl ?_
          refine j_iadd (z := (nI (5 * q + 2))) C dL_law_1041 (nI_add _ _) ?_
          refine j_sld (z := (nI j)) C hX hbl hbA (5 * q + 2) rfl (by omega) (by omega) es2 dL_law_1042 ?_
          refine j_aload_n C dL_law_1043 rfl ?_
          refine j_callSH C (w_compare_r l E A (rr := -9) (f_compare_m2 l E A hi hj hn_i hz_i hz_j)) ok_L_compare w_793 (by decide) rfl rfl (Nat.le_of_ble_eq_true rfl) ⟨by omega, by omega⟩ dL_law_1044 (fun _ _ h => ?_)
          obtain ⟨rfl, rfl⟩ := h
          refine j_istore (lv' := [(5, .int (nI 0)), (4, .int (nI (5 * q))), (3, .ref ot), (2, .ref mo), (1, .ref dk), (0, .ref bs)]) C dL_law_1047 (by decide) rfl ?_
          refine j_aload_n C dL_law_1049 rfl ?_
          refine j_aload_n C dL_law_1050 rfl ?_
          refine j_iload C dL_law_1051 rfl ?_
          refine j_iconst (v := (nI 1)) C dL_law_1053 rfl ?_
          refine j_iadd (z := (nI (5 * q + 1))) C dL_law_1054 (nI_add _ _) ?_
          refine j_sld (z := (nI i)) C hX hbl hbA (5 * q + 1) rfl (by omega) (by omega) es1 dL_law_1055 ?_
          refine j_aload_n C dL_law_1056 rfl ?_
          refine j_iload C dL_law_1057 rfl ?_
          refine j_iconst (v := (nI 2)) C dL_law_1059 rfl ?_
          refine j_iadd (z := (nI (5 * q + 2))) C dL_law_1060 (nI_add _ _) ?_
          refine j_sld (z := (nI j)) C hX hbl hbA (5 * q + 2) rfl (by omega) (by omega) es2 dL_law_1061 ?_
          refine j_callVr C 6 (v := .int (-9)) (w := (gW E t sz sg la dk ot mo ou z g b (cr + nI 1) ca cg ck ((-9).toInt64) os (nI 0) (cr + nI 1) ca cg ck ro LL ff)) (g_compare_m2 l E A hi hr_i hm_i hf_i hn_i hj hr_j) ok_X5_compare w_1093 (by decide) rfl rfl (Nat.le_of_ble_eq_true rfl) rfl rfl ⟨by omega, by omega⟩ dL_law_1062 ?_
          refine j_istore (lv' := [(6, .int (-9)), (5, .int (nI 0)), (4, .int (nI (5 * q))), (3, .ref ot), (2, .ref mo), (1, .ref dk), (0, .ref bs)]) C dL_law_1065 (by decide) rfl ?_
          refine j_goto (tgt := 1674) C dL_law_1067 (by decide) ?_
          refine j_lv (lv' := [(4, .int (nI (5 * q))), (3, .ref ot), (2, .ref mo), (1, .ref dk), (0, .ref bs)]) (by simp only [List.mem_cons, List.not_mem_nil, or_false, forall_eq_or_imp, forall_eq, true_or, or_true, and_self, Nat.add_zero]) ?_
          refine j_widen (k := cs + 600) (n := sl + 10000) (by omega) (by omega) ?_
          exact kk _ _ _ _ _ _ _ _ _ _ _ _ _ (hR)
        · skip
          refine j_aload_n C dL_law_1030 rfl ?_
          refine j_aload_n C dL_law_1031 rfl ?_
          refine j_iload C dL_law_1032 rfl ?_
          refine j_iconst (v := (nI 1)) C dL_law_1034 rfl ?_
          refine j_iadd (z := (nI (5 * q + 1))) C dL_law_1035 (nI_add _ _) ?_
          refine j_sld (z := (nI i)) C hX hbl hbA (5 * q + 1) rfl (by omega) (by omega) es1 dL_law_1036 ?_
          refine j_aload_n C dL_law_1037 rfl ?_
          refine j_iload C dL_law_1038 rfl ?_
          refine j_iconst (v := (nI 2)) C dL_law_1040 rfl ?_
          refine j_iadd (z := (nI (5 * q + 2))) C dL_law_1041 (nI_add _ _) ?_
          refine j_sld (z := (nI j)) C hX hbl hbA (5 * q + 2) rfl (by omega) (by omega) es2 dL_law_1042 ?_
          refine j_aload_n C dL_law_1043 rfl ?_
          refine j_callSH C (w_compare_r l E A (rr := cmpS z g i j) (f_compare_k l E A hi hj hT hn_i hz_i hn_j hz_j)) ok_L_compare w_793 (by decide) rfl rfl (Nat.le_of_ble_eq_true rfl) ⟨by omega, by omega⟩ dL_law_1044 (fun _ _ h => ?_)
          obtain ⟨rfl, rfl⟩ := h
          refine j_istore (lv' := [(5, .int (nI 0)), (4, .int (nI (5 * q))), (3, .ref ot), (2, .ref mo), (1, .ref dk), (0, .ref bs)]) C dL_law_1047 (by decide) rfl ?_
          refine j_aload_n C dL_law_1049 rfl ?_
          refine j_aload_n C dL_law_1050 rfl ?_
          refine j_iload C dL_law_1051 rfl ?_
          refine j_iconst (v := (nI 1)) C dL_law_1053 rfl ?_
          refine j_iadd (z := (nI (5 * q + 1))) C dL_law_1054 (nI_add _ _) ?_
          refine j_sld (z := (nI i)) C hX hbl hbA (5 * q + 1) rfl (by omega) (by omega) es1 dL_law_1055 ?_
          refine j_aload_n C dL_law_1056 rfl ?_
          refine j_iload C dL_law_1057 rfl ?_
          refine j_iconst (v := (nI 2)) C dL_law_1059 rfl ?_
          refine j_iadd (z := (nI (5 * q + 2))) C dL_law_1060 (nI_add _ _) ?_
          refine j_sld (z := (nI j)) C hX hbl hbA (5 * q + 2) rfl (by omega) (by omega) es2 dL_law_1061 ?_
          refine j_callVr C 6 (v := .int (cmpF h_i h_j (smI (nI n_i) (nI n_j)) 0 (min n_i n_j - 0))) (w := (gW E t sz sg la dk ot mo ou z g b cr ca cg ck ((cmpS z g i j).toInt64) os (nI 0) cr ca cg ck ro LL ff)) (g_compare_k l E A hi hj hr_i hm_i hf_i hn_i hr_j hm_j hf_j hn_j) ok_X5_compare w_1093 (by decide) rfl rfl (Nat.le_of_ble_eq_true rfl) rfl rfl ⟨by omega, by omega⟩ dL_law_1062 ?_
          refine j_istore (lv' := [(6, .int (cmpF h_i h_j (smI (nI n_i) (nI n_j)) 0 (min n_i n_j - 0))), (5, .int (nI 0)), (4, .int (nI (5 * q))), (3, .ref ot), (2, .ref mo), (1, .ref dk), (0, .ref bs)]) C dL_law_1065 (by decide) rfl ?_
          refine j_goto (tgt := 1674) C dL_law_1067 (by decide) ?_
          refine j_lv (lv' := [(4, .int (nI (5 * q))), (3, .ref ot), (2, .ref mo), (1, .ref dk), (0, .ref bs)]) (by simp only [List.mem_cons, List.not_mem_nil, or_false, forall_eq_or_imp, forall_eq, true_or, or_true, and_self, Nat.add_zero]) ?_
          refine j_widen (k := cs + 600) (n := sl + 10000) (by omega) (by omega) ?_
          exact kk _ _ _ _ _ _ _ _ _ _ _ _ _ (hR)
    · skip
      refine j_aload_n C dL_law_1030 rfl ?_
      refine j_aload_n C dL_law_1031 rfl ?_
      refine j_iload C dL_law_1032 rfl ?_
      refine j_iconst (v := (nI 1)) C dL_law_1034 rfl ?_
      refine j_iadd (z := (nI (5 * q + 1))) C dL_law_1035 (nI_add _ _) ?_
      refine j_sld (z := (nI i)) C hX hbl hbA (5 * q + 1) rfl (by omega) (by omega) es1 dL_law_1036 ?_
      refine j_aload_n C dL_law_1037 rfl ?_
      refine j_iload C dL_law_1038 rfl ?_
      refine j_iconst (v := (nI 2)) C dL_law_1040 rfl ?_
      refine j_iadd (z := (nI (5 * q + 2))) C dL_law_1041 (nI_add _ _) ?_
      refine j_sld (z := x2) C hX hbl hbA (5 * q + 2) rfl (by omega) (by omega) es2 dL_law_1042 ?_
      refine j_aload_n C dL_law_1043 rfl ?_
      refine j_callSH C (w_compare_jIO l E A (f_compare_b2 l hl E A hi hbx2)) ok_L_compare w_793 (by decide) rfl rfl (Nat.le_of_ble_eq_true rfl) ⟨by omega, by omega⟩ dL_law_1044 (fun _ _ h => ?_)
      obtain ⟨rfl, rfl⟩ := h
      refine j_istore (lv' := [(5, .int (nI 1)), (4, .int (nI (5 * q))), (3, .ref ot), (2, .ref mo), (1, .ref dk), (0, .ref bs)]) C dL_law_1047 (by decide) rfl ?_
      refine j_aload_n C dL_law_1049 rfl ?_
      refine j_aload_n C dL_law_1050 rfl ?_
      refine j_iload C dL_law_1051 rfl ?_
      refine j_iconst (v := (nI 1)) C dL_law_1053 rfl ?_
      refine j_iadd (z := (nI (5 * q + 1))) C dL_law_1054 (nI_add _ _) ?_
      refine j_sld (z := (nI i)) C hX hbl hbA (5 * q + 1) rfl (by omega) (by omega) es1 dL_law_1055 ?_
      refine j_aload_n C dL_law_1056 rfl ?_
      refine j_iload C dL_law_1057 rfl ?_
      refine j_iconst (v := (nI 2)) C dL_law_1059 rfl ?_
      refine j_iadd (z := (nI (5 * q + 2))) C dL_law_1060 (nI_add _ _) ?_
      refine j_sld (z := x2) C hX hbl hbA (5 * q + 2) rfl (by omega) (by omega) es2 dL_law_1061 ?_
      refine j_callVr C 6 (v := .int (nI 0)) (w := (gW E t sz sg la dk ot mo ou z g b cr ca cg ck on os (nI 1) cr ca cg ck ro LL ff)) (g_compare_b2 l E A hi hbx2) ok_X5_compare w_1093 (by decide) rfl rfl (Nat.le_of_ble_eq_true rfl) rfl rfl ⟨by omega, by omega⟩ dL_law_1062 ?_
      refine j_istore (lv' := [(6, .int (nI 0)), (5, .int (nI 1)), (4, .int (nI (5 * q))), (3, .ref ot), (2, .ref mo), (1, .ref dk), (0, .ref bs)]) C dL_law_1065 (by decide) rfl ?_
      refine j_goto (tgt := 1674) C dL_law_1067 (by decide) ?_
      refine j_lv (lv' := [(4, .int (nI (5 * q))), (3, .ref ot), (2, .ref mo), (1, .ref dk), (0, .ref bs)]) (by simp only [List.mem_cons, List.not_mem_nil, or_false, forall_eq_or_imp, forall_eq, true_or, or_true, and_self, Nat.add_zero]) ?_
      refine j_widen (k := cs + 600) (n := sl + 10000) (by omega) (by omega) ?_
      exact kk _ _ _ _ _ _ _ _ _ _ _ _ _ (hR)
  · skip
    refine j_aload_n C dL_law_1030 rfl ?_
    refine j_aload_n C dL_law_1031 rfl ?_
    refine j_iload C dL_law_1032 rfl ?_
    refine j_iconst (v := (nI 1)) C dL_law_1034 rfl ?_
    refine j_iadd (z := (nI (5 * q + 1))) C dL_law_1035 (nI_add _ _) ?_
    refine j_sld (z := x1) C hX hbl hbA (5 * q + 1) rfl (by omega) (by omega) es1 dL_law_1036 ?_
    refine j_aload_n C dL_law_1037 rfl ?_
    refine j_iload C dL_law_1038 rfl ?_
    refine j_iconst (v := (nI 2)) C dL_law_1040 rfl ?_
    refine j_iadd (z := (nI (5 * q + 2))) C dL_law_1041 (nI_add _ _) ?_
    refine j_sld (z := x2) C hX hbl hbA (5 * q + 2) rfl (by omega) (by omega) es2 dL_law_1042 ?_
    refine j_aload_n C dL_law_1043 rfl ?_
    refine j_callSH C (w_compare_jIO l E A (f_compare_b1 l hl E A hbx1)) ok_L_compare w_793 (by decide) rfl rfl (Nat.le_of_ble_eq_true rfl) ⟨by omega, by omega⟩ dL_law_1044 (fun _ _ h => ?_)
    obtain ⟨rfl, rfl⟩ := h
    refine j_istore (lv' := [(5, .int (nI 1)), (4, .int (nI (5 * q))), (3, .ref ot), (2, .ref mo), (1, .ref dk), (0, .ref bs)]) C dL_law_1047 (by decide) rfl ?_
    refine j_aload_n C dL_law_1049 rfl ?_
    refine j_aload_n C dL_law_1050 rfl ?_
    refine j_iload C dL_law_1051 rfl ?_
    refine j_iconst (v := (nI 1)) C dL_law_1053 rfl ?_
    refine j_iadd (z := (nI (5 * q + 1))) C dL_law_1054 (nI_add _ _) ?_
    refine j_sld (z := x1) C hX hbl hbA (5 * q + 1) rfl (by omega) (by omega) es1 dL_law_1055 ?_
    refine j_aload_n C dL_law_1056 rfl ?_
    refine j_iload C dL_law_1057 rfl ?_
    refine j_iconst (v := (nI 2)) C dL_law_1059 rfl ?_
    refine j_iadd (z := (nI (5 * q + 2))) C dL_law_1060 (nI_add _ _) ?_
    refine j_sld (z := x2) C hX hbl hbA (5 * q + 2) rfl (by omega) (by omega) es2 dL_law_1061 ?_
    refine j_callVr C 6 (v := .int (nI 0)) (w := (gW E t sz sg la dk ot mo ou z g b cr ca cg ck on os (nI 1) cr ca cg ck ro LL ff)) (g_compare_b1 l E A hbx1) ok_X5_compare w_1093 (by decide) rfl rfl (Nat.le_of_ble_eq_true rfl) rfl rfl ⟨by omega, by omega⟩ dL_law_1062 ?_
    refine j_istore (lv' := [(6, .int (nI 0)), (5, .int (nI 1)), (4, .int (nI (5 * q))), (3, .ref ot), (2, .ref mo), (1, .ref dk), (0, .ref bs)]) C dL_law_1065 (by decide) rfl ?_
    refine j_goto (tgt := 1674) C dL_law_1067 (by decide) ?_
    refine j_lv (lv' := [(4, .int (nI (5 * q))), (3, .ref ot), (2, .ref mo), (1, .ref dk), (0, .ref bs)]) (by simp only [List.mem_cons, List.not_mem_nil, or_false, forall_eq_or_imp, forall_eq, true_or, or_true, and_self, Nat.add_zero]) ?_
    refine j_widen (k := cs + 600) (n := sl + 10000) (by omega) (by omega) ?_
    exact kk _ _ _ _ _ _ _ _ _ _ _ _ _ (hR)
set_option maxHeartbeats 4000000 in
set_option maxRecDepth 100000 in
theorem op_compareParts (l : Launch) (hl : l.stackTraces = false) (E : jE) (A : Nat → Prop) {t sz sg la dk ot mo ou : Nat} {z g b : Nat → Int32} {cr ca cg ck : Int32} {on : Int64} {os : Value} {th : Int32} {ro : Nat → Option Nat} {LL : List Nat} {ff : Nat → va_E} {p : Program} {e : Env} {R : Room} {s : State} {m : MethodId} {args : Array Value} {below : List Frame} {meth : Method} {c : Code} {Q : State → Prop} {nn mc ms bs Ln q cs sl : Nat} {xs : Nat → Int32} {x1 x2 x3 x4 : Int32} (C : jC p l e R s m args below meth c x code 7 ret 2000 mc ms E A) (hX : va_X bs Ln xs s s.heap) (hbl : bs < s.heap.size) (hbA : ¬ A bs) (hLn : Ln ≤ 2560) (hq : 5 * q + 5 ≤ Ln) (hmc : cs + 600 ≤ mc) (hms : sl + 10000 ≤ ms) (es1 : xs (5 * q + 1) = x1) (es2 : xs (5 * q + 2) = x2) (es3 : xs (5 * q + 3) = x3) (es4 : xs (5 * q + 4) = x4) (hR : Rel E z g ro LL ff) (kk : ∀ (z' g' b' : Nat → Int32) (cr' ca' cg' ck' : Int32) (on' : Int64) (os' : Value) (th' : Int32) (ro' : Nat → Option Nat) (L' : List Nat) (f' : Nat → va_E), Rel E z' g' ro' L' f' → jJ p l e R s m args below meth c E A 7 Q (cs + 600) (sl + 10000) 1674 [(4, .int (nI (5 * q))), (3, .ref ot), (2, .ref mo), (1, .ref dk), (0, .ref bs)] [] (gW E t sz sg la dk ot mo ou (z') (g') (b') (cr') (ca') (cg') (ck') (on') (os') (th') (cr') (ca') (cg') (ck') (ro') (L') (f'))) : jJ p l e R s m args below meth c E A 7 Q cs sl 1070 [(4, .int (nI (5 * q))), (3, .ref ot), (2, .ref mo), (1, .ref dk), (0, .ref bs)] [] (gW E t sz sg la dk ot mo ou z g b cr ca cg ck on os th cr ca cg ck ro LL ff) := by
  have hT := hR.tx
  rcases seat_cases x1 9 (by decide) with ⟨i, hi, rfl⟩ | hbx1
  · skip
    rcases seat_cases x2 9 (by decide) with ⟨j, hj, rfl⟩ | hbx2
    · skip
      rcases hR.1 i (by omega) with ⟨hz_i, hr_i⟩ | ⟨a_i, n_i, h_i, hn_i, hz_i, hr_i, hm_i, hf_i, hs_i⟩
      · skip
        refine j_aload_n C dL_law_1070 rfl ?_
        refine j_aload_n C dL_law_1071 rfl ?_
        refine j_iload C dL_law_1072 rfl ?_
        refine j_iconst (v := (nI 1)) C dL_law_1074 rfl ?_
        refine j_iadd (z := (nI (5 * q + 1))) C dL_law_1075 (nI_add _ _) ?_
        refine j_sld (z := (nI i)) C hX hbl hbA (5 * q + 1) rfl (by omega) (by omega) es1 dL_law_1076 ?_
        refine j_aload_n C dL_law_1077 rfl ?_
        refine j_iload C dL_law_1078 rfl ?_
        refine j_iconst (v := (nI 2)) C dL_law_1080 rfl ?_
        refine j_iadd (z := (nI (5 * q + 2))) C dL_law_1081 (nI_add _ _) ?_
        refine j_sld (z := (nI j)) C hX hbl hbA (5 * q + 2) rfl (by omega) (by omega) es2 dL_law_1082 ?_
        refine j_aload_n C dL_law_1083 rfl ?_
        refine j_iload C dL_law_1084 rfl ?_
        refine j_iconst (v := (nI 3)) C dL_law_1086 rfl ?_
        refine j_iadd (z := (nI (5 * q + 3))) C dL_law_1087 (nI_add _ _) ?_
        refine j_sld (z := x3) C hX hbl hbA (5 * q + 3) rfl (by omega) (by omega) es3 dL_law_1088 ?_
        refine j_aload_n C dL_law_1089 rfl ?_
        refine j_iload C dL_law_1090 rfl ?_
        refine j_iconst (v := (nI 4)) C dL_law_1092 rfl ?_
        refine j_iadd (z := (nI (5 * q + 4))) C dL_law_1093 (nI_add _ _) ?_
        refine j_sld (z := x4) C hX hbl hbA (5 * q + 4) rfl (by omega) (by omega) es4 dL_law_1094 ?_
        refine j_aload_n C dL_law_1095 rfl ?_
        refine j_callSH C (w_compareParts_r l E A (rr := -9) (f_compareParts_m1 l E A hi hj hz_i)) ok_L_compareParts w_801 (by decide) rfl rfl (Nat.le_of_ble_eq_true rfl) ⟨by omega, by omega⟩ dL_law_1096 (fun _ _ h => ?_)
        obtain ⟨rfl, rfl⟩ := h
        refine j_istore (lv' := [(5, .int (nI 0)), (4, .int (nI (5 * q))), (3, .ref ot), (2, .ref mo), (1, .ref dk), (0, .ref bs)]) C dL_law_1099 (by decide) rfl ?_
        refine j_aload_n C dL_law_1101 rfl ?_
        refine j_aload_n C dL_law_1102 rfl ?_
        refine j_iload C dL_law_1103 rfl ?_
        refine j_iconst (v := (nI 1)) C dL_law_1105 rfl ?_
        refine j_iadd (z := (nI (5 * q + 1))) C dL_law_1106 (nI_add _ _) ?_
        refine j_sld (z := (nI i)) C hX hbl hbA (5 * q + 1) rfl (by omega) (by omega) es1 dL_law_1107 ?_
        refine j_aload_n C dL_law_1108 rfl ?_
        refine j_iload C dL_law_1109 rfl ?_
        refine j_iconst (v := (nI 2)) C dL_law_1111 rfl ?_
        refine j_iadd (z := (nI (5 * q + 2))) C dL_law_1112 (nI_add _ _) ?_
        refine j_sld (z := (nI j)) C hX hbl hbA (5 * q + 2) rfl (by omega) (by omega) es2 dL_law_1113 ?_
        refine j_aload_n C dL_law_1114 rfl ?_
        refine j_iload C dL_law_1115 rfl ?_
        refine j_iconst (v := (nI 3)) C dL_law_1117 rfl ?_
        refine j_iadd (z := (nI (5 * q + 3))) C dL_law_1118 (nI_add _ _) ?_
        refine j_sld (z := x3) C hX hbl hbA (5 * q + 3) rfl (by omega) (by omega) es3 dL_law_1119 ?_
        refine j_aload_n C dL_law_1120 rfl ?_
        refine j_iload C dL_law_1121 rfl ?_
        refine j_iconst (v := (nI 4)) C dL_law_1123 rfl ?_
        refine j_iadd (z := (nI (5 * q + 4))) C dL_law_1124 (nI_add _ _) ?_
        refine j_sld (z := x4) C hX hbl hbA (5 * q + 4) rfl (by omega) (by omega) es4 dL_law_1125 ?_
        refine j_callVr C 6 (v := .int (-9)) (w := (gW E t sz sg la dk ot mo ou z g b (cr + nI 1) ca cg ck ((-9).toInt64) os (nI 0) (cr + nI 1) ca cg ck ro LL ff)) (g_compareParts_m1 l E A hi hr_i hj) ok_X5_compareParts w_1100 (by decide) rfl rfl (Nat.le_of_ble_eq_true rfl) rfl rfl ⟨by omega, by omega⟩ dL_law_1126 ?_
        refine j_istore (lv' := [(6, .int (-9)), (5, .int (nI 0)), (4, .int (nI (5 * q))), (3, .ref ot), (2, .ref mo), (1, .ref dk), (0, .ref bs)]) C dL_law_1129 (by decide) rfl ?_
        refine j_goto (tgt := 1674) C dL_law_1131 (by decide) ?_
        refine j_lv (lv' := [(4, .int (nI (5 * q))), (3, .ref ot), (2, .ref mo), (1, .ref dk), (0, .ref bs)]) (by simp only [List.mem_cons, List.not_mem_nil, or_false, forall_eq_or_imp, forall_eq, true_or, or_true, and_self, Nat.add_zero]) ?_
        refine j_widen (k := cs + 600) (n := sl + 10000) (by omega) (by omega) ?_
        exact kk _ _ _ _ _ _ _ _ _ _ _ _ _ (hR)
      · skip
        rcases hR.1 j (by omega) with ⟨hz_j, hr_j⟩ | ⟨a_j, n_j, h_j, hn_j, hz_j, hr_j, hm_j, hf_j, hs_j⟩
        · skip
          refine j_aload_n C dL_law_1070 rfl ?_
          refine j_aload_n C dL_law_1071 rfl ?_
          refine j_iload C dL_law_1072 rfl ?_
          refine j_iconst (v := (nI 1)) C dL_law_1074 rfl ?_
          refine j_iadd (z := (nI (5 * q + 1))) C dL_law_1075 (nI_add _ _) ?_
          refine j_sld (z := (nI i)) C hX hbl hbA (5 * q + 1) rfl (by omega) (by omega) es1 dL_law_1076 ?_
          refine j_aload_n C dL_law_1077 rfl ?_
          refine j_iload C dL_law_1078 rfl ?_
          refine j_iconst (v := (nI 2)) C dL_law_1080 rfl ?_
          refine j_iadd (z := (nI (5 * q + 2))) C dL_law_1081 (nI_add _ _) ?_
          refine j_sld (z := (nI j)) C hX hbl hbA (5 * q + 2) rfl (by omega) (by omega) es2 dL_law_1082 ?_
          refine j_aload_n C dL_law_1083 rfl ?_
          refine j_iload C dL_law_1084 rfl ?_
          refine j_iconst (v := (nI 3)) C dL_law_1086 rfl ?_
          refine j_iadd (z := (nI (5 * q + 3))) C dL_law_1087 (nI_add _ _) ?_
          refine j_sld (z := x3) C hX hbl hbA (5 * q + 3) rfl (by omega) (by omega) es3 dL_law_1088 ?_
          refine j_aload_n C dL_law_1089 rfl ?_
          refine j_iload C dL_law_1090 rfl ?_
          refine j_iconst (v := (nI 4)) C dL_law_1092 rfl ?_
          refine j_iadd (z := (nI (5 * q + 4))) C dL_law_1093 (nI_add _ _) ?_
          refine j_sld (z := x4) C hX hbl hbA (5 * q + 4) rfl (by omega) (by omega) es4 dL_law_1094 ?_
          refine j_aload_n C dL_law_1095 rfl ?_
          refine j_callSH C (w_compareParts_r l E A (rr := -9) (f_compareParts_m2 l E A hi hj hn_i hz_i hz_j)) ok_L_compareParts w_801 (by decide) rfl rfl (Nat.le_of_ble_eq_true rfl) ⟨by omega, by omega⟩ dL_law_1096 (fun _ _ h => ?_)
          obtain ⟨rfl, rfl⟩ := h
          refine j_istore (lv' := [(5, .int (nI 0)), (4, .int (nI (5 * q))), (3, .ref ot), (2, .ref mo), (1, .ref dk), (0, .ref bs)]) C dL_law_1099 (by decide) rfl ?_
          refine j_aload_n C dL_law_1101 rfl ?_
          refine j_aload_n C dL_law_1102 rfl ?_
          refine j_iload C dL_law_1103 rfl ?_
          refine j_iconst (v := (nI 1)) C dL_law_1105 rfl ?_
          refine j_iadd (z := (nI (5 * q + 1))) C dL_law_1106 (nI_add _ _) ?_
          refine j_sld (z := (nI i)) C hX hbl hbA (5 * q + 1) rfl (by omega) (by omega) es1 dL_law_1107 ?_
          refine j_aload_n C dL_law_1108 rfl ?_
          refine j_iload C dL_law_1109 rfl ?_
          refine j_iconst (v := (nI 2)) C dL_law_1111 rfl ?_
          refine j_iadd (z := (nI (5 * q + 2))) C dL_law_1112 (nI_add _ _) ?_
          refine j_sld (z := (nI j)) C hX hbl hbA (5 * q + 2) rfl (by omega) (by omega) es2 dL_law_1113 ?_
          refine j_aload_n C dL_law_1114 rfl ?_
          refine j_iload C dL_law_1115 rfl ?_
          refine j_iconst (v := (nI 3)) C dL_law_1117 rfl ?_
          refine j_iadd (z := (nI (5 * q + 3))) C dL_law_1118 (nI_add _ _) ?_
          refine j_sld (z := x3) C hX hbl hbA (5 * q + 3) rfl (by omega) (by omega) es3 dL_law_1119 ?_
          refine j_aload_n C dL_law_1120 rfl ?_
          refine j_iload C dL_law_1121 rfl ?_
          refine j_iconst (v := (nI 4)) C dL_law_1123 rfl ?_
          refine j_iadd (z := (nI (5 * q + 4))) C dL_law_1124 (nI_add _ _) ?_
          refine j_sld (z := x4) C hX hbl hbA (5 * q + 4) rfl (by omega) (by omega) es4 dL_law_1125 ?_
          refine j_callVr C 6 (v := .int (-9)) (w := (gW E t sz sg la dk ot mo ou z g b (cr + nI 1) ca cg ck ((-9).toInt64) os (nI 0) (cr + nI 1) ca cg ck ro LL ff)) (g_compareParts_m2 l E A hi hr_i hm_i hf_i hn_i hj hr_j) ok_X5_compareParts w_1100 (by decide) rfl rfl (Nat.le_of_ble_eq_true rfl) rfl rfl ⟨by omega, by omega⟩ dL_law_1126 ?_
          refine j_istore (lv' := [(6, .int (-9)), (5, .int (nI 0)), (4, .int (nI (5 * q))), (3, .ref ot), (2, .ref mo), (1, .ref dk), (0, .ref bs)]) C dL_law_1129 (by decide) rfl ?_
          refine j_goto (tgt := 1674) C dL_law_1131 (by decide) ?_
          refine j_lv (lv' := [(4, .int (nI (5 * q))), (3, .ref ot), (2, .ref mo), (1, .ref dk), (0, .ref bs)]) (by simp only [List.mem_cons, List.not_mem_nil, or_false, forall_eq_or_imp, forall_eq, true_or, or_true, and_self, Nat.add_zero]) ?_
          refine j_widen (k := cs + 600) (n := sl + 10000) (by omega) (by omega) ?_
          exact kk _ _ _ _ _ _ _ _ _ _ _ _ _ (hR)
        · skip
          rcases cut_cases x3 x4 hn_i with ⟨u, w, huw, hwn, rfl, rfl⟩ | ho
          · skip
            by_cases hwo : w ≤ n_j
            · skip
              refine j_aload_n C dL_law_1070 rfl ?_
              refine j_aload_n C dL_law_1071 rfl ?_
              refine j_iload C dL_law_1072 rfl ?_
              refine j_iconst (v := (nI 1)) C dL_law_1074 rfl ?_
              refine j_iadd (z := (nI (5 * q + 1))) C dL_law_1075 (nI_add _ _) ?_
              refine j_sld (z := (nI i)) C hX hbl hbA (5 * q + 1) rfl (by omega) (by omega) es1 dL_law_1076 ?_
              refine j_aload_n C dL_law_1077 rfl ?_
              refine j_iload C dL_law_1078 rfl ?_
              refine j_iconst (v := (nI 2)) C dL_law_1080 rfl ?_
              refine j_iadd (z := (nI (5 * q + 2))) C dL_law_1081 (nI_add _ _) ?_
              refine j_sld (z := (nI j)) C hX hbl hbA (5 * q + 2) rfl (by omega) (by omega) es2 dL_law_1082 ?_
              refine j_aload_n C dL_law_1083 rfl ?_
              refine j_iload C dL_law_1084 rfl ?_
              refine j_iconst (v := (nI 3)) C dL_law_1086 rfl ?_
              refine j_iadd (z := (nI (5 * q + 3))) C dL_law_1087 (nI_add _ _) ?_
              refine j_sld (z := (nI u)) C hX hbl hbA (5 * q + 3) rfl (by omega) (by omega) es3 dL_law_1088 ?_
              refine j_aload_n C dL_law_1089 rfl ?_
              refine j_iload C dL_law_1090 rfl ?_
              refine j_iconst (v := (nI 4)) C dL_law_1092 rfl ?_
              refine j_iadd (z := (nI (5 * q + 4))) C dL_law_1093 (nI_add _ _) ?_
              refine j_sld (z := (nI w)) C hX hbl hbA (5 * q + 4) rfl (by omega) (by omega) es4 dL_law_1094 ?_
              refine j_aload_n C dL_law_1095 rfl ?_
              refine j_callSH C (w_compareParts_r l E A (rr := cmpF (fun q => g (i * 24 + q)) (fun q => g (j * 24 + q)) (smI (nI w) (nI w)) u (min w w - u)) (f_compareParts_k l E A hi hj hn_i hz_i hn_j hz_j huw hwn hwo)) ok_L_compareParts w_801 (by decide) rfl rfl (Nat.le_of_ble_eq_true rfl) ⟨by omega, by omega⟩ dL_law_1096 (fun _ _ h => ?_)
              obtain ⟨rfl, rfl⟩ := h
              refine j_istore (lv' := [(5, .int (nI 0)), (4, .int (nI (5 * q))), (3, .ref ot), (2, .ref mo), (1, .ref dk), (0, .ref bs)]) C dL_law_1099 (by decide) rfl ?_
              refine j_aload_n C dL_law_1101 rfl ?_
              refine j_aload_n C dL_law_1102 rfl ?_
              refine j_iload C dL_law_1103 rfl ?_
              refine j_iconst (v := (nI 1)) C dL_law_1105 rfl ?_
              refine j_iadd (z := (nI (5 * q + 1))) C dL_law_1106 (nI_add _ _) ?_
              refine j_sld (z := (nI i)) C hX hbl hbA (5 * q + 1) rfl (by omega) (by omega) es1 dL_law_1107 ?_
              refine j_aload_n C dL_law_1108 rfl ?_
              refine j_iload C dL_law_1109 rfl ?_
              refine j_iconst (v := (nI 2)) C dL_law_1111 rfl ?_
              refine j_iadd (z := (nI (5 * q + 2))) C dL_law_1112 (nI_add _ _) ?_
              refine j_sld (z := (nI j)) C hX hbl hbA (5 * q + 2) rfl (by omega) (by omega) es2 dL_law_1113 ?_
              refine j_aload_n C dL_law_1114 rfl ?_
              refine j_iload C dL_law_1115 rfl ?_
              refine j_iconst (v := (nI 3)) C dL_law_1117 rfl ?_
              refine j_iadd (z := (nI (5 * q + 3))) C dL_law_1118 (nI_add _ _) ?_
              refine j_sld (z := (nI u)) C hX hbl hbA (5 * q + 3) rfl (by omega) (by omega) es3 dL_law_1119 ?_
              refine j_aload_n C dL_law_1120 rfl ?_
              refine j_iload C dL_law_1121 rfl ?_
              refine j_iconst (v := (nI 4)) C dL_law_1123 rfl ?_
              refine j_iadd (z := (nI (5 * q + 4))) C dL_law_1124 (nI_add _ _) ?_
              refine j_sld (z := (nI w)) C hX hbl hbA (5 * q + 4) rfl (by omega) (by omega) es4 dL_law_1125 ?_
              refine j_callV C (q0 := 6) (g_compareParts_k l E A hi hj hr_i hm_i hf_i hn_i hr_j hm_j hf_j hn_j huw hwn hwo) ok_X5_compareParts w_1100 (by decide) rfl rfl (Nat.le_of_ble_eq_true rfl) rfl rfl ⟨by omega, by omega⟩ dL_law_1126 (fun _ _ h => h.elim) (fun _ _ h => ?_)
              obtain ⟨qa, qb, hq, hq2, rfl, rfl⟩ := h
              refine j_istore (lv' := [(6, .int (cmpF (pfx (fun q => h_i (u + q)) (w - u)) (pfx (fun q => h_j (u + q)) (w - u)) (smI (nI (w - u)) (nI (w - u))) 0 (min (w - u) (w - u) - 0))), (5, .int (nI 0)), (4, .int (nI (5 * q))), (3, .ref ot), (2, .ref mo), (1, .ref dk), (0, .ref bs)]) C dL_law_1129 (by decide) rfl ?_
              refine j_goto (tgt := 1674) C dL_law_1131 (by decide) ?_
              refine j_lv (lv' := [(4, .int (nI (5 * q))), (3, .ref ot), (2, .ref mo), (1, .ref dk), (0, .ref bs)]) (by simp only [List.mem_cons, List.not_mem_nil, or_false, forall_eq_or_imp, forall_eq, true_or, or_true, and_self, Nat.add_zero]) ?_
              refine j_widen (k := cs + 600) (n := sl + 10000) (by omega) (by omega) ?_
              exact kk _ _ _ _ _ _ _ _ _ _ _ _ _ (hR.ext (ext_2 (ext_1 hq) hq2))
            · skip
              refine j_aload_n C dL_law_1070 rfl ?_
              refine j_aload_n C dL_law_1071 rfl ?_
              refine j_iload C dL_law_1072 rfl ?_
              refine j_iconst (v := (nI 1)) C dL_law_1074 rfl ?_
              refine j_iadd (z := (nI (5 * q + 1))) C dL_law_1075 (nI_add _ _) ?_
              refine j_sld (z := (nI i)) C hX hbl hbA (5 * q + 1) rfl (by omega) (by omega) es1 dL_law_1076 ?_
              refine j_aload_n C dL_law_1077 rfl ?_
              refine j_iload C dL_law_1078 rfl ?_
              refine j_iconst (v := (nI 2)) C dL_law_1080 rfl ?_
              refine j_iadd (z := (nI (5 * q + 2))) C dL_law_1081 (nI_add _ _) ?_
              refine j_sld (z := (nI j)) C hX hbl hbA (5 * q + 2) rfl (by omega) (by omega) es2 dL_law_1082 ?_
              refine j_aload_n C dL_law_1083 rfl ?_
              refine j_iload C dL_law_1084 rfl ?_
              refine j_iconst (v := (nI 3)) C dL_law_1086 rfl ?_
              refine j_iadd (z := (nI (5 * q + 3))) C dL_law_1087 (nI_add _ _) ?_
              refine j_sld (z := (nI u)) C hX hbl hbA (5 * q + 3) rfl (by omega) (by omega) es3 dL_law_1088 ?_
              refine j_aload_n C dL_law_1089 rfl ?_
              refine j_iload C dL_law_1090 rfl ?_
              refine j_iconst (v := (nI 4)) C dL_law_1092 rfl ?_
              refine j_iadd (z := (nI (5 * q + 4))) C dL_law_1093 (nI_add _ _) ?_
              refine j_sld (z := (nI w)) C hX hbl hbA (5 * q + 4) rfl (by omega) (by omega) es4 dL_law_1094 ?_
              refine j_aload_n C dL_law_1095 rfl ?_
              refine j_callSH C (w_compareParts_r l E A (rr := -9) (f_compareParts_o2 l E A hi hj hn_i hz_i hn_j hz_j (span_in huw hwn hn_i) (span_out hwo hn_j hwn hn_i))) ok_L_compareParts w_801 (by decide) rfl rfl (Nat.le_of_ble_eq_true rfl) ⟨by omega, by omega⟩ dL_law_1096 (fun _ _ h => ?_)
              obtain ⟨rfl, rfl⟩ := h
              refine j_istore (lv' := [(5, .int (nI 0)), (4, .int (nI (5 * q))), (3, .ref ot), (2, .ref mo), (1, .ref dk), (0, .ref bs)]) C dL_law_1099 (by decide) rfl ?_
              refine j_aload_n C dL_law_1101 rfl ?_
              refine j_aload_n C dL_law_1102 rfl ?_
              refine j_iload C dL_law_1103 rfl ?_
              refine j_iconst (v := (nI 1)) C dL_law_1105 rfl ?_
              refine j_iadd (z := (nI (5 * q + 1))) C dL_law_1106 (nI_add _ _) ?_
              refine j_sld (z := (nI i)) C hX hbl hbA (5 * q + 1) rfl (by omega) (by omega) es1 dL_law_1107 ?_
              refine j_aload_n C dL_law_1108 rfl ?_
              refine j_iload C dL_law_1109 rfl ?_
              refine j_iconst (v := (nI 2)) C dL_law_1111 rfl ?_
              refine j_iadd (z := (nI (5 * q + 2))) C dL_law_1112 (nI_add _ _) ?_
              refine j_sld (z := (nI j)) C hX hbl hbA (5 * q + 2) rfl (by omega) (by omega) es2 dL_law_1113 ?_
              refine j_aload_n C dL_law_1114 rfl ?_
              refine j_iload C dL_law_1115 rfl ?_
              refine j_iconst (v := (nI 3)) C dL_law_1117 rfl ?_
              refine j_iadd (z := (nI (5 * q + 3))) C dL_law_1118 (nI_add _ _) ?_
              refine j_sld (z := (nI u)) C hX hbl hbA (5 * q + 3) rfl (by omega) (by omega) es3 dL_law_1119 ?_
              refine j_aload_n C dL_law_1120 rfl ?_
              refine j_iload C dL_law_1121 rfl ?_
              refine j_iconst (v := (nI 4)) C dL_law_1123 rfl ?_
              refine j_iadd (z := (nI (5 * q + 4))) C dL_law_1124 (nI_add _ _) ?_
              refine j_sld (z := (nI w)) C hX hbl hbA (5 * q + 4) rfl (by omega) (by omega) es4 dL_law_1125 ?_
              refine j_callVr C 6 (v := .int (-9)) (w := (gW E t sz sg la dk ot mo ou z g b (cr + nI 1) ca cg ck ((-9).toInt64) os (nI 0) (cr + nI 1) ca cg ck ro LL ff)) (g_compareParts_o2 l E A hi hj hr_i hm_i hf_i hn_i hr_j hm_j hf_j hn_j (span_in huw hwn hn_i) (span_out hwo hn_j hwn hn_i)) ok_X5_compareParts w_1100 (by decide) rfl rfl (Nat.le_of_ble_eq_true rfl) rfl rfl ⟨by omega, by omega⟩ dL_law_1126 ?_
              refine j_istore (lv' := [(6, .int (-9)), (5, .int (nI 0)), (4, .int (nI (5 * q))), (3, .ref ot), (2, .ref mo), (1, .ref dk), (0, .ref bs)]) C dL_law_1129 (by decide) rfl ?_
              refine j_goto (tgt := 1674) C dL_law_1131 (by decide) ?_
              refine j_lv (lv' := [(4, .int (nI (5 * q))), (3, .ref ot), (2, .ref mo), (1, .ref dk), (0, .ref bs)]) (by simp only [List.mem_cons, List.not_mem_nil, or_false, forall_eq_or_imp, forall_eq, true_or, or_true, and_self, Nat.add_zero]) ?_
              refine j_widen (k := cs + 600) (n := sl + 10000) (by omega) (by omega) ?_
              exact kk _ _ _ _ _ _ _ _ _ _ _ _ _ (hR)
          · skip
            refine j_aload_n C dL_law_1070 rfl ?_
            refine j_aload_n C dL_law_1071 rfl ?_
            refine j_iload C dL_law_1072 rfl ?_
            refine j_iconst (v := (nI 1)) C dL_law_1074 rfl ?_
            refine j_iadd (z := (nI (5 * q + 1))) C dL_law_1075 (nI_add _ _) ?_
            refine j_sld (z := (nI i)) C hX hbl hbA (5 * q + 1) rfl (by omega) (by omega) es1 dL_law_1076 ?_
            refine j_aload_n C dL_law_1077 rfl ?_
            refine j_iload C dL_law_1078 rfl ?_
            refine j_iconst (v := (nI 2)) C dL_law_1080 rfl ?_
            refine j_iadd (z := (nI (5 * q + 2))) C dL_law_1081 (nI_add _ _) ?_
            refine j_sld (z := (nI j)) C hX hbl hbA (5 * q + 2) rfl (by omega) (by omega) es2 dL_law_1082 ?_
            refine j_aload_n C dL_law_1083 rfl ?_
            refine j_iload C dL_law_1084 rfl ?_
            refine j_iconst (v := (nI 3)) C dL_law_1086 rfl ?_
            refine j_iadd (z := (nI (5 * q + 3))) C dL_law_1087 (nI_add _ _) ?_
            refine j_sld (z := x3) C hX hbl hbA (5 * q + 3) rfl (by omega) (by omega) es3 dL_law_1088 ?_
            refine j_aload_n C dL_law_1089 rfl ?_
            refine j_iload C dL_law_1090 rfl ?_
            refine j_iconst (v := (nI 4)) C dL_law_1092 rfl ?_
            refine j_iadd (z := (nI (5 * q + 4))) C dL_law_1093 (nI_add _ _) ?_
            refine j_sld (z := x4) C hX hbl hbA (5 * q + 4) rfl (by omega) (by omega) es4 dL_law_1094 ?_
            refine j_aload_n C dL_law_1095 rfl ?_
            refine j_callSH C (w_compareParts_r l E A (rr := -9) (f_compareParts_o1 l E A hi hj hn_i hz_i hn_j hz_j ho)) ok_L_compareParts w_801 (by decide) rfl rfl (Nat.le_of_ble_eq_true rfl) ⟨by omega, by omega⟩ dL_law_1096 (fun _ _ h => ?_)
            obtain ⟨rfl, rfl⟩ := h
            refine j_istore (lv' := [(5, .int (nI 0)), (4, .int (nI (5 * q))), (3, .ref ot), (2, .ref mo), (1, .ref dk), (0, .ref bs)]) C dL_law_1099 (by decide) rfl ?_
            refine j_aload_n C dL_law_1101 rfl ?_
            refine j_aload_n C dL_law_1102 rfl ?_
            refine j_iload C dL_law_1103 rfl ?_
            refine j_iconst (v := (nI 1)) C dL_law_1105 rfl ?_
            refine j_iadd (z := (nI (5 * q + 1))) C dL_law_1106 (nI_add _ _) ?_
            refine j_sld (z := (nI i)) C hX hbl hbA (5 * q + 1) rfl (by omega) (by omega) es1 dL_law_1107 ?_
            refine j_aload_n C dL_law_1108 rfl ?_
            refine j_iload C dL_law_1109 rfl ?_
            refine j_iconst (v := (nI 2)) C dL_law_1111 rfl ?_
            refine j_iadd (z := (nI (5 * q + 2))) C dL_law_1112 (nI_add _ _) ?_
            refine j_sld (z := (nI j)) C hX hbl hbA (5 * q + 2) rfl (by omega) (by omega) es2 dL_law_1113 ?_
            refine j_aload_n C dL_law_1114 rfl ?_
            refine j_iload C dL_law_1115 rfl ?_
            refine j_iconst (v := (nI 3)) C dL_law_1117 rfl ?_
            refine j_iadd (z := (nI (5 * q + 3))) C dL_law_1118 (nI_add _ _) ?_
            refine j_sld (z := x3) C hX hbl hbA (5 * q + 3) rfl (by omega) (by omega) es3 dL_law_1119 ?_
            refine j_aload_n C dL_law_1120 rfl ?_
            refine j_iload C dL_law_1121 rfl ?_
            refine j_iconst (v := (nI 4)) C dL_law_1123 rfl ?_
            refine j_iadd (z := (nI (5 * q + 4))) C dL_law_1124 (nI_add _ _) ?_
            refine j_sld (z := x4) C hX hbl hbA (5 * q + 4) rfl (by omega) (by omega) es4 dL_law_1125 ?_
            refine j_callVr C 6 (v := .int (-9)) (w := (gW E t sz sg la dk ot mo ou z g b (cr + nI 1) ca cg ck ((-9).toInt64) os (nI 0) (cr + nI 1) ca cg ck ro LL ff)) (g_compareParts_o1 l E A hi hj hr_i hm_i hf_i hn_i hr_j hm_j hf_j hn_j ho) ok_X5_compareParts w_1100 (by decide) rfl rfl (Nat.le_of_ble_eq_true rfl) rfl rfl ⟨by omega, by omega⟩ dL_law_1126 ?_
            refine j_istore (lv' := [(6, .int (-9)), (5, .int (nI 0)), (4, .int (nI (5 * q))), (3, .ref ot), (2, .ref mo), (1, .ref dk), (0, .ref bs)]) C dL_law_1129 (by decide) rfl ?_
            refine j_goto (tgt := 1674) C dL_law_1131 (by decide) ?_
            refine j_lv (lv' := [(4, .int (nI (5 * q))), (3, .ref ot), (2, .ref mo), (1, .ref dk), (0, .ref bs)]) (by simp only [List.mem_cons, List.not_mem_nil, or_false, forall_eq_or_imp, forall_eq, true_or, or_true, and_self, Nat.add_zero]) ?_
            refine j_widen (k := cs + 600) (n := sl + 10000) (by omega) (by omega) ?_
            exact kk _ _ _ _ _ _ _ _ _ _ _ _ _ (hR)
    · skip
      refine j_aload_n C dL_law_1070 rfl ?_
      refine j_aload_n C dL_law_1071 rfl ?_
      refine j_iload C dL_law_1072 rfl ?_
      refine j_iconst (v := (nI 1)) C dL_law_1074 rfl ?_
      refine j_iadd (z := (nI (5 * q + 1))) C dL_law_1075 (nI_add _ _) ?_
      refine j_sld (z := (nI i)) C hX hbl hbA (5 * q + 1) rfl (by omega) (by omega) es1 dL_law_1076 ?_
      refine j_aload_n C dL_law_1077 rfl ?_
      refine j_iload C dL_law_1078 rfl ?_
      refine j_iconst (v := (nI 2)) C dL_law_1080 rfl ?_
      refine j_iadd (z := (nI (5 * q + 2))) C dL_law_1081 (nI_add _ _) ?_
      refine j_sld (z := x2) C hX hbl hbA (5 * q + 2) rfl (by omega) (by omega) es2 dL_law_1082 ?_
      refine j_aload_n C dL_law_1083 rfl ?_
      refine j_iload C dL_law_1084 rfl ?_
      refine j_iconst (v := (nI 3)) C dL_law_1086 rfl ?_
      refine j_iadd (z := (nI (5 * q + 3))) C dL_law_1087 (nI_add _ _) ?_
      refine j_sld (z := x3) C hX hbl hbA (5 * q + 3) rfl (by omega) (by omega) es3 dL_law_1088 ?_
      refine j_aload_n C dL_law_1089 rfl ?_
      refine j_iload C dL_law_1090 rfl ?_
      refine j_iconst (v := (nI 4)) C dL_law_1092 rfl ?_
      refine j_iadd (z := (nI (5 * q + 4))) C dL_law_1093 (nI_add _ _) ?_
      refine j_sld (z := x4) C hX hbl hbA (5 * q + 4) rfl (by omega) (by omega) es4 dL_law_1094 ?_
      refine j_aload_n C dL_law_1095 rfl ?_
      refine j_callSH C (w_compareParts_jIO l E A (f_compareParts_b2 l hl E A hi hbx2)) ok_L_compareParts w_801 (by decide) rfl rfl (Nat.le_of_ble_eq_true rfl) ⟨by omega, by omega⟩ dL_law_1096 (fun _ _ h => ?_)
      obtain ⟨rfl, rfl⟩ := h
      refine j_istore (lv' := [(5, .int (nI 1)), (4, .int (nI (5 * q))), (3, .ref ot), (2, .ref mo), (1, .ref dk), (0, .ref bs)]) C dL_law_1099 (by decide) rfl ?_
      refine j_aload_n C dL_law_1101 rfl ?_
      refine j_aload_n C dL_law_1102 rfl ?_
      refine j_iload C dL_law_1103 rfl ?_
      refine j_iconst (v := (nI 1)) C dL_law_1105 rfl ?_
      refine j_iadd (z := (nI (5 * q + 1))) C dL_law_1106 (nI_add _ _) ?_
      refine j_sld (z := (nI i)) C hX hbl hbA (5 * q + 1) rfl (by omega) (by omega) es1 dL_law_1107 ?_
      refine j_aload_n C dL_law_1108 rfl ?_
      refine j_iload C dL_law_1109 rfl ?_
      refine j_iconst (v := (nI 2)) C dL_law_1111 rfl ?_
      refine j_iadd (z := (nI (5 * q + 2))) C dL_law_1112 (nI_add _ _) ?_
      refine j_sld (z := x2) C hX hbl hbA (5 * q + 2) rfl (by omega) (by omega) es2 dL_law_1113 ?_
      refine j_aload_n C dL_law_1114 rfl ?_
      refine j_iload C dL_law_1115 rfl ?_
      refine j_iconst (v := (nI 3)) C dL_law_1117 rfl ?_
      refine j_iadd (z := (nI (5 * q + 3))) C dL_law_1118 (nI_add _ _) ?_
      refine j_sld (z := x3) C hX hbl hbA (5 * q + 3) rfl (by omega) (by omega) es3 dL_law_1119 ?_
      refine j_aload_n C dL_law_1120 rfl ?_
      refine j_iload C dL_law_1121 rfl ?_
      refine j_iconst (v := (nI 4)) C dL_law_1123 rfl ?_
      refine j_iadd (z := (nI (5 * q + 4))) C dL_law_1124 (nI_add _ _) ?_
      refine j_sld (z := x4) C hX hbl hbA (5 * q + 4) rfl (by omega) (by omega) es4 dL_law_1125 ?_
      refine j_callVr C 6 (v := .int (nI 0)) (w := (gW E t sz sg la dk ot mo ou z g b cr ca cg ck on os (nI 1) cr ca cg ck ro LL ff)) (g_compareParts_b2 l E A hi hbx2) ok_X5_compareParts w_1100 (by decide) rfl rfl (Nat.le_of_ble_eq_true rfl) rfl rfl ⟨by omega, by omega⟩ dL_law_1126 ?_
      refine j_istore (lv' := [(6, .int (nI 0)), (5, .int (nI 1)), (4, .int (nI (5 * q))), (3, .ref ot), (2, .ref mo), (1, .ref dk), (0, .ref bs)]) C dL_law_1129 (by decide) rfl ?_
      refine j_goto (tgt := 1674) C dL_law_1131 (by decide) ?_
      refine j_lv (lv' := [(4, .int (nI (5 * q))), (3, .ref ot), (2, .ref mo), (1, .ref dk), (0, .ref bs)]) (by simp only [List.mem_cons, List.not_mem_nil, or_false, forall_eq_or_imp, forall_eq, true_or, or_true, and_self, Nat.add_zero]) ?_
      refine j_widen (k := cs + 600) (n := sl + 10000) (by omega) (by omega) ?_
      exact kk _ _ _ _ _ _ _ _ _ _ _ _ _ (hR)
  · skip
    refine j_aload_n C dL_law_1070 rfl ?_
    refine j_aload_n C dL_law_1071 rfl ?_
    refine j_iload C dL_law_1072 rfl ?_
    refine j_iconst (v := (nI 1)) C dL_law_1074 rfl ?_
    refine j_iadd (z := (nI (5 * q + 1))) C dL_law_1075 (nI_add _ _) ?_
    refine j_sld (z := x1) C hX hbl hbA (5 * q + 1) rfl (by omega) (by omega) es1 dL_law_1076 ?_
    refine j_aload_n C dL_law_1077 rfl ?_
    refine j_iload C dL_law_1078 rfl ?_
    refine j_iconst (v := (nI 2)) C dL_law_1080 rfl ?_
    refine j_iadd (z := (nI (5 * q + 2))) C dL_law_1081 (nI_add _ _) ?_
    refine j_sld (z := x2) C hX hbl hbA (5 * q + 2) rfl (by omega) (by omega) es2 dL_law_1082 ?_
    refine j_aload_n C dL_law_1083 rfl ?_
    refine j_iload C dL_law_1084 rfl ?_
    refine j_iconst (v := (nI 3)) C dL_law_1086 rfl ?_
    refine j_iadd (z := (nI (5 * q + 3))) C dL_law_1087 (nI_add _ _) ?_
    refine j_sld (z := x3) C hX hbl hbA (5 * q + 3) rfl (by omega) (by omega) es3 dL_law_1088 ?_
    refine j_aload_n C dL_law_1089 rfl ?_
    refine j_iload C dL_law_1090 rfl ?_
    refine j_iconst (v := (nI 4)) C dL_law_1092 rfl ?_
    refine j_iadd (z := (nI (5 * q + 4))) C dL_law_1093 (nI_add _ _) ?_
    refine j_sld (z := x4) C hX hbl hbA (5 * q + 4) rfl (by omega) (by omega) es4 dL_law_1094 ?_
    refine j_aload_n C dL_law_1095 rfl ?_
    refine j_callSH C (w_compareParts_jIO l E A (f_compareParts_b1 l hl E A hbx1)) ok_L_compareParts w_801 (by decide) rfl rfl (Nat.le_of_ble_eq_true rfl) ⟨by omega, by omega⟩ dL_law_1096 (fun _ _ h => ?_)
    obtain ⟨rfl, rfl⟩ := h
    refine j_istore (lv' := [(5, .int (nI 1)), (4, .int (nI (5 * q))), (3, .ref ot), (2, .ref mo), (1, .ref dk), (0, .ref bs)]) C dL_law_1099 (by decide) rfl ?_
    refine j_aload_n C dL_law_1101 rfl ?_
    refine j_aload_n C dL_law_1102 rfl ?_
    refine j_iload C dL_law_1103 rfl ?_
    refine j_iconst (v := (nI 1)) C dL_law_1105 rfl ?_
    refine j_iadd (z := (nI (5 * q + 1))) C dL_law_1106 (nI_add _ _) ?_
    refine j_sld (z := x1) C hX hbl hbA (5 * q + 1) rfl (by omega) (by omega) es1 dL_law_1107 ?_
    refine j_aload_n C dL_law_1108 rfl ?_
    refine j_iload C dL_law_1109 rfl ?_
    refine j_iconst (v := (nI 2)) C dL_law_1111 rfl ?_
    refine j_iadd (z := (nI (5 * q + 2))) C dL_law_1112 (nI_add _ _) ?_
    refine j_sld (z := x2) C hX hbl hbA (5 * q + 2) rfl (by omega) (by omega) es2 dL_law_1113 ?_
    refine j_aload_n C dL_law_1114 rfl ?_
    refine j_iload C dL_law_1115 rfl ?_
    refine j_iconst (v := (nI 3)) C dL_law_1117 rfl ?_
    refine j_iadd (z := (nI (5 * q + 3))) C dL_law_1118 (nI_add _ _) ?_
    refine j_sld (z := x3) C hX hbl hbA (5 * q + 3) rfl (by omega) (by omega) es3 dL_law_1119 ?_
    refine j_aload_n C dL_law_1120 rfl ?_
    refine j_iload C dL_law_1121 rfl ?_
    refine j_iconst (v := (nI 4)) C dL_law_1123 rfl ?_
    refine j_iadd (z := (nI (5 * q + 4))) C dL_law_1124 (nI_add _ _) ?_
    refine j_sld (z := x4) C hX hbl hbA (5 * q + 4) rfl (by omega) (by omega) es4 dL_law_1125 ?_
    refine j_callVr C 6 (v := .int (nI 0)) (w := (gW E t sz sg la dk ot mo ou z g b cr ca cg ck on os (nI 1) cr ca cg ck ro LL ff)) (g_compareParts_b1 l E A hbx1) ok_X5_compareParts w_1100 (by decide) rfl rfl (Nat.le_of_ble_eq_true rfl) rfl rfl ⟨by omega, by omega⟩ dL_law_1126 ?_
    refine j_istore (lv' := [(6, .int (nI 0)), (5, .int (nI 1)), (4, .int (nI (5 * q))), (3, .ref ot), (2, .ref mo), (1, .ref dk), (0, .ref bs)]) C dL_law_1129 (by decide) rfl ?_
    refine j_goto (tgt := 1674) C dL_law_1131 (by decide) ?_
    refine j_lv (lv' := [(4, .int (nI (5 * q))), (3, .ref ot), (2, .ref mo), (1, .ref dk), (0, .ref bs)]) (by simp only [List.mem_cons, List.not_mem_nil, or_false, forall_eq_or_imp, forall_eq, true_or, or_true, and_self, Nat.add_zero]) ?_
    refine j_widen (k := cs + 600) (n := sl + 10000) (by omega) (by omega) ?_
    exact kk _ _ _ _ _ _ _ _ _ _ _ _ _ (hR)
set_option maxHeartbeats 4000000 in
set_option maxRecDepth 100000 in
theorem op_isLike (l : Launch) (hl : l.stackTraces = false) (E : jE) (A : Nat → Prop) {t sz sg la dk ot mo ou : Nat} {z g b : Nat → Int32} {cr ca cg ck : Int32} {on : Int64} {os : Value} {th : Int32} {ro : Nat → Option Nat} {LL : List Nat} {ff : Nat → va_E} {p : Program} {e : Env} {R : Room} {s : State} {m : MethodId} {args : Array Value} {below : List Frame} {meth : Method} {c : Code} {Q : State → Prop} {nn mc ms bs Ln q cs sl : Nat} {xs : Nat → Int32} {x1 x2 x3 x4 : Int32} (C : jC p l e R s m args below meth c x code 7 ret 2000 mc ms E A) (hX : va_X bs Ln xs s s.heap) (hbl : bs < s.heap.size) (hbA : ¬ A bs) (hLn : Ln ≤ 2560) (hq : 5 * q + 5 ≤ Ln) (hmc : cs + 600 ≤ mc) (hms : sl + 10000 ≤ ms) (es1 : xs (5 * q + 1) = x1) (es2 : xs (5 * q + 2) = x2) (es3 : xs (5 * q + 3) = x3) (es4 : xs (5 * q + 4) = x4) (hR : Rel E z g ro LL ff) (kk : ∀ (z' g' b' : Nat → Int32) (cr' ca' cg' ck' : Int32) (on' : Int64) (os' : Value) (th' : Int32) (ro' : Nat → Option Nat) (L' : List Nat) (f' : Nat → va_E), Rel E z' g' ro' L' f' → jJ p l e R s m args below meth c E A 7 Q (cs + 600) (sl + 10000) 1674 [(4, .int (nI (5 * q))), (3, .ref ot), (2, .ref mo), (1, .ref dk), (0, .ref bs)] [] (gW E t sz sg la dk ot mo ou (z') (g') (b') (cr') (ca') (cg') (ck') (on') (os') (th') (cr') (ca') (cg') (ck') (ro') (L') (f'))) : jJ p l e R s m args below meth c E A 7 Q cs sl 1134 [(4, .int (nI (5 * q))), (3, .ref ot), (2, .ref mo), (1, .ref dk), (0, .ref bs)] [] (gW E t sz sg la dk ot mo ou z g b cr ca cg ck on os th cr ca cg ck ro LL ff) := by
  have hT := hR.tx
  rcases seat_cases x1 3 (by decide) with ⟨i, hi, rfl⟩ | hbx1
  · skip
    rcases seat_cases x2 9 (by decide) with ⟨j, hj, rfl⟩ | hbx2
    · skip
      rcases hR.1 i (by omega) with ⟨hz_i, hr_i⟩ | ⟨a_i, n_i, h_i, hn_i, hz_i, hr_i, hm_i, hf_i, hs_i⟩
      · skip
        refine j_aload_n C dL_law_1134 rfl ?_
        refine j_aload_n C dL_law_1135 rfl ?_
        refine j_iload C dL_law_1136 rfl ?_
        refine j_iconst (v := (nI 1)) C dL_law_1138 rfl ?_
        refine j_iadd (z := (nI (5 * q + 1))) C dL_law_1139 (nI_add _ _) ?_
        refine j_sld (z := (nI i)) C hX hbl hbA (5 * q + 1) rfl (by omega) (by omega) es1 dL_law_1140 ?_
        refine j_aload_n C dL_law_1141 rfl ?_
        refine j_iload C dL_law_1142 rfl ?_
        refine j_iconst (v := (nI 2)) C dL_law_1144 rfl ?_
        refine j_iadd (z := (nI (5 * q + 2))) C dL_law_1145 (nI_add _ _) ?_
        refine j_sld (z := (nI j)) C hX hbl hbA (5 * q + 2) rfl (by omega) (by omega) es2 dL_law_1146 ?_
        refine j_aload_n C dL_law_1147 rfl ?_
        refine j_callSH C (w_isLike_jIS l E A (f_isLike_m1 l hl E A hi hj hz_i)) ok_L_isLike w_809 (by decide) rfl rfl (Nat.le_of_ble_eq_true rfl) ⟨by omega, by omega⟩ dL_law_1148 (fun _ _ h => ?_)
        obtain ⟨rfl, rfl⟩ := h
        refine j_istore (lv' := [(5, .int (nI 2)), (4, .int (nI (5 * q))), (3, .ref ot), (2, .ref mo), (1, .ref dk), (0, .ref bs)]) C dL_law_1151 (by decide) rfl ?_
        refine j_aload_n C dL_law_1153 rfl ?_
        refine j_aload_n C dL_law_1154 rfl ?_
        refine j_iload C dL_law_1155 rfl ?_
        refine j_iconst (v := (nI 1)) C dL_law_1157 rfl ?_
        refine j_iadd (z := (nI (5 * q + 1))) C dL_law_1158 (nI_add _ _) ?_
        refine j_sld (z := (nI i)) C hX hbl hbA (5 * q + 1) rfl (by omega) (by omega) es1 dL_law_1159 ?_
        refine j_aload_n C dL_law_1160 rfl ?_
        refine j_iload C dL_law_1161 rfl ?_
        refine j_iconst (v := (nI 2)) C dL_law_1163 rfl ?_
        refine j_iadd (z := (nI (5 * q + 2))) C dL_law_1164 (nI_add _ _) ?_
        refine j_sld (z := (nI j)) C hX hbl hbA (5 * q + 2) rfl (by omega) (by omega) es2 dL_law_1165 ?_
        refine j_callVr C 6 (v := .int (nI 0)) (w := (gW E t sz sg la dk ot mo ou z g b cr ca cg ck on os (nI 2) cr ca cg ck ro LL ff)) (g_isLike_m1 l E A hi hr_i hj) ok_X5_isLike w_1104 (by decide) rfl rfl (Nat.le_of_ble_eq_true rfl) rfl rfl ⟨by omega, by omega⟩ dL_law_1166 ?_
        refine j_istore (lv' := [(6, .int (nI 0)), (5, .int (nI 2)), (4, .int (nI (5 * q))), (3, .ref ot), (2, .ref mo), (1, .ref dk), (0, .ref bs)]) C dL_law_1169 (by decide) rfl ?_
        refine j_goto (tgt := 1674) C dL_law_1171 (by decide) ?_
        refine j_lv (lv' := [(4, .int (nI (5 * q))), (3, .ref ot), (2, .ref mo), (1, .ref dk), (0, .ref bs)]) (by simp only [List.mem_cons, List.not_mem_nil, or_false, forall_eq_or_imp, forall_eq, true_or, or_true, and_self, Nat.add_zero]) ?_
        refine j_widen (k := cs + 600) (n := sl + 10000) (by omega) (by omega) ?_
        exact kk _ _ _ _ _ _ _ _ _ _ _ _ _ (hR)
      · skip
        rcases hR.1 j (by omega) with ⟨hz_j, hr_j⟩ | ⟨a_j, n_j, h_j, hn_j, hz_j, hr_j, hm_j, hf_j, hs_j⟩
        · skip
          refine j_aload_n C dL_law_1134 rfl ?_
          refine j_aload_n C dL_law_1135 rfl ?_
          refine j_iload C dL_law_1136 rfl ?_
          refine j_iconst (v := (nI 1)) C dL_law_1138 rfl ?_
          refine j_iadd (z := (nI (5 * q + 1))) C dL_law_1139 (nI_add _ _) ?_
          refine j_sld (z := (nI i)) C hX hbl hbA (5 * q + 1) rfl (by omega) (by omega) es1 dL_law_1140 ?_
          refine j_aload_n C dL_law_1141 rfl ?_
          refine j_iload C dL_law_1142 rfl ?_
          refine j_iconst (v := (nI 2)) C dL_law_1144 rfl ?_
          refine j_iadd (z := (nI (5 * q + 2))) C dL_law_1145 (nI_add _ _) ?_
          refine j_sld (z := (nI j)) C hX hbl hbA (5 * q + 2) rfl (by omega) (by omega) es2 dL_law_1146 ?_
          refine j_aload_n C dL_law_1147 rfl ?_
          refine j_callSH C (w_isLike_r l E A (rr := -9) (f_isLike_m2 l E A hi hj hn_i hz_i hz_j)) ok_L_isLike w_809 (by decide) rfl rfl (Nat.le_of_ble_eq_true rfl) ⟨by omega, by omega⟩ dL_law_1148 (fun _ _ h => ?_)
          obtain ⟨rfl, rfl⟩ := h
          refine j_istore (lv' := [(5, .int (nI 0)), (4, .int (nI (5 * q))), (3, .ref ot), (2, .ref mo), (1, .ref dk), (0, .ref bs)]) C dL_law_1151 (by decide) rfl ?_
          refine j_aload_n C dL_law_1153 rfl ?_
          refine j_aload_n C dL_law_1154 rfl ?_
          refine j_iload C dL_law_1155 rfl ?_
          refine j_iconst (v := (nI 1)) C dL_law_1157 rfl ?_
          refine j_iadd (z := (nI (5 * q + 1))) C dL_law_1158 (nI_add _ _) ?_
          refine j_sld (z := (nI i)) C hX hbl hbA (5 * q + 1) rfl (by omega) (by omega) es1 dL_law_1159 ?_
          refine j_aload_n C dL_law_1160 rfl ?_
          refine j_iload C dL_law_1161 rfl ?_
          refine j_iconst (v := (nI 2)) C dL_law_1163 rfl ?_
          refine j_iadd (z := (nI (5 * q + 2))) C dL_law_1164 (nI_add _ _) ?_
          refine j_sld (z := (nI j)) C hX hbl hbA (5 * q + 2) rfl (by omega) (by omega) es2 dL_law_1165 ?_
          refine j_callVr C 6 (v := .int (-9)) (w := (gW E t sz sg la dk ot mo ou z g b (cr + nI 1) ca cg ck ((-9).toInt64) os (nI 0) (cr + nI 1) ca cg ck ro LL ff)) (g_isLike_m2 l E A hi hr_i hm_i hf_i hn_i hj hr_j) ok_X5_isLike w_1104 (by decide) rfl rfl (Nat.le_of_ble_eq_true rfl) rfl rfl ⟨by omega, by omega⟩ dL_law_1166 ?_
          refine j_istore (lv' := [(6, .int (-9)), (5, .int (nI 0)), (4, .int (nI (5 * q))), (3, .ref ot), (2, .ref mo), (1, .ref dk), (0, .ref bs)]) C dL_law_1169 (by decide) rfl ?_
          refine j_goto (tgt := 1674) C dL_law_1171 (by decide) ?_
          refine j_lv (lv' := [(4, .int (nI (5 * q))), (3, .ref ot), (2, .ref mo), (1, .ref dk), (0, .ref bs)]) (by simp only [List.mem_cons, List.not_mem_nil, or_false, forall_eq_or_imp, forall_eq, true_or, or_true, and_self, Nat.add_zero]) ?_
          refine j_widen (k := cs + 600) (n := sl + 10000) (by omega) (by omega) ?_
          exact kk _ _ _ _ _ _ _ _ _ _ _ _ _ (hR)
        · skip
          refine j_aload_n C dL_law_1134 rfl ?_
          refine j_aload_n C dL_law_1135 rfl ?_
          refine j_iload C dL_law_1136 rfl ?_
          refine j_iconst (v := (nI 1)) C dL_law_1138 rfl ?_
          refine j_iadd (z := (nI (5 * q + 1))) C dL_law_1139 (nI_add _ _) ?_
          refine j_sld (z := (nI i)) C hX hbl hbA (5 * q + 1) rfl (by omega) (by omega) es1 dL_law_1140 ?_
          refine j_aload_n C dL_law_1141 rfl ?_
          refine j_iload C dL_law_1142 rfl ?_
          refine j_iconst (v := (nI 2)) C dL_law_1144 rfl ?_
          refine j_iadd (z := (nI (5 * q + 2))) C dL_law_1145 (nI_add _ _) ?_
          refine j_sld (z := (nI j)) C hX hbl hbA (5 * q + 2) rfl (by omega) (by omega) es2 dL_law_1146 ?_
          refine j_aload_n C dL_law_1147 rfl ?_
          refine j_callSH C (w_isLike_r l E A (rr := samS z g i j) (f_isLike_k l E A hi hj hT hn_i hz_i hn_j hz_j)) ok_L_isLike w_809 (by decide) rfl rfl (Nat.le_of_ble_eq_true rfl) ⟨by omega, by omega⟩ dL_law_1148 (fun _ _ h => ?_)
          obtain ⟨rfl, rfl⟩ := h
          refine j_istore (lv' := [(5, .int (nI 0)), (4, .int (nI (5 * q))), (3, .ref ot), (2, .ref mo), (1, .ref dk), (0, .ref bs)]) C dL_law_1151 (by decide) rfl ?_
          refine j_aload_n C dL_law_1153 rfl ?_
          refine j_aload_n C dL_law_1154 rfl ?_
          refine j_iload C dL_law_1155 rfl ?_
          refine j_iconst (v := (nI 1)) C dL_law_1157 rfl ?_
          refine j_iadd (z := (nI (5 * q + 1))) C dL_law_1158 (nI_add _ _) ?_
          refine j_sld (z := (nI i)) C hX hbl hbA (5 * q + 1) rfl (by omega) (by omega) es1 dL_law_1159 ?_
          refine j_aload_n C dL_law_1160 rfl ?_
          refine j_iload C dL_law_1161 rfl ?_
          refine j_iconst (v := (nI 2)) C dL_law_1163 rfl ?_
          refine j_iadd (z := (nI (5 * q + 2))) C dL_law_1164 (nI_add _ _) ?_
          refine j_sld (z := (nI j)) C hX hbl hbA (5 * q + 2) rfl (by omega) (by omega) es2 dL_law_1165 ?_
          refine j_callVr C 6 (v := .int (bI (cmpF h_i h_j (smI (nI n_i) (nI n_j)) 0 (min n_i n_j - 0) = 0))) (w := (gW E t sz sg la dk ot mo ou z g b cr ca cg ck ((samS z g i j).toInt64) os (nI 0) cr ca cg ck ro LL ff)) (g_isLike_k l E A hi hj hr_i hm_i hf_i hn_i hr_j hm_j hf_j hn_j) ok_X5_isLike w_1104 (by decide) rfl rfl (Nat.le_of_ble_eq_true rfl) rfl rfl ⟨by omega, by omega⟩ dL_law_1166 ?_
          refine j_istore (lv' := [(6, .int (bI (cmpF h_i h_j (smI (nI n_i) (nI n_j)) 0 (min n_i n_j - 0) = 0))), (5, .int (nI 0)), (4, .int (nI (5 * q))), (3, .ref ot), (2, .ref mo), (1, .ref dk), (0, .ref bs)]) C dL_law_1169 (by decide) rfl ?_
          refine j_goto (tgt := 1674) C dL_law_1171 (by decide) ?_
          refine j_lv (lv' := [(4, .int (nI (5 * q))), (3, .ref ot), (2, .ref mo), (1, .ref dk), (0, .ref bs)]) (by simp only [List.mem_cons, List.not_mem_nil, or_false, forall_eq_or_imp, forall_eq, true_or, or_true, and_self, Nat.add_zero]) ?_
          refine j_widen (k := cs + 600) (n := sl + 10000) (by omega) (by omega) ?_
          exact kk _ _ _ _ _ _ _ _ _ _ _ _ _ (hR)
    · skip
      refine j_aload_n C dL_law_1134 rfl ?_
      refine j_aload_n C dL_law_1135 rfl ?_
      refine j_iload C dL_law_1136 rfl ?_
      refine j_iconst (v := (nI 1)) C dL_law_1138 rfl ?_
      refine j_iadd (z := (nI (5 * q + 1))) C dL_law_1139 (nI_add _ _) ?_
      refine j_sld (z := (nI i)) C hX hbl hbA (5 * q + 1) rfl (by omega) (by omega) es1 dL_law_1140 ?_
      refine j_aload_n C dL_law_1141 rfl ?_
      refine j_iload C dL_law_1142 rfl ?_
      refine j_iconst (v := (nI 2)) C dL_law_1144 rfl ?_
      refine j_iadd (z := (nI (5 * q + 2))) C dL_law_1145 (nI_add _ _) ?_
      refine j_sld (z := x2) C hX hbl hbA (5 * q + 2) rfl (by omega) (by omega) es2 dL_law_1146 ?_
      refine j_aload_n C dL_law_1147 rfl ?_
      refine j_callSH C (w_isLike_jIO l E A (f_isLike_b2 l hl E A hi hbx2)) ok_L_isLike w_809 (by decide) rfl rfl (Nat.le_of_ble_eq_true rfl) ⟨by omega, by omega⟩ dL_law_1148 (fun _ _ h => ?_)
      obtain ⟨rfl, rfl⟩ := h
      refine j_istore (lv' := [(5, .int (nI 1)), (4, .int (nI (5 * q))), (3, .ref ot), (2, .ref mo), (1, .ref dk), (0, .ref bs)]) C dL_law_1151 (by decide) rfl ?_
      refine j_aload_n C dL_law_1153 rfl ?_
      refine j_aload_n C dL_law_1154 rfl ?_
      refine j_iload C dL_law_1155 rfl ?_
      refine j_iconst (v := (nI 1)) C dL_law_1157 rfl ?_
      refine j_iadd (z := (nI (5 * q + 1))) C dL_law_1158 (nI_add _ _) ?_
      refine j_sld (z := (nI i)) C hX hbl hbA (5 * q + 1) rfl (by omega) (by omega) es1 dL_law_1159 ?_
      refine j_aload_n C dL_law_1160 rfl ?_
      refine j_iload C dL_law_1161 rfl ?_
      refine j_iconst (v := (nI 2)) C dL_law_1163 rfl ?_
      refine j_iadd (z := (nI (5 * q + 2))) C dL_law_1164 (nI_add _ _) ?_
      refine j_sld (z := x2) C hX hbl hbA (5 * q + 2) rfl (by omega) (by omega) es2 dL_law_1165 ?_
      refine j_callVr C 6 (v := .int (nI 0)) (w := (gW E t sz sg la dk ot mo ou z g b cr ca cg ck on os (nI 1) cr ca cg ck ro LL ff)) (g_isLike_b2 l E A hi hbx2) ok_X5_isLike w_1104 (by decide) rfl rfl (Nat.le_of_ble_eq_true rfl) rfl rfl ⟨by omega, by omega⟩ dL_law_1166 ?_
      refine j_istore (lv' := [(6, .int (nI 0)), (5, .int (nI 1)), (4, .int (nI (5 * q))), (3, .ref ot), (2, .ref mo), (1, .ref dk), (0, .ref bs)]) C dL_law_1169 (by decide) rfl ?_
      refine j_goto (tgt := 1674) C dL_law_1171 (by decide) ?_
      refine j_lv (lv' := [(4, .int (nI (5 * q))), (3, .ref ot), (2, .ref mo), (1, .ref dk), (0, .ref bs)]) (by simp only [List.mem_cons, List.not_mem_nil, or_false, forall_eq_or_imp, forall_eq, true_or, or_true, and_self, Nat.add_zero]) ?_
      refine j_widen (k := cs + 600) (n := sl + 10000) (by omega) (by omega) ?_
      exact kk _ _ _ _ _ _ _ _ _ _ _ _ _ (hR)
  · skip
    refine j_aload_n C dL_law_1134 rfl ?_
    refine j_aload_n C dL_law_1135 rfl ?_
    refine j_iload C dL_law_1136 rfl ?_
    refine j_iconst (v := (nI 1)) C dL_law_1138 rfl ?_
    refine j_iadd (z := (nI (5 * q + 1))) C dL_law_1139 (nI_add _ _) ?_
    refine j_sld (z := x1) C hX hbl hbA (5 * q + 1) rfl (by omega) (by omega) es1 dL_law_1140 ?_
    refine j_aload_n C dL_law_1141 rfl ?_
    refine j_iload C dL_law_1142 rfl ?_
    refine j_iconst (v := (nI 2)) C dL_law_1144 rfl ?_
    refine j_iadd (z := (nI (5 * q + 2))) C dL_law_1145 (nI_add _ _) ?_
    refine j_sld (z := x2) C hX hbl hbA (5 * q + 2) rfl (by omega) (by omega) es2 dL_law_1146 ?_
    refine j_aload_n C dL_law_1147 rfl ?_
    refine j_callSH C (w_isLike_jIO l E A (f_isLike_b1 l hl E A hbx1)) ok_L_isLike w_809 (by decide) rfl rfl (Nat.le_of_ble_eq_true rfl) ⟨by omega, by omega⟩ dL_law_1148 (fun _ _ h => ?_)
    obtain ⟨rfl, rfl⟩ := h
    refine j_istore (lv' := [(5, .int (nI 1)), (4, .int (nI (5 * q))), (3, .ref ot), (2, .ref mo), (1, .ref dk), (0, .ref bs)]) C dL_law_1151 (by decide) rfl ?_
    refine j_aload_n C dL_law_1153 rfl ?_
    refine j_aload_n C dL_law_1154 rfl ?_
    refine j_iload C dL_law_1155 rfl ?_
    refine j_iconst (v := (nI 1)) C dL_law_1157 rfl ?_
    refine j_iadd (z := (nI (5 * q + 1))) C dL_law_1158 (nI_add _ _) ?_
    refine j_sld (z := x1) C hX hbl hbA (5 * q + 1) rfl (by omega) (by omega) es1 dL_law_1159 ?_
    refine j_aload_n C dL_law_1160 rfl ?_
    refine j_iload C dL_law_1161 rfl ?_
    refine j_iconst (v := (nI 2)) C dL_law_1163 rfl ?_
    refine j_iadd (z := (nI (5 * q + 2))) C dL_law_1164 (nI_add _ _) ?_
    refine j_sld (z := x2) C hX hbl hbA (5 * q + 2) rfl (by omega) (by omega) es2 dL_law_1165 ?_
    refine j_callVr C 6 (v := .int (nI 0)) (w := (gW E t sz sg la dk ot mo ou z g b cr ca cg ck on os (nI 1) cr ca cg ck ro LL ff)) (g_isLike_b1 l E A hbx1) ok_X5_isLike w_1104 (by decide) rfl rfl (Nat.le_of_ble_eq_true rfl) rfl rfl ⟨by omega, by omega⟩ dL_law_1166 ?_
    refine j_istore (lv' := [(6, .int (nI 0)), (5, .int (nI 1)), (4, .int (nI (5 * q))), (3, .ref ot), (2, .ref mo), (1, .ref dk), (0, .ref bs)]) C dL_law_1169 (by decide) rfl ?_
    refine j_goto (tgt := 1674) C dL_law_1171 (by decide) ?_
    refine j_lv (lv' := [(4, .int (nI (5 * q))), (3, .ref ot), (2, .ref mo), (1, .ref dk), (0, .ref bs)]) (by simp only [List.mem_cons, List.not_mem_nil, or_false, forall_eq_or_imp, forall_eq, true_or, or_true, and_self, Nat.add_zero]) ?_
    refine j_widen (k := cs + 600) (n := sl + 10000) (by omega) (by omega) ?_
    exact kk _ _ _ _ _ _ _ _ _ _ _ _ _ (hR)
set_option maxHeartbeats 4000000 in
set_option maxRecDepth 100000 in
theorem op_order (l : Launch) (hl : l.stackTraces = false) (E : jE) (A : Nat → Prop) {t sz sg la dk ot mo ou : Nat} {z g b : Nat → Int32} {cr ca cg ck : Int32} {on : Int64} {os : Value} {th : Int32} {ro : Nat → Option Nat} {LL : List Nat} {ff : Nat → va_E} {p : Program} {e : Env} {R : Room} {s : State} {m : MethodId} {args : Array Value} {below : List Frame} {meth : Method} {c : Code} {Q : State → Prop} {nn mc ms bs Ln q cs sl : Nat} {xs : Nat → Int32} {x1 x2 x3 x4 : Int32} (C : jC p l e R s m args below meth c x code 7 ret 2000 mc ms E A) (hX : va_X bs Ln xs s s.heap) (hbl : bs < s.heap.size) (hbA : ¬ A bs) (hLn : Ln ≤ 2560) (hq : 5 * q + 5 ≤ Ln) (hmc : cs + 600 ≤ mc) (hms : sl + 10000 ≤ ms) (es1 : xs (5 * q + 1) = x1) (es2 : xs (5 * q + 2) = x2) (es3 : xs (5 * q + 3) = x3) (es4 : xs (5 * q + 4) = x4) (hR : Rel E z g ro LL ff) (kk : ∀ (z' g' b' : Nat → Int32) (cr' ca' cg' ck' : Int32) (on' : Int64) (os' : Value) (th' : Int32) (ro' : Nat → Option Nat) (L' : List Nat) (f' : Nat → va_E), Rel E z' g' ro' L' f' → jJ p l e R s m args below meth c E A 7 Q (cs + 600) (sl + 10000) 1674 [(4, .int (nI (5 * q))), (3, .ref ot), (2, .ref mo), (1, .ref dk), (0, .ref bs)] [] (gW E t sz sg la dk ot mo ou (z') (g') (b') (cr') (ca') (cg') (ck') (on') (os') (th') (cr') (ca') (cg') (ck') (ro') (L') (f'))) : jJ p l e R s m args below meth c E A 7 Q cs sl 1174 [(4, .int (nI (5 * q))), (3, .ref ot), (2, .ref mo), (1, .ref dk), (0, .ref bs)] [] (gW E t sz sg la dk ot mo ou z g b cr ca cg ck on os th cr ca cg ck ro LL ff) := by
  have hT := hR.tx
  rcases seat_cases x1 9 (by decide) with ⟨i, hi, rfl⟩ | hbx1
  · skip
    rcases seat_cases x2 9 (by decide) with ⟨j, hj, rfl⟩ | hbx2
    · skip
      rcases upto_cases x3 3 (by decide) with ⟨o, ho, rfl⟩ | hbx3
      · skip
        refine j_aload_n C dL_law_1174 rfl ?_
        refine j_aload_n C dL_law_1175 rfl ?_
        refine j_iload C dL_law_1176 rfl ?_
        refine j_iconst (v := (nI 1)) C dL_law_1178 rfl ?_
        refine j_iadd (z := (nI (5 * q + 1))) C dL_law_1179 (nI_add _ _) ?_
        refine j_sld (z := (nI i)) C hX hbl hbA (5 * q + 1) rfl (by omega) (by omega) es1 dL_law_1180 ?_
        refine j_aload_n C dL_law_1181 rfl ?_
        refine j_iload C dL_law_1182 rfl ?_
        refine j_iconst (v := (nI 2)) C dL_law_1184 rfl ?_
        refine j_iadd (z := (nI (5 * q + 2))) C dL_law_1185 (nI_add _ _) ?_
        refine j_sld (z := (nI j)) C hX hbl hbA (5 * q + 2) rfl (by omega) (by omega) es2 dL_law_1186 ?_
        refine j_aload_n C dL_law_1187 rfl ?_
        refine j_iload C dL_law_1188 rfl ?_
        refine j_iconst (v := (nI 3)) C dL_law_1190 rfl ?_
        refine j_iadd (z := (nI (5 * q + 3))) C dL_law_1191 (nI_add _ _) ?_
        refine j_sld (z := (nI o)) C hX hbl hbA (5 * q + 3) rfl (by omega) (by omega) es3 dL_law_1192 ?_
        refine j_aload_n C dL_law_1193 rfl ?_
        refine j_callSH C (w_order_r l E A (rr := ordV z g i j o) (f_order_k l E A hi hj ho hT)) ok_L_order w_821 (by decide) rfl rfl (Nat.le_of_ble_eq_true rfl) ⟨by omega, by omega⟩ dL_law_1194 (fun _ _ h => ?_)
        obtain ⟨rfl, rfl⟩ := h
        refine j_istore (lv' := [(5, .int (nI 0)), (4, .int (nI (5 * q))), (3, .ref ot), (2, .ref mo), (1, .ref dk), (0, .ref bs)]) C dL_law_1197 (by decide) rfl ?_
        refine j_aload_n C dL_law_1199 rfl ?_
        refine j_aload_n C dL_law_1200 rfl ?_
        refine j_iload C dL_law_1201 rfl ?_
        refine j_iconst (v := (nI 1)) C dL_law_1203 rfl ?_
        refine j_iadd (z := (nI (5 * q + 1))) C dL_law_1204 (nI_add _ _) ?_
        refine j_sld (z := (nI i)) C hX hbl hbA (5 * q + 1) rfl (by omega) (by omega) es1 dL_law_1205 ?_
        refine j_aload_n C dL_law_1206 rfl ?_
        refine j_iload C dL_law_1207 rfl ?_
        refine j_iconst (v := (nI 2)) C dL_law_1209 rfl ?_
        refine j_iadd (z := (nI (5 * q + 2))) C dL_law_1210 (nI_add _ _) ?_
        refine j_sld (z := (nI j)) C hX hbl hbA (5 * q + 2) rfl (by omega) (by omega) es2 dL_law_1211 ?_
        refine j_aload_n C dL_law_1212 rfl ?_
        refine j_iload C dL_law_1213 rfl ?_
        refine j_iconst (v := (nI 3)) C dL_law_1215 rfl ?_
        refine j_iadd (z := (nI (5 * q + 3))) C dL_law_1216 (nI_add _ _) ?_
        refine j_sld (z := (nI o)) C hX hbl hbA (5 * q + 3) rfl (by omega) (by omega) es3 dL_law_1217 ?_
        refine j_callVr C 6 (v := .int (ordV z g i j o)) (w := (gW E t sz sg la dk ot mo ou z g b cr (askI z i j ca) cg ck ((ordV z g i j o).toInt64) os (nI 0) cr (askI z i j ca) cg ck ro LL ff)) (g_order_k l E A hi hj ho hR) ok_X5_order w_1108 (by decide) rfl rfl (Nat.le_of_ble_eq_true rfl) rfl rfl ⟨by omega, by omega⟩ dL_law_1218 ?_
        refine j_istore (lv' := [(6, .int (ordV z g i j o)), (5, .int (nI 0)), (4, .int (nI (5 * q))), (3, .ref ot), (2, .ref mo), (1, .ref dk), (0, .ref bs)]) C dL_law_1221 (by decide) rfl ?_
        refine j_goto (tgt := 1674) C dL_law_1223 (by decide) ?_
        refine j_lv (lv' := [(4, .int (nI (5 * q))), (3, .ref ot), (2, .ref mo), (1, .ref dk), (0, .ref bs)]) (by simp only [List.mem_cons, List.not_mem_nil, or_false, forall_eq_or_imp, forall_eq, true_or, or_true, and_self, Nat.add_zero]) ?_
        refine j_widen (k := cs + 600) (n := sl + 10000) (by omega) (by omega) ?_
        exact kk _ _ _ _ _ _ _ _ _ _ _ _ _ (hR)
      · skip
        refine j_aload_n C dL_law_1174 rfl ?_
        refine j_aload_n C dL_law_1175 rfl ?_
        refine j_iload C dL_law_1176 rfl ?_
        refine j_iconst (v := (nI 1)) C dL_law_1178 rfl ?_
        refine j_iadd (z := (nI (5 * q + 1))) C dL_law_1179 (nI_add _ _) ?_
        refine j_sld (z := (nI i)) C hX hbl hbA (5 * q + 1) rfl (by omega) (by omega) es1 dL_law_1180 ?_
        refine j_aload_n C dL_law_1181 rfl ?_
        refine j_iload C dL_law_1182 rfl ?_
        refine j_iconst (v := (nI 2)) C dL_law_1184 rfl ?_
        refine j_iadd (z := (nI (5 * q + 2))) C dL_law_1185 (nI_add _ _) ?_
        refine j_sld (z := (nI j)) C hX hbl hbA (5 * q + 2) rfl (by omega) (by omega) es2 dL_law_1186 ?_
        refine j_aload_n C dL_law_1187 rfl ?_
        refine j_iload C dL_law_1188 rfl ?_
        refine j_iconst (v := (nI 3)) C dL_law_1190 rfl ?_
        refine j_iadd (z := (nI (5 * q + 3))) C dL_law_1191 (nI_add _ _) ?_
        refine j_sld (z := x3) C hX hbl hbA (5 * q + 3) rfl (by omega) (by omega) es3 dL_law_1192 ?_
        refine j_aload_n C dL_law_1193 rfl ?_
        refine j_callSH C (w_order_jIA l E A (f_order_a l hl E A hi hj hbx3)) ok_L_order w_821 (by decide) rfl rfl (Nat.le_of_ble_eq_true rfl) ⟨by omega, by omega⟩ dL_law_1194 (fun _ _ h => ?_)
        obtain ⟨rfl, rfl⟩ := h
        refine j_istore (lv' := [(5, .int (nI 2)), (4, .int (nI (5 * q))), (3, .ref ot), (2, .ref mo), (1, .ref dk), (0, .ref bs)]) C dL_law_1197 (by decide) rfl ?_
        refine j_aload_n C dL_law_1199 rfl ?_
        refine j_aload_n C dL_law_1200 rfl ?_
        refine j_iload C dL_law_1201 rfl ?_
        refine j_iconst (v := (nI 1)) C dL_law_1203 rfl ?_
        refine j_iadd (z := (nI (5 * q + 1))) C dL_law_1204 (nI_add _ _) ?_
        refine j_sld (z := (nI i)) C hX hbl hbA (5 * q + 1) rfl (by omega) (by omega) es1 dL_law_1205 ?_
        refine j_aload_n C dL_law_1206 rfl ?_
        refine j_iload C dL_law_1207 rfl ?_
        refine j_iconst (v := (nI 2)) C dL_law_1209 rfl ?_
        refine j_iadd (z := (nI (5 * q + 2))) C dL_law_1210 (nI_add _ _) ?_
        refine j_sld (z := (nI j)) C hX hbl hbA (5 * q + 2) rfl (by omega) (by omega) es2 dL_law_1211 ?_
        refine j_aload_n C dL_law_1212 rfl ?_
        refine j_iload C dL_law_1213 rfl ?_
        refine j_iconst (v := (nI 3)) C dL_law_1215 rfl ?_
        refine j_iadd (z := (nI (5 * q + 3))) C dL_law_1216 (nI_add _ _) ?_
        refine j_sld (z := x3) C hX hbl hbA (5 * q + 3) rfl (by omega) (by omega) es3 dL_law_1217 ?_
        refine j_callVr C 6 (v := .int (nI 0)) (w := (gW E t sz sg la dk ot mo ou z g b cr ca cg ck on os (nI 2) cr ca cg ck ro LL ff)) (g_order_a l E A hi hj hbx3) ok_X5_order w_1108 (by decide) rfl rfl (Nat.le_of_ble_eq_true rfl) rfl rfl ⟨by omega, by omega⟩ dL_law_1218 ?_
        refine j_istore (lv' := [(6, .int (nI 0)), (5, .int (nI 2)), (4, .int (nI (5 * q))), (3, .ref ot), (2, .ref mo), (1, .ref dk), (0, .ref bs)]) C dL_law_1221 (by decide) rfl ?_
        refine j_goto (tgt := 1674) C dL_law_1223 (by decide) ?_
        refine j_lv (lv' := [(4, .int (nI (5 * q))), (3, .ref ot), (2, .ref mo), (1, .ref dk), (0, .ref bs)]) (by simp only [List.mem_cons, List.not_mem_nil, or_false, forall_eq_or_imp, forall_eq, true_or, or_true, and_self, Nat.add_zero]) ?_
        refine j_widen (k := cs + 600) (n := sl + 10000) (by omega) (by omega) ?_
        exact kk _ _ _ _ _ _ _ _ _ _ _ _ _ (hR)
    · skip
      refine j_aload_n C dL_law_1174 rfl ?_
      refine j_aload_n C dL_law_1175 rfl ?_
      refine j_iload C dL_law_1176 rfl ?_
      refine j_iconst (v := (nI 1)) C dL_law_1178 rfl ?_
      refine j_iadd (z := (nI (5 * q + 1))) C dL_law_1179 (nI_add _ _) ?_
      refine j_sld (z := (nI i)) C hX hbl hbA (5 * q + 1) rfl (by omega) (by omega) es1 dL_law_1180 ?_
      refine j_aload_n C dL_law_1181 rfl ?_
      refine j_iload C dL_law_1182 rfl ?_
      refine j_iconst (v := (nI 2)) C dL_law_1184 rfl ?_
      refine j_iadd (z := (nI (5 * q + 2))) C dL_law_1185 (nI_add _ _) ?_
      refine j_sld (z := x2) C hX hbl hbA (5 * q + 2) rfl (by omega) (by omega) es2 dL_law_1186 ?_
      refine j_aload_n C dL_law_1187 rfl ?_
      refine j_iload C dL_law_1188 rfl ?_
      refine j_iconst (v := (nI 3)) C dL_law_1190 rfl ?_
      refine j_iadd (z := (nI (5 * q + 3))) C dL_law_1191 (nI_add _ _) ?_
      refine j_sld (z := x3) C hX hbl hbA (5 * q + 3) rfl (by omega) (by omega) es3 dL_law_1192 ?_
      refine j_aload_n C dL_law_1193 rfl ?_
      refine j_callSH C (w_order_jIO l E A (f_order_b2 l hl E A hi hbx2)) ok_L_order w_821 (by decide) rfl rfl (Nat.le_of_ble_eq_true rfl) ⟨by omega, by omega⟩ dL_law_1194 (fun _ _ h => ?_)
      obtain ⟨rfl, rfl⟩ := h
      refine j_istore (lv' := [(5, .int (nI 1)), (4, .int (nI (5 * q))), (3, .ref ot), (2, .ref mo), (1, .ref dk), (0, .ref bs)]) C dL_law_1197 (by decide) rfl ?_
      refine j_aload_n C dL_law_1199 rfl ?_
      refine j_aload_n C dL_law_1200 rfl ?_
      refine j_iload C dL_law_1201 rfl ?_
      refine j_iconst (v := (nI 1)) C dL_law_1203 rfl ?_
      refine j_iadd (z := (nI (5 * q + 1))) C dL_law_1204 (nI_add _ _) ?_
      refine j_sld (z := (nI i)) C hX hbl hbA (5 * q + 1) rfl (by omega) (by omega) es1 dL_law_1205 ?_
      refine j_aload_n C dL_law_1206 rfl ?_
      refine j_iload C dL_law_1207 rfl ?_
      refine j_iconst (v := (nI 2)) C dL_law_1209 rfl ?_
      refine j_iadd (z := (nI (5 * q + 2))) C dL_law_1210 (nI_add _ _) ?_
      refine j_sld (z := x2) C hX hbl hbA (5 * q + 2) rfl (by omega) (by omega) es2 dL_law_1211 ?_
      refine j_aload_n C dL_law_1212 rfl ?_
      refine j_iload C dL_law_1213 rfl ?_
      refine j_iconst (v := (nI 3)) C dL_law_1215 rfl ?_
      refine j_iadd (z := (nI (5 * q + 3))) C dL_law_1216 (nI_add _ _) ?_
      refine j_sld (z := x3) C hX hbl hbA (5 * q + 3) rfl (by omega) (by omega) es3 dL_law_1217 ?_
      refine j_callVr C 6 (v := .int (nI 0)) (w := (gW E t sz sg la dk ot mo ou z g b cr ca cg ck on os (nI 1) cr ca cg ck ro LL ff)) (g_order_b2 l E A hi hbx2) ok_X5_order w_1108 (by decide) rfl rfl (Nat.le_of_ble_eq_true rfl) rfl rfl ⟨by omega, by omega⟩ dL_law_1218 ?_
      refine j_istore (lv' := [(6, .int (nI 0)), (5, .int (nI 1)), (4, .int (nI (5 * q))), (3, .ref ot), (2, .ref mo), (1, .ref dk), (0, .ref bs)]) C dL_law_1221 (by decide) rfl ?_
      refine j_goto (tgt := 1674) C dL_law_1223 (by decide) ?_
      refine j_lv (lv' := [(4, .int (nI (5 * q))), (3, .ref ot), (2, .ref mo), (1, .ref dk), (0, .ref bs)]) (by simp only [List.mem_cons, List.not_mem_nil, or_false, forall_eq_or_imp, forall_eq, true_or, or_true, and_self, Nat.add_zero]) ?_
      refine j_widen (k := cs + 600) (n := sl + 10000) (by omega) (by omega) ?_
      exact kk _ _ _ _ _ _ _ _ _ _ _ _ _ (hR)
  · skip
    refine j_aload_n C dL_law_1174 rfl ?_
    refine j_aload_n C dL_law_1175 rfl ?_
    refine j_iload C dL_law_1176 rfl ?_
    refine j_iconst (v := (nI 1)) C dL_law_1178 rfl ?_
    refine j_iadd (z := (nI (5 * q + 1))) C dL_law_1179 (nI_add _ _) ?_
    refine j_sld (z := x1) C hX hbl hbA (5 * q + 1) rfl (by omega) (by omega) es1 dL_law_1180 ?_
    refine j_aload_n C dL_law_1181 rfl ?_
    refine j_iload C dL_law_1182 rfl ?_
    refine j_iconst (v := (nI 2)) C dL_law_1184 rfl ?_
    refine j_iadd (z := (nI (5 * q + 2))) C dL_law_1185 (nI_add _ _) ?_
    refine j_sld (z := x2) C hX hbl hbA (5 * q + 2) rfl (by omega) (by omega) es2 dL_law_1186 ?_
    refine j_aload_n C dL_law_1187 rfl ?_
    refine j_iload C dL_law_1188 rfl ?_
    refine j_iconst (v := (nI 3)) C dL_law_1190 rfl ?_
    refine j_iadd (z := (nI (5 * q + 3))) C dL_law_1191 (nI_add _ _) ?_
    refine j_sld (z := x3) C hX hbl hbA (5 * q + 3) rfl (by omega) (by omega) es3 dL_law_1192 ?_
    refine j_aload_n C dL_law_1193 rfl ?_
    refine j_callSH C (w_order_jIO l E A (f_order_b1 l hl E A hbx1)) ok_L_order w_821 (by decide) rfl rfl (Nat.le_of_ble_eq_true rfl) ⟨by omega, by omega⟩ dL_law_1194 (fun _ _ h => ?_)
    obtain ⟨rfl, rfl⟩ := h
    refine j_istore (lv' := [(5, .int (nI 1)), (4, .int (nI (5 * q))), (3, .ref ot), (2, .ref mo), (1, .ref dk), (0, .ref bs)]) C dL_law_1197 (by decide) rfl ?_
    refine j_aload_n C dL_law_1199 rfl ?_
    refine j_aload_n C dL_law_1200 rfl ?_
    refine j_iload C dL_law_1201 rfl ?_
    refine j_iconst (v := (nI 1)) C dL_law_1203 rfl ?_
    refine j_iadd (z := (nI (5 * q + 1))) C dL_law_1204 (nI_add _ _) ?_
    refine j_sld (z := x1) C hX hbl hbA (5 * q + 1) rfl (by omega) (by omega) es1 dL_law_1205 ?_
    refine j_aload_n C dL_law_1206 rfl ?_
    refine j_iload C dL_law_1207 rfl ?_
    refine j_iconst (v := (nI 2)) C dL_law_1209 rfl ?_
    refine j_iadd (z := (nI (5 * q + 2))) C dL_law_1210 (nI_add _ _) ?_
    refine j_sld (z := x2) C hX hbl hbA (5 * q + 2) rfl (by omega) (by omega) es2 dL_law_1211 ?_
    refine j_aload_n C dL_law_1212 rfl ?_
    refine j_iload C dL_law_1213 rfl ?_
    refine j_iconst (v := (nI 3)) C dL_law_1215 rfl ?_
    refine j_iadd (z := (nI (5 * q + 3))) C dL_law_1216 (nI_add _ _) ?_
    refine j_sld (z := x3) C hX hbl hbA (5 * q + 3) rfl (by omega) (by omega) es3 dL_law_1217 ?_
    refine j_callVr C 6 (v := .int (nI 0)) (w := (gW E t sz sg la dk ot mo ou z g b cr ca cg ck on os (nI 1) cr ca cg ck ro LL ff)) (g_order_b1 l E A hbx1) ok_X5_order w_1108 (by decide) rfl rfl (Nat.le_of_ble_eq_true rfl) rfl rfl ⟨by omega, by omega⟩ dL_law_1218 ?_
    refine j_istore (lv' := [(6, .int (nI 0)), (5, .int (nI 1)), (4, .int (nI (5 * q))), (3, .ref ot), (2, .ref mo), (1, .ref dk), (0, .ref bs)]) C dL_law_1221 (by decide) rfl ?_
    refine j_goto (tgt := 1674) C dL_law_1223 (by decide) ?_
    refine j_lv (lv' := [(4, .int (nI (5 * q))), (3, .ref ot), (2, .ref mo), (1, .ref dk), (0, .ref bs)]) (by simp only [List.mem_cons, List.not_mem_nil, or_false, forall_eq_or_imp, forall_eq, true_or, or_true, and_self, Nat.add_zero]) ?_
    refine j_widen (k := cs + 600) (n := sl + 10000) (by omega) (by omega) ?_
    exact kk _ _ _ _ _ _ _ _ _ _ _ _ _ (hR)
set_option maxHeartbeats 4000000 in
set_option maxRecDepth 100000 in
theorem op_ahead (l : Launch) (hl : l.stackTraces = false) (E : jE) (A : Nat → Prop) {t sz sg la dk ot mo ou : Nat} {z g b : Nat → Int32} {cr ca cg ck : Int32} {on : Int64} {os : Value} {th : Int32} {ro : Nat → Option Nat} {LL : List Nat} {ff : Nat → va_E} {p : Program} {e : Env} {R : Room} {s : State} {m : MethodId} {args : Array Value} {below : List Frame} {meth : Method} {c : Code} {Q : State → Prop} {nn mc ms bs Ln q cs sl : Nat} {xs : Nat → Int32} {x1 x2 x3 x4 : Int32} (C : jC p l e R s m args below meth c x code 7 ret 2000 mc ms E A) (hX : va_X bs Ln xs s s.heap) (hbl : bs < s.heap.size) (hbA : ¬ A bs) (hLn : Ln ≤ 2560) (hq : 5 * q + 5 ≤ Ln) (hmc : cs + 600 ≤ mc) (hms : sl + 10000 ≤ ms) (es1 : xs (5 * q + 1) = x1) (es2 : xs (5 * q + 2) = x2) (es3 : xs (5 * q + 3) = x3) (es4 : xs (5 * q + 4) = x4) (hR : Rel E z g ro LL ff) (kk : ∀ (z' g' b' : Nat → Int32) (cr' ca' cg' ck' : Int32) (on' : Int64) (os' : Value) (th' : Int32) (ro' : Nat → Option Nat) (L' : List Nat) (f' : Nat → va_E), Rel E z' g' ro' L' f' → jJ p l e R s m args below meth c E A 7 Q (cs + 600) (sl + 10000) 1674 [(4, .int (nI (5 * q))), (3, .ref ot), (2, .ref mo), (1, .ref dk), (0, .ref bs)] [] (gW E t sz sg la dk ot mo ou (z') (g') (b') (cr') (ca') (cg') (ck') (on') (os') (th') (cr') (ca') (cg') (ck') (ro') (L') (f'))) : jJ p l e R s m args below meth c E A 7 Q cs sl 1226 [(4, .int (nI (5 * q))), (3, .ref ot), (2, .ref mo), (1, .ref dk), (0, .ref bs)] [] (gW E t sz sg la dk ot mo ou z g b cr ca cg ck on os th cr ca cg ck ro LL ff) := by
  have hT := hR.tx
  rcases seat_cases x1 9 (by decide) with ⟨i, hi, rfl⟩ | hbx1
  · skip
    rcases upto_cases x2 3 (by decide) with ⟨o, ho, rfl⟩ | hbx2
    · skip
      refine j_aload_n C dL_law_1226 rfl ?_
      refine j_aload_n C dL_law_1227 rfl ?_
      refine j_iload C dL_law_1228 rfl ?_
      refine j_iconst (v := (nI 1)) C dL_law_1230 rfl ?_
      refine j_iadd (z := (nI (5 * q + 1))) C dL_law_1231 (nI_add _ _) ?_
      refine j_sld (z := (nI i)) C hX hbl hbA (5 * q + 1) rfl (by omega) (by omega) es1 dL_law_1232 ?_
      refine j_aload_n C dL_law_1233 rfl ?_
      refine j_iload C dL_law_1234 rfl ?_
      refine j_iconst (v := (nI 2)) C dL_law_1236 rfl ?_
      refine j_iadd (z := (nI (5 * q + 2))) C dL_law_1237 (nI_add _ _) ?_
      refine j_sld (z := (nI o)) C hX hbl hbA (5 * q + 2) rfl (by omega) (by omega) es2 dL_law_1238 ?_
      refine j_aload_n C dL_law_1239 rfl ?_
      refine j_callSH C (w_ahead_r l E A (rr := nI (ahdF z g i o 9)) (f_ahead_k l E A hi ho hT)) ok_L_ahead w_832 (by decide) rfl rfl (Nat.le_of_ble_eq_true rfl) ⟨by omega, by omega⟩ dL_law_1240 (fun _ _ h => ?_)
      obtain ⟨rfl, rfl⟩ := h
      refine j_istore (lv' := [(5, .int (nI 0)), (4, .int (nI (5 * q))), (3, .ref ot), (2, .ref mo), (1, .ref dk), (0, .ref bs)]) C dL_law_1243 (by decide) rfl ?_
      refine j_aload_n C dL_law_1245 rfl ?_
      refine j_aload_n C dL_law_1246 rfl ?_
      refine j_iload C dL_law_1247 rfl ?_
      refine j_iconst (v := (nI 1)) C dL_law_1249 rfl ?_
      refine j_iadd (z := (nI (5 * q + 1))) C dL_law_1250 (nI_add _ _) ?_
      refine j_sld (z := (nI i)) C hX hbl hbA (5 * q + 1) rfl (by omega) (by omega) es1 dL_law_1251 ?_
      refine j_aload_n C dL_law_1252 rfl ?_
      refine j_iload C dL_law_1253 rfl ?_
      refine j_iconst (v := (nI 2)) C dL_law_1255 rfl ?_
      refine j_iadd (z := (nI (5 * q + 2))) C dL_law_1256 (nI_add _ _) ?_
      refine j_sld (z := (nI o)) C hX hbl hbA (5 * q + 2) rfl (by omega) (by omega) es2 dL_law_1257 ?_
      refine j_callVr C 6 (v := .int (nI (ahdF z g i o 9))) (w := (gW E t sz sg la dk ot mo ou z g b cr (askF z i ca 9) cg ck ((nI (ahdF z g i o 9)).toInt64) os (nI 0) cr (askF z i ca 9) cg ck ro LL ff)) (g_ahead_k l E A hi ho hR) ok_X5_ahead w_1126 (by decide) rfl rfl (Nat.le_of_ble_eq_true rfl) rfl rfl ⟨by omega, by omega⟩ dL_law_1258 ?_
      refine j_istore (lv' := [(6, .int (nI (ahdF z g i o 9))), (5, .int (nI 0)), (4, .int (nI (5 * q))), (3, .ref ot), (2, .ref mo), (1, .ref dk), (0, .ref bs)]) C dL_law_1261 (by decide) rfl ?_
      refine j_goto (tgt := 1674) C dL_law_1263 (by decide) ?_
      refine j_lv (lv' := [(4, .int (nI (5 * q))), (3, .ref ot), (2, .ref mo), (1, .ref dk), (0, .ref bs)]) (by simp only [List.mem_cons, List.not_mem_nil, or_false, forall_eq_or_imp, forall_eq, true_or, or_true, and_self, Nat.add_zero]) ?_
      refine j_widen (k := cs + 600) (n := sl + 10000) (by omega) (by omega) ?_
      exact kk _ _ _ _ _ _ _ _ _ _ _ _ _ (hR)
    · skip
      refine j_aload_n C dL_law_1226 rfl ?_
      refine j_aload_n C dL_law_1227 rfl ?_
      refine j_iload C dL_law_1228 rfl ?_
      refine j_iconst (v := (nI 1)) C dL_law_1230 rfl ?_
      refine j_iadd (z := (nI (5 * q + 1))) C dL_law_1231 (nI_add _ _) ?_
      refine j_sld (z := (nI i)) C hX hbl hbA (5 * q + 1) rfl (by omega) (by omega) es1 dL_law_1232 ?_
      refine j_aload_n C dL_law_1233 rfl ?_
      refine j_iload C dL_law_1234 rfl ?_
      refine j_iconst (v := (nI 2)) C dL_law_1236 rfl ?_
      refine j_iadd (z := (nI (5 * q + 2))) C dL_law_1237 (nI_add _ _) ?_
      refine j_sld (z := x2) C hX hbl hbA (5 * q + 2) rfl (by omega) (by omega) es2 dL_law_1238 ?_
      refine j_aload_n C dL_law_1239 rfl ?_
      refine j_callSH C (w_ahead_jIA l E A (f_ahead_a l hl E A hi hbx2)) ok_L_ahead w_832 (by decide) rfl rfl (Nat.le_of_ble_eq_true rfl) ⟨by omega, by omega⟩ dL_law_1240 (fun _ _ h => ?_)
      obtain ⟨rfl, rfl⟩ := h
      refine j_istore (lv' := [(5, .int (nI 2)), (4, .int (nI (5 * q))), (3, .ref ot), (2, .ref mo), (1, .ref dk), (0, .ref bs)]) C dL_law_1243 (by decide) rfl ?_
      refine j_aload_n C dL_law_1245 rfl ?_
      refine j_aload_n C dL_law_1246 rfl ?_
      refine j_iload C dL_law_1247 rfl ?_
      refine j_iconst (v := (nI 1)) C dL_law_1249 rfl ?_
      refine j_iadd (z := (nI (5 * q + 1))) C dL_law_1250 (nI_add _ _) ?_
      refine j_sld (z := (nI i)) C hX hbl hbA (5 * q + 1) rfl (by omega) (by omega) es1 dL_law_1251 ?_
      refine j_aload_n C dL_law_1252 rfl ?_
      refine j_iload C dL_law_1253 rfl ?_
      refine j_iconst (v := (nI 2)) C dL_law_1255 rfl ?_
      refine j_iadd (z := (nI (5 * q + 2))) C dL_law_1256 (nI_add _ _) ?_
      refine j_sld (z := x2) C hX hbl hbA (5 * q + 2) rfl (by omega) (by omega) es2 dL_law_1257 ?_
      refine j_callVr C 6 (v := .int (nI 0)) (w := (gW E t sz sg la dk ot mo ou z g b cr ca cg ck on os (nI 2) cr ca cg ck ro LL ff)) (g_ahead_a l E A hi hbx2) ok_X5_ahead w_1126 (by decide) rfl rfl (Nat.le_of_ble_eq_true rfl) rfl rfl ⟨by omega, by omega⟩ dL_law_1258 ?_
      refine j_istore (lv' := [(6, .int (nI 0)), (5, .int (nI 2)), (4, .int (nI (5 * q))), (3, .ref ot), (2, .ref mo), (1, .ref dk), (0, .ref bs)]) C dL_law_1261 (by decide) rfl ?_
      refine j_goto (tgt := 1674) C dL_law_1263 (by decide) ?_
      refine j_lv (lv' := [(4, .int (nI (5 * q))), (3, .ref ot), (2, .ref mo), (1, .ref dk), (0, .ref bs)]) (by simp only [List.mem_cons, List.not_mem_nil, or_false, forall_eq_or_imp, forall_eq, true_or, or_true, and_self, Nat.add_zero]) ?_
      refine j_widen (k := cs + 600) (n := sl + 10000) (by omega) (by omega) ?_
      exact kk _ _ _ _ _ _ _ _ _ _ _ _ _ (hR)
  · skip
    refine j_aload_n C dL_law_1226 rfl ?_
    refine j_aload_n C dL_law_1227 rfl ?_
    refine j_iload C dL_law_1228 rfl ?_
    refine j_iconst (v := (nI 1)) C dL_law_1230 rfl ?_
    refine j_iadd (z := (nI (5 * q + 1))) C dL_law_1231 (nI_add _ _) ?_
    refine j_sld (z := x1) C hX hbl hbA (5 * q + 1) rfl (by omega) (by omega) es1 dL_law_1232 ?_
    refine j_aload_n C dL_law_1233 rfl ?_
    refine j_iload C dL_law_1234 rfl ?_
    refine j_iconst (v := (nI 2)) C dL_law_1236 rfl ?_
    refine j_iadd (z := (nI (5 * q + 2))) C dL_law_1237 (nI_add _ _) ?_
    refine j_sld (z := x2) C hX hbl hbA (5 * q + 2) rfl (by omega) (by omega) es2 dL_law_1238 ?_
    refine j_aload_n C dL_law_1239 rfl ?_
    refine j_callSH C (w_ahead_jIO l E A (f_ahead_b l hl E A hbx1)) ok_L_ahead w_832 (by decide) rfl rfl (Nat.le_of_ble_eq_true rfl) ⟨by omega, by omega⟩ dL_law_1240 (fun _ _ h => ?_)
    obtain ⟨rfl, rfl⟩ := h
    refine j_istore (lv' := [(5, .int (nI 1)), (4, .int (nI (5 * q))), (3, .ref ot), (2, .ref mo), (1, .ref dk), (0, .ref bs)]) C dL_law_1243 (by decide) rfl ?_
    refine j_aload_n C dL_law_1245 rfl ?_
    refine j_aload_n C dL_law_1246 rfl ?_
    refine j_iload C dL_law_1247 rfl ?_
    refine j_iconst (v := (nI 1)) C dL_law_1249 rfl ?_
    refine j_iadd (z := (nI (5 * q + 1))) C dL_law_1250 (nI_add _ _) ?_
    refine j_sld (z := x1) C hX hbl hbA (5 * q + 1) rfl (by omega) (by omega) es1 dL_law_1251 ?_
    refine j_aload_n C dL_law_1252 rfl ?_
    refine j_iload C dL_law_1253 rfl ?_
    refine j_iconst (v := (nI 2)) C dL_law_1255 rfl ?_
    refine j_iadd (z := (nI (5 * q + 2))) C dL_law_1256 (nI_add _ _) ?_
    refine j_sld (z := x2) C hX hbl hbA (5 * q + 2) rfl (by omega) (by omega) es2 dL_law_1257 ?_
    refine j_callVr C 6 (v := .int (nI 0)) (w := (gW E t sz sg la dk ot mo ou z g b cr ca cg ck on os (nI 1) cr ca cg ck ro LL ff)) (g_ahead_b l E A hbx1) ok_X5_ahead w_1126 (by decide) rfl rfl (Nat.le_of_ble_eq_true rfl) rfl rfl ⟨by omega, by omega⟩ dL_law_1258 ?_
    refine j_istore (lv' := [(6, .int (nI 0)), (5, .int (nI 1)), (4, .int (nI (5 * q))), (3, .ref ot), (2, .ref mo), (1, .ref dk), (0, .ref bs)]) C dL_law_1261 (by decide) rfl ?_
    refine j_goto (tgt := 1674) C dL_law_1263 (by decide) ?_
    refine j_lv (lv' := [(4, .int (nI (5 * q))), (3, .ref ot), (2, .ref mo), (1, .ref dk), (0, .ref bs)]) (by simp only [List.mem_cons, List.not_mem_nil, or_false, forall_eq_or_imp, forall_eq, true_or, or_true, and_self, Nat.add_zero]) ?_
    refine j_widen (k := cs + 600) (n := sl + 10000) (by omega) (by omega) ?_
    exact kk _ _ _ _ _ _ _ _ _ _ _ _ _ (hR)
set_option maxHeartbeats 4000000 in
set_option maxRecDepth 100000 in
theorem op_must (l : Launch) (hl : l.stackTraces = false) (E : jE) (A : Nat → Prop) {t sz sg la dk ot mo ou : Nat} {z g b : Nat → Int32} {cr ca cg ck : Int32} {on : Int64} {os : Value} {th : Int32} {ro : Nat → Option Nat} {LL : List Nat} {ff : Nat → va_E} {p : Program} {e : Env} {R : Room} {s : State} {m : MethodId} {args : Array Value} {below : List Frame} {meth : Method} {c : Code} {Q : State → Prop} {nn mc ms bs Ln q cs sl : Nat} {xs : Nat → Int32} {x1 x2 x3 x4 : Int32} (C : jC p l e R s m args below meth c x code 7 ret 2000 mc ms E A) (hX : va_X bs Ln xs s s.heap) (hbl : bs < s.heap.size) (hbA : ¬ A bs) (hLn : Ln ≤ 2560) (hq : 5 * q + 5 ≤ Ln) (hmc : cs + 600 ≤ mc) (hms : sl + 10000 ≤ ms) (es1 : xs (5 * q + 1) = x1) (es2 : xs (5 * q + 2) = x2) (es3 : xs (5 * q + 3) = x3) (es4 : xs (5 * q + 4) = x4) (hR : Rel E z g ro LL ff) (kk : ∀ (z' g' b' : Nat → Int32) (cr' ca' cg' ck' : Int32) (on' : Int64) (os' : Value) (th' : Int32) (ro' : Nat → Option Nat) (L' : List Nat) (f' : Nat → va_E), Rel E z' g' ro' L' f' → jJ p l e R s m args below meth c E A 7 Q (cs + 600) (sl + 10000) 1674 [(4, .int (nI (5 * q))), (3, .ref ot), (2, .ref mo), (1, .ref dk), (0, .ref bs)] [] (gW E t sz sg la dk ot mo ou (z') (g') (b') (cr') (ca') (cg') (ck') (on') (os') (th') (cr') (ca') (cg') (ck') (ro') (L') (f'))) : jJ p l e R s m args below meth c E A 7 Q cs sl 1266 [(4, .int (nI (5 * q))), (3, .ref ot), (2, .ref mo), (1, .ref dk), (0, .ref bs)] [] (gW E t sz sg la dk ot mo ou z g b cr ca cg ck on os th cr ca cg ck ro LL ff) := by
  have hT := hR.tx
  rcases seat_cases x1 9 (by decide) with ⟨i, hi, rfl⟩ | hbx1
  · skip
    rcases hR.1 i (by omega) with ⟨hz_i, hr_i⟩ | ⟨a_i, n_i, h_i, hn_i, hz_i, hr_i, hm_i, hf_i, hs_i⟩
    · skip
      refine j_aload_n C dL_law_1266 rfl ?_
      refine j_aload_n C dL_law_1267 rfl ?_
      refine j_iload C dL_law_1268 rfl ?_
      refine j_iconst (v := (nI 1)) C dL_law_1270 rfl ?_
      refine j_iadd (z := (nI (5 * q + 1))) C dL_law_1271 (nI_add _ _) ?_
      refine j_sld (z := (nI i)) C hX hbl hbA (5 * q + 1) rfl (by omega) (by omega) es1 dL_law_1272 ?_
      refine j_aload_n C dL_law_1273 rfl ?_
      refine j_callSH C (w_must_r l E A (rr := -9) (f_must_m l E A hi hz_i)) ok_L_must w_839 (by decide) rfl rfl (Nat.le_of_ble_eq_true rfl) ⟨by omega, by omega⟩ dL_law_1274 (fun _ _ h => ?_)
      obtain ⟨rfl, rfl⟩ := h
      refine j_istore (lv' := [(5, .int (nI 0)), (4, .int (nI (5 * q))), (3, .ref ot), (2, .ref mo), (1, .ref dk), (0, .ref bs)]) C dL_law_1277 (by decide) rfl ?_
      refine j_aload_n C dL_law_1279 rfl ?_
      refine j_aload_n C dL_law_1280 rfl ?_
      refine j_iload C dL_law_1281 rfl ?_
      refine j_iconst (v := (nI 1)) C dL_law_1283 rfl ?_
      refine j_iadd (z := (nI (5 * q + 1))) C dL_law_1284 (nI_add _ _) ?_
      refine j_sld (z := (nI i)) C hX hbl hbA (5 * q + 1) rfl (by omega) (by omega) es1 dL_law_1285 ?_
      refine j_callVr C 6 (v := .int (-9)) (w := (gW E t sz sg la dk ot mo ou z g b (cr + nI 1) ca cg ck ((-9).toInt64) os (nI 0) (cr + nI 1) ca cg ck ro LL ff)) (g_must_m l E A hi hr_i) ok_X5_must w_1130 (by decide) rfl rfl (Nat.le_of_ble_eq_true rfl) rfl rfl ⟨by omega, by omega⟩ dL_law_1286 ?_
      refine j_istore (lv' := [(6, .int (-9)), (5, .int (nI 0)), (4, .int (nI (5 * q))), (3, .ref ot), (2, .ref mo), (1, .ref dk), (0, .ref bs)]) C dL_law_1289 (by decide) rfl ?_
      refine j_goto (tgt := 1674) C dL_law_1291 (by decide) ?_
      refine j_lv (lv' := [(4, .int (nI (5 * q))), (3, .ref ot), (2, .ref mo), (1, .ref dk), (0, .ref bs)]) (by simp only [List.mem_cons, List.not_mem_nil, or_false, forall_eq_or_imp, forall_eq, true_or, or_true, and_self, Nat.add_zero]) ?_
      refine j_widen (k := cs + 600) (n := sl + 10000) (by omega) (by omega) ?_
      exact kk _ _ _ _ _ _ _ _ _ _ _ _ _ (hR)
    · skip
      refine j_aload_n C dL_law_1266 rfl ?_
      refine j_aload_n C dL_law_1267 rfl ?_
      refine j_iload C dL_law_1268 rfl ?_
      refine j_iconst (v := (nI 1)) C dL_law_1270 rfl ?_
      refine j_iadd (z := (nI (5 * q + 1))) C dL_law_1271 (nI_add _ _) ?_
      refine j_sld (z := (nI i)) C hX hbl hbA (5 * q + 1) rfl (by omega) (by omega) es1 dL_law_1272 ?_
      refine j_aload_n C dL_law_1273 rfl ?_
      refine j_callSH C (w_must_r l E A (rr := nI n_i) (f_must_k l E A hi hn_i hz_i)) ok_L_must w_839 (by decide) rfl rfl (Nat.le_of_ble_eq_true rfl) ⟨by omega, by omega⟩ dL_law_1274 (fun _ _ h => ?_)
      obtain ⟨rfl, rfl⟩ := h
      refine j_istore (lv' := [(5, .int (nI 0)), (4, .int (nI (5 * q))), (3, .ref ot), (2, .ref mo), (1, .ref dk), (0, .ref bs)]) C dL_law_1277 (by decide) rfl ?_
      refine j_aload_n C dL_law_1279 rfl ?_
      refine j_aload_n C dL_law_1280 rfl ?_
      refine j_iload C dL_law_1281 rfl ?_
      refine j_iconst (v := (nI 1)) C dL_law_1283 rfl ?_
      refine j_iadd (z := (nI (5 * q + 1))) C dL_law_1284 (nI_add _ _) ?_
      refine j_sld (z := (nI i)) C hX hbl hbA (5 * q + 1) rfl (by omega) (by omega) es1 dL_law_1285 ?_
      refine j_callVr C 6 (v := .int (nI n_i)) (w := (gW E t sz sg la dk ot mo ou z g b cr ca cg ck ((nI n_i).toInt64) os (nI 0) cr ca cg ck ro LL ff)) (g_must_k l E A hi hr_i hm_i hf_i hn_i) ok_X5_must w_1130 (by decide) rfl rfl (Nat.le_of_ble_eq_true rfl) rfl rfl ⟨by omega, by omega⟩ dL_law_1286 ?_
      refine j_istore (lv' := [(6, .int (nI n_i)), (5, .int (nI 0)), (4, .int (nI (5 * q))), (3, .ref ot), (2, .ref mo), (1, .ref dk), (0, .ref bs)]) C dL_law_1289 (by decide) rfl ?_
      refine j_goto (tgt := 1674) C dL_law_1291 (by decide) ?_
      refine j_lv (lv' := [(4, .int (nI (5 * q))), (3, .ref ot), (2, .ref mo), (1, .ref dk), (0, .ref bs)]) (by simp only [List.mem_cons, List.not_mem_nil, or_false, forall_eq_or_imp, forall_eq, true_or, or_true, and_self, Nat.add_zero]) ?_
      refine j_widen (k := cs + 600) (n := sl + 10000) (by omega) (by omega) ?_
      exact kk _ _ _ _ _ _ _ _ _ _ _ _ _ (hR)
  · skip
    refine j_aload_n C dL_law_1266 rfl ?_
    refine j_aload_n C dL_law_1267 rfl ?_
    refine j_iload C dL_law_1268 rfl ?_
    refine j_iconst (v := (nI 1)) C dL_law_1270 rfl ?_
    refine j_iadd (z := (nI (5 * q + 1))) C dL_law_1271 (nI_add _ _) ?_
    refine j_sld (z := x1) C hX hbl hbA (5 * q + 1) rfl (by omega) (by omega) es1 dL_law_1272 ?_
    refine j_aload_n C dL_law_1273 rfl ?_
    refine j_callSH C (w_must_jIO l E A (f_must_b l hl E A hbx1)) ok_L_must w_839 (by decide) rfl rfl (Nat.le_of_ble_eq_true rfl) ⟨by omega, by omega⟩ dL_law_1274 (fun _ _ h => ?_)
    obtain ⟨rfl, rfl⟩ := h
    refine j_istore (lv' := [(5, .int (nI 1)), (4, .int (nI (5 * q))), (3, .ref ot), (2, .ref mo), (1, .ref dk), (0, .ref bs)]) C dL_law_1277 (by decide) rfl ?_
    refine j_aload_n C dL_law_1279 rfl ?_
    refine j_aload_n C dL_law_1280 rfl ?_
    refine j_iload C dL_law_1281 rfl ?_
    refine j_iconst (v := (nI 1)) C dL_law_1283 rfl ?_
    refine j_iadd (z := (nI (5 * q + 1))) C dL_law_1284 (nI_add _ _) ?_
    refine j_sld (z := x1) C hX hbl hbA (5 * q + 1) rfl (by omega) (by omega) es1 dL_law_1285 ?_
    refine j_callVr C 6 (v := .int (nI 0)) (w := (gW E t sz sg la dk ot mo ou z g b cr ca cg ck on os (nI 1) cr ca cg ck ro LL ff)) (g_must_b l E A hbx1) ok_X5_must w_1130 (by decide) rfl rfl (Nat.le_of_ble_eq_true rfl) rfl rfl ⟨by omega, by omega⟩ dL_law_1286 ?_
    refine j_istore (lv' := [(6, .int (nI 0)), (5, .int (nI 1)), (4, .int (nI (5 * q))), (3, .ref ot), (2, .ref mo), (1, .ref dk), (0, .ref bs)]) C dL_law_1289 (by decide) rfl ?_
    refine j_goto (tgt := 1674) C dL_law_1291 (by decide) ?_
    refine j_lv (lv' := [(4, .int (nI (5 * q))), (3, .ref ot), (2, .ref mo), (1, .ref dk), (0, .ref bs)]) (by simp only [List.mem_cons, List.not_mem_nil, or_false, forall_eq_or_imp, forall_eq, true_or, or_true, and_self, Nat.add_zero]) ?_
    refine j_widen (k := cs + 600) (n := sl + 10000) (by omega) (by omega) ?_
    exact kk _ _ _ _ _ _ _ _ _ _ _ _ _ (hR)
set_option maxHeartbeats 4000000 in
set_option maxRecDepth 100000 in
theorem op_mustSaying (l : Launch) (hl : l.stackTraces = false) (E : jE) (A : Nat → Prop) {t sz sg la dk ot mo ou : Nat} {z g b : Nat → Int32} {cr ca cg ck : Int32} {on : Int64} {os : Value} {th : Int32} {ro : Nat → Option Nat} {LL : List Nat} {ff : Nat → va_E} {p : Program} {e : Env} {R : Room} {s : State} {m : MethodId} {args : Array Value} {below : List Frame} {meth : Method} {c : Code} {Q : State → Prop} {nn mc ms bs Ln q cs sl : Nat} {xs : Nat → Int32} {x1 x2 x3 x4 : Int32} (C : jC p l e R s m args below meth c x code 7 ret 2000 mc ms E A) (hX : va_X bs Ln xs s s.heap) (hbl : bs < s.heap.size) (hbA : ¬ A bs) (hLn : Ln ≤ 2560) (hq : 5 * q + 5 ≤ Ln) (hmc : cs + 600 ≤ mc) (hms : sl + 10000 ≤ ms) (es1 : xs (5 * q + 1) = x1) (es2 : xs (5 * q + 2) = x2) (es3 : xs (5 * q + 3) = x3) (es4 : xs (5 * q + 4) = x4) (hR : Rel E z g ro LL ff) (kk : ∀ (z' g' b' : Nat → Int32) (cr' ca' cg' ck' : Int32) (on' : Int64) (os' : Value) (th' : Int32) (ro' : Nat → Option Nat) (L' : List Nat) (f' : Nat → va_E), Rel E z' g' ro' L' f' → jJ p l e R s m args below meth c E A 7 Q (cs + 600) (sl + 10000) 1674 [(4, .int (nI (5 * q))), (3, .ref ot), (2, .ref mo), (1, .ref dk), (0, .ref bs)] [] (gW E t sz sg la dk ot mo ou (z') (g') (b') (cr') (ca') (cg') (ck') (on') (os') (th') (cr') (ca') (cg') (ck') (ro') (L') (f'))) : jJ p l e R s m args below meth c E A 7 Q cs sl 1294 [(4, .int (nI (5 * q))), (3, .ref ot), (2, .ref mo), (1, .ref dk), (0, .ref bs)] [] (gW E t sz sg la dk ot mo ou z g b cr ca cg ck on os th cr ca cg ck ro LL ff) := by
  have hT := hR.tx
  rcases seat_cases x1 9 (by decide) with ⟨i, hi, rfl⟩ | hbx1
  · skip
    rcases hR.1 i (by omega) with ⟨hz_i, hr_i⟩ | ⟨a_i, n_i, h_i, hn_i, hz_i, hr_i, hm_i, hf_i, hs_i⟩
    · skip
      refine j_aload_n C dL_law_1294 rfl ?_
      refine j_aload_n C dL_law_1295 rfl ?_
      refine j_iload C dL_law_1296 rfl ?_
      refine j_iconst (v := (nI 1)) C dL_law_1298 rfl ?_
      refine j_iadd (z := (nI (5 * q + 1))) C dL_law_1299 (nI_add _ _) ?_
      refine j_sld (z := (nI i)) C hX hbl hbA (5 * q + 1) rfl (by omega) (by omega) es1 dL_law_1300 ?_
      refine j_aload_n C dL_law_1301 rfl ?_
      refine j_callSH C (w_mustSaying_r l E A (rr := -9) (f_mustSaying_m l E A hi hz_i)) ok_L_mustSaying w_846 (by decide) rfl rfl (Nat.le_of_ble_eq_true rfl) ⟨by omega, by omega⟩ dL_law_1302 (fun _ _ h => ?_)
      obtain ⟨rfl, rfl⟩ := h
      refine j_istore (lv' := [(5, .int (nI 0)), (4, .int (nI (5 * q))), (3, .ref ot), (2, .ref mo), (1, .ref dk), (0, .ref bs)]) C dL_law_1305 (by decide) rfl ?_
      refine j_aload_n C dL_law_1307 rfl ?_
      refine j_aload_n C dL_law_1308 rfl ?_
      refine j_iload C dL_law_1309 rfl ?_
      refine j_iconst (v := (nI 1)) C dL_law_1311 rfl ?_
      refine j_iadd (z := (nI (5 * q + 1))) C dL_law_1312 (nI_add _ _) ?_
      refine j_sld (z := (nI i)) C hX hbl hbA (5 * q + 1) rfl (by omega) (by omega) es1 dL_law_1313 ?_
      refine j_callVr C 6 (v := .int (-9)) (w := (gW E t sz sg la dk ot mo ou z g b (cr + nI 1) ca (cg + nI 1) ck ((-9).toInt64) os (nI 0) (cr + nI 1) ca (cg + nI 1) ck ro LL ff)) (g_mustSaying_m l E A hi hr_i) ok_X5_mustSaying w_1134 (by decide) rfl rfl (Nat.le_of_ble_eq_true rfl) rfl rfl ⟨by omega, by omega⟩ dL_law_1314 ?_
      refine j_istore (lv' := [(6, .int (-9)), (5, .int (nI 0)), (4, .int (nI (5 * q))), (3, .ref ot), (2, .ref mo), (1, .ref dk), (0, .ref bs)]) C dL_law_1317 (by decide) rfl ?_
      refine j_aload_n C dL_law_1319 rfl ?_
      refine j_callVr C 6 (v := .int (nI 0)) (w := (gW E t sz sg la dk ot mo ou z g b (cr + nI 1) ca (cg + nI 1) ck ((-9).toInt64) os (nI 0) (cr + nI 1) ca (cg + nI 1) ck ro LL ff)) (g_thrown l E A) ok_X5_thrown w_940 (by decide) rfl rfl (Nat.le_of_ble_eq_true rfl) rfl rfl ⟨by omega, by omega⟩ dL_law_1320 ?_
      refine j_iload C dL_law_1323 rfl ?_
      refine j_icmp_eq_t (tgt := 1330) C dL_law_1325 (by decide) rfl ?_
      refine j_iload C dL_law_1330 rfl ?_
      refine j_ifn_ne_f (tgt := 1348) C dL_law_1332 (by decide) (by omega) (by omega) ?_
      refine j_aload_n C dL_law_1335 rfl ?_
      refine j_getN C 5 rfl inj_X4 rfl 0 (by decide) (List.mem_of_getElem? (i := 1) rfl) rfl dL_law_1336 ?_
      refine j_iload C dL_law_1339 rfl ?_
      refine j_i2l (v := (-9).toInt64) C dL_law_1341 rfl ?_
      refine j_l_eq_t (tgt := 1348) C dL_law_1342 dL_law_1343 (by decide) rfl ?_
      refine j_goto (tgt := 1674) C dL_law_1348 (by decide) ?_
      refine j_lv (lv' := [(4, .int (nI (5 * q))), (3, .ref ot), (2, .ref mo), (1, .ref dk), (0, .ref bs)]) (by simp only [List.mem_cons, List.not_mem_nil, or_false, forall_eq_or_imp, forall_eq, true_or, or_true, and_self, Nat.add_zero]) ?_
      refine j_widen (k := cs + 600) (n := sl + 10000) (by omega) (by omega) ?_
      exact kk _ _ _ _ _ _ _ _ _ _ _ _ _ (hR)
    · skip
      refine j_aload_n C dL_law_1294 rfl ?_
      refine j_aload_n C dL_law_1295 rfl ?_
      refine j_iload C dL_law_1296 rfl ?_
      refine j_iconst (v := (nI 1)) C dL_law_1298 rfl ?_
      refine j_iadd (z := (nI (5 * q + 1))) C dL_law_1299 (nI_add _ _) ?_
      refine j_sld (z := (nI i)) C hX hbl hbA (5 * q + 1) rfl (by omega) (by omega) es1 dL_law_1300 ?_
      refine j_aload_n C dL_law_1301 rfl ?_
      refine j_callSH C (w_mustSaying_r l E A (rr := nI n_i) (f_mustSaying_k l E A hi hn_i hz_i)) ok_L_mustSaying w_846 (by decide) rfl rfl (Nat.le_of_ble_eq_true rfl) ⟨by omega, by omega⟩ dL_law_1302 (fun _ _ h => ?_)
      obtain ⟨rfl, rfl⟩ := h
      refine j_istore (lv' := [(5, .int (nI 0)), (4, .int (nI (5 * q))), (3, .ref ot), (2, .ref mo), (1, .ref dk), (0, .ref bs)]) C dL_law_1305 (by decide) rfl ?_
      refine j_aload_n C dL_law_1307 rfl ?_
      refine j_aload_n C dL_law_1308 rfl ?_
      refine j_iload C dL_law_1309 rfl ?_
      refine j_iconst (v := (nI 1)) C dL_law_1311 rfl ?_
      refine j_iadd (z := (nI (5 * q + 1))) C dL_law_1312 (nI_add _ _) ?_
      refine j_sld (z := (nI i)) C hX hbl hbA (5 * q + 1) rfl (by omega) (by omega) es1 dL_law_1313 ?_
      refine j_callVr C 6 (v := .int (nI n_i)) (w := (gW E t sz sg la dk ot mo ou z g b cr ca cg ck ((nI n_i).toInt64) os (nI 0) cr ca (cg + nI 0) ck ro LL ff)) (g_mustSaying_k l E A hi hr_i hm_i hf_i hn_i) ok_X5_mustSaying w_1134 (by decide) rfl rfl (Nat.le_of_ble_eq_true rfl) rfl rfl ⟨by omega, by omega⟩ dL_law_1314 ?_
      refine j_istore (lv' := [(6, .int (nI n_i)), (5, .int (nI 0)), (4, .int (nI (5 * q))), (3, .ref ot), (2, .ref mo), (1, .ref dk), (0, .ref bs)]) C dL_law_1317 (by decide) rfl ?_
      refine j_aload_n C dL_law_1319 rfl ?_
      refine j_callVr C 6 (v := .int (nI 0)) (w := (gW E t sz sg la dk ot mo ou z g b cr ca cg ck ((nI n_i).toInt64) os (nI 0) cr ca (cg + nI 0) ck ro LL ff)) (g_thrown l E A) ok_X5_thrown w_940 (by decide) rfl rfl (Nat.le_of_ble_eq_true rfl) rfl rfl ⟨by omega, by omega⟩ dL_law_1320 ?_
      refine j_iload C dL_law_1323 rfl ?_
      refine j_icmp_eq_t (tgt := 1330) C dL_law_1325 (by decide) rfl ?_
      refine j_iload C dL_law_1330 rfl ?_
      refine j_ifn_ne_f (tgt := 1348) C dL_law_1332 (by decide) (by omega) (by omega) ?_
      refine j_aload_n C dL_law_1335 rfl ?_
      refine j_getN C 5 rfl inj_X4 rfl 0 (by decide) (List.mem_of_getElem? (i := 1) rfl) rfl dL_law_1336 ?_
      refine j_iload C dL_law_1339 rfl ?_
      refine j_i2l (v := (nI n_i).toInt64) C dL_law_1341 rfl ?_
      refine j_l_eq_t (tgt := 1348) C dL_law_1342 dL_law_1343 (by decide) rfl ?_
      refine j_goto (tgt := 1674) C dL_law_1348 (by decide) ?_
      refine j_lv (lv' := [(4, .int (nI (5 * q))), (3, .ref ot), (2, .ref mo), (1, .ref dk), (0, .ref bs)]) (by simp only [List.mem_cons, List.not_mem_nil, or_false, forall_eq_or_imp, forall_eq, true_or, or_true, and_self, Nat.add_zero]) ?_
      refine j_widen (k := cs + 600) (n := sl + 10000) (by omega) (by omega) ?_
      rw [show (cg + nI 0 : Int32) = cg from Int32.add_zero cg]
      exact kk _ _ _ _ _ _ _ _ _ _ _ _ _ (hR)
  · skip
    refine j_aload_n C dL_law_1294 rfl ?_
    refine j_aload_n C dL_law_1295 rfl ?_
    refine j_iload C dL_law_1296 rfl ?_
    refine j_iconst (v := (nI 1)) C dL_law_1298 rfl ?_
    refine j_iadd (z := (nI (5 * q + 1))) C dL_law_1299 (nI_add _ _) ?_
    refine j_sld (z := x1) C hX hbl hbA (5 * q + 1) rfl (by omega) (by omega) es1 dL_law_1300 ?_
    refine j_aload_n C dL_law_1301 rfl ?_
    refine j_callSH C (w_mustSaying_jIO l E A (f_mustSaying_b l hl E A hbx1)) ok_L_mustSaying w_846 (by decide) rfl rfl (Nat.le_of_ble_eq_true rfl) ⟨by omega, by omega⟩ dL_law_1302 (fun _ _ h => ?_)
    obtain ⟨rfl, rfl⟩ := h
    refine j_istore (lv' := [(5, .int (nI 1)), (4, .int (nI (5 * q))), (3, .ref ot), (2, .ref mo), (1, .ref dk), (0, .ref bs)]) C dL_law_1305 (by decide) rfl ?_
    refine j_aload_n C dL_law_1307 rfl ?_
    refine j_aload_n C dL_law_1308 rfl ?_
    refine j_iload C dL_law_1309 rfl ?_
    refine j_iconst (v := (nI 1)) C dL_law_1311 rfl ?_
    refine j_iadd (z := (nI (5 * q + 1))) C dL_law_1312 (nI_add _ _) ?_
    refine j_sld (z := x1) C hX hbl hbA (5 * q + 1) rfl (by omega) (by omega) es1 dL_law_1313 ?_
    refine j_callVr C 6 (v := .int (nI 0)) (w := (gW E t sz sg la dk ot mo ou z g b cr ca cg ck on os (nI 1) cr ca cg ck ro LL ff)) (g_mustSaying_b l E A hbx1) ok_X5_mustSaying w_1134 (by decide) rfl rfl (Nat.le_of_ble_eq_true rfl) rfl rfl ⟨by omega, by omega⟩ dL_law_1314 ?_
    refine j_istore (lv' := [(6, .int (nI 0)), (5, .int (nI 1)), (4, .int (nI (5 * q))), (3, .ref ot), (2, .ref mo), (1, .ref dk), (0, .ref bs)]) C dL_law_1317 (by decide) rfl ?_
    refine j_aload_n C dL_law_1319 rfl ?_
    refine j_callVr C 6 (v := .int (nI 1)) (w := (gW E t sz sg la dk ot mo ou z g b cr ca cg ck on os (nI 1) cr ca cg ck ro LL ff)) (g_thrown l E A) ok_X5_thrown w_940 (by decide) rfl rfl (Nat.le_of_ble_eq_true rfl) rfl rfl ⟨by omega, by omega⟩ dL_law_1320 ?_
    refine j_iload C dL_law_1323 rfl ?_
    refine j_icmp_eq_t (tgt := 1330) C dL_law_1325 (by decide) rfl ?_
    refine j_iload C dL_law_1330 rfl ?_
    refine j_ifn_ne_t (tgt := 1348) C dL_law_1332 (by decide) (by omega) (by omega) ?_
    refine j_goto (tgt := 1674) C dL_law_1348 (by decide) ?_
    refine j_lv (lv' := [(4, .int (nI (5 * q))), (3, .ref ot), (2, .ref mo), (1, .ref dk), (0, .ref bs)]) (by simp only [List.mem_cons, List.not_mem_nil, or_false, forall_eq_or_imp, forall_eq, true_or, or_true, and_self, Nat.add_zero]) ?_
    refine j_widen (k := cs + 600) (n := sl + 10000) (by omega) (by omega) ?_
    exact kk _ _ _ _ _ _ _ _ _ _ _ _ _ (hR)
set_option maxHeartbeats 4000000 in
set_option maxRecDepth 100000 in
theorem op_isMissing (l : Launch) (hl : l.stackTraces = false) (E : jE) (A : Nat → Prop) {t sz sg la dk ot mo ou : Nat} {z g b : Nat → Int32} {cr ca cg ck : Int32} {on : Int64} {os : Value} {th : Int32} {ro : Nat → Option Nat} {LL : List Nat} {ff : Nat → va_E} {p : Program} {e : Env} {R : Room} {s : State} {m : MethodId} {args : Array Value} {below : List Frame} {meth : Method} {c : Code} {Q : State → Prop} {nn mc ms bs Ln q cs sl : Nat} {xs : Nat → Int32} {x1 x2 x3 x4 : Int32} (C : jC p l e R s m args below meth c x code 7 ret 2000 mc ms E A) (hX : va_X bs Ln xs s s.heap) (hbl : bs < s.heap.size) (hbA : ¬ A bs) (hLn : Ln ≤ 2560) (hq : 5 * q + 5 ≤ Ln) (hmc : cs + 600 ≤ mc) (hms : sl + 10000 ≤ ms) (es1 : xs (5 * q + 1) = x1) (es2 : xs (5 * q + 2) = x2) (es3 : xs (5 * q + 3) = x3) (es4 : xs (5 * q + 4) = x4) (hR : Rel E z g ro LL ff) (kk : ∀ (z' g' b' : Nat → Int32) (cr' ca' cg' ck' : Int32) (on' : Int64) (os' : Value) (th' : Int32) (ro' : Nat → Option Nat) (L' : List Nat) (f' : Nat → va_E), Rel E z' g' ro' L' f' → jJ p l e R s m args below meth c E A 7 Q (cs + 600) (sl + 10000) 1674 [(4, .int (nI (5 * q))), (3, .ref ot), (2, .ref mo), (1, .ref dk), (0, .ref bs)] [] (gW E t sz sg la dk ot mo ou (z') (g') (b') (cr') (ca') (cg') (ck') (on') (os') (th') (cr') (ca') (cg') (ck') (ro') (L') (f'))) : jJ p l e R s m args below meth c E A 7 Q cs sl 1431 [(4, .int (nI (5 * q))), (3, .ref ot), (2, .ref mo), (1, .ref dk), (0, .ref bs)] [] (gW E t sz sg la dk ot mo ou z g b cr ca cg ck on os th cr ca cg ck ro LL ff) := by
  have hT := hR.tx
  rcases seat_cases x1 9 (by decide) with ⟨i, hi, rfl⟩ | hbx1
  · skip
    rcases hR.1 i (by omega) with ⟨hz_i, hr_i⟩ | ⟨a_i, n_i, h_i, hn_i, hz_i, hr_i, hm_i, hf_i, hs_i⟩
    · skip
      refine j_aload_n C dL_law_1431 rfl ?_
      refine j_aload_n C dL_law_1432 rfl ?_
      refine j_iload C dL_law_1433 rfl ?_
      refine j_iconst (v := (nI 1)) C dL_law_1435 rfl ?_
      refine j_iadd (z := (nI (5 * q + 1))) C dL_law_1436 (nI_add _ _) ?_
      refine j_sld (z := (nI i)) C hX hbl hbA (5 * q + 1) rfl (by omega) (by omega) es1 dL_law_1437 ?_
      refine j_aload_n C dL_law_1438 rfl ?_
      refine j_callSH C (w_isMissing_t l E A (rr := bI (z i = -1)) (by rw [bI_t hz_i]; decide) (f_isMissing_k l E A hi)) ok_L_isMissing w_871 (by decide) rfl rfl (Nat.le_of_ble_eq_true rfl) ⟨by omega, by omega⟩ dL_law_1439 (fun _ _ h => ?_)
      obtain ⟨rfl, rfl⟩ := h
      refine j_istore (lv' := [(5, .int (nI 0)), (4, .int (nI (5 * q))), (3, .ref ot), (2, .ref mo), (1, .ref dk), (0, .ref bs)]) C dL_law_1442 (by decide) rfl ?_
      refine j_aload_n C dL_law_1444 rfl ?_
      refine j_aload_n C dL_law_1445 rfl ?_
      refine j_iload C dL_law_1446 rfl ?_
      refine j_iconst (v := (nI 1)) C dL_law_1448 rfl ?_
      refine j_iadd (z := (nI (5 * q + 1))) C dL_law_1449 (nI_add _ _) ?_
      refine j_sld (z := (nI i)) C hX hbl hbA (5 * q + 1) rfl (by omega) (by omega) es1 dL_law_1450 ?_
      refine j_callVr C 6 (v := .int (nI 1)) (w := (gW E t sz sg la dk ot mo ou z g b cr ca cg ck 1 os (nI 0) cr ca cg ck ro LL ff)) (g_isMissing_m l E A hi hr_i) ok_X5_isMissing w_1150 (by decide) rfl rfl (Nat.le_of_ble_eq_true rfl) rfl rfl ⟨by omega, by omega⟩ dL_law_1451 ?_
      refine j_istore (lv' := [(6, .int (nI 1)), (5, .int (nI 0)), (4, .int (nI (5 * q))), (3, .ref ot), (2, .ref mo), (1, .ref dk), (0, .ref bs)]) C dL_law_1454 (by decide) rfl ?_
      refine j_goto (tgt := 1674) C dL_law_1456 (by decide) ?_
      refine j_lv (lv' := [(4, .int (nI (5 * q))), (3, .ref ot), (2, .ref mo), (1, .ref dk), (0, .ref bs)]) (by simp only [List.mem_cons, List.not_mem_nil, or_false, forall_eq_or_imp, forall_eq, true_or, or_true, and_self, Nat.add_zero]) ?_
      refine j_widen (k := cs + 600) (n := sl + 10000) (by omega) (by omega) ?_
      exact kk _ _ _ _ _ _ _ _ _ _ _ _ _ (hR)
    · skip
      refine j_aload_n C dL_law_1431 rfl ?_
      refine j_aload_n C dL_law_1432 rfl ?_
      refine j_iload C dL_law_1433 rfl ?_
      refine j_iconst (v := (nI 1)) C dL_law_1435 rfl ?_
      refine j_iadd (z := (nI (5 * q + 1))) C dL_law_1436 (nI_add _ _) ?_
      refine j_sld (z := (nI i)) C hX hbl hbA (5 * q + 1) rfl (by omega) (by omega) es1 dL_law_1437 ?_
      refine j_aload_n C dL_law_1438 rfl ?_
      refine j_callSH C (w_isMissing_f l E A (rr := bI (z i = -1)) (bI_f (nz_i hz_i hn_i)) (f_isMissing_k l E A hi)) ok_L_isMissing w_871 (by decide) rfl rfl (Nat.le_of_ble_eq_true rfl) ⟨by omega, by omega⟩ dL_law_1439 (fun _ _ h => ?_)
      obtain ⟨rfl, rfl⟩ := h
      refine j_istore (lv' := [(5, .int (nI 0)), (4, .int (nI (5 * q))), (3, .ref ot), (2, .ref mo), (1, .ref dk), (0, .ref bs)]) C dL_law_1442 (by decide) rfl ?_
      refine j_aload_n C dL_law_1444 rfl ?_
      refine j_aload_n C dL_law_1445 rfl ?_
      refine j_iload C dL_law_1446 rfl ?_
      refine j_iconst (v := (nI 1)) C dL_law_1448 rfl ?_
      refine j_iadd (z := (nI (5 * q + 1))) C dL_law_1449 (nI_add _ _) ?_
      refine j_sld (z := (nI i)) C hX hbl hbA (5 * q + 1) rfl (by omega) (by omega) es1 dL_law_1450 ?_
      refine j_callVr C 6 (v := .int (nI 0)) (w := (gW E t sz sg la dk ot mo ou z g b cr ca cg ck 0 os (nI 0) cr ca cg ck ro LL ff)) (g_isMissing_k l E A hi hr_i hm_i hf_i hn_i) ok_X5_isMissing w_1150 (by decide) rfl rfl (Nat.le_of_ble_eq_true rfl) rfl rfl ⟨by omega, by omega⟩ dL_law_1451 ?_
      refine j_istore (lv' := [(6, .int (nI 0)), (5, .int (nI 0)), (4, .int (nI (5 * q))), (3, .ref ot), (2, .ref mo), (1, .ref dk), (0, .ref bs)]) C dL_law_1454 (by decide) rfl ?_
      refine j_goto (tgt := 1674) C dL_law_1456 (by decide) ?_
      refine j_lv (lv' := [(4, .int (nI (5 * q))), (3, .ref ot), (2, .ref mo), (1, .ref dk), (0, .ref bs)]) (by simp only [List.mem_cons, List.not_mem_nil, or_false, forall_eq_or_imp, forall_eq, true_or, or_true, and_self, Nat.add_zero]) ?_
      refine j_widen (k := cs + 600) (n := sl + 10000) (by omega) (by omega) ?_
      exact kk _ _ _ _ _ _ _ _ _ _ _ _ _ (hR)
  · skip
    refine j_aload_n C dL_law_1431 rfl ?_
    refine j_aload_n C dL_law_1432 rfl ?_
    refine j_iload C dL_law_1433 rfl ?_
    refine j_iconst (v := (nI 1)) C dL_law_1435 rfl ?_
    refine j_iadd (z := (nI (5 * q + 1))) C dL_law_1436 (nI_add _ _) ?_
    refine j_sld (z := x1) C hX hbl hbA (5 * q + 1) rfl (by omega) (by omega) es1 dL_law_1437 ?_
    refine j_aload_n C dL_law_1438 rfl ?_
    refine j_callSH C (w_isMissing_jIO l E A (f_isMissing_b l hl E A hbx1)) ok_L_isMissing w_871 (by decide) rfl rfl (Nat.le_of_ble_eq_true rfl) ⟨by omega, by omega⟩ dL_law_1439 (fun _ _ h => ?_)
    obtain ⟨rfl, rfl⟩ := h
    refine j_istore (lv' := [(5, .int (nI 1)), (4, .int (nI (5 * q))), (3, .ref ot), (2, .ref mo), (1, .ref dk), (0, .ref bs)]) C dL_law_1442 (by decide) rfl ?_
    refine j_aload_n C dL_law_1444 rfl ?_
    refine j_aload_n C dL_law_1445 rfl ?_
    refine j_iload C dL_law_1446 rfl ?_
    refine j_iconst (v := (nI 1)) C dL_law_1448 rfl ?_
    refine j_iadd (z := (nI (5 * q + 1))) C dL_law_1449 (nI_add _ _) ?_
    refine j_sld (z := x1) C hX hbl hbA (5 * q + 1) rfl (by omega) (by omega) es1 dL_law_1450 ?_
    refine j_callVr C 6 (v := .int (nI 0)) (w := (gW E t sz sg la dk ot mo ou z g b cr ca cg ck on os (nI 1) cr ca cg ck ro LL ff)) (g_isMissing_b l E A hbx1) ok_X5_isMissing w_1150 (by decide) rfl rfl (Nat.le_of_ble_eq_true rfl) rfl rfl ⟨by omega, by omega⟩ dL_law_1451 ?_
    refine j_istore (lv' := [(6, .int (nI 0)), (5, .int (nI 1)), (4, .int (nI (5 * q))), (3, .ref ot), (2, .ref mo), (1, .ref dk), (0, .ref bs)]) C dL_law_1454 (by decide) rfl ?_
    refine j_goto (tgt := 1674) C dL_law_1456 (by decide) ?_
    refine j_lv (lv' := [(4, .int (nI (5 * q))), (3, .ref ot), (2, .ref mo), (1, .ref dk), (0, .ref bs)]) (by simp only [List.mem_cons, List.not_mem_nil, or_false, forall_eq_or_imp, forall_eq, true_or, or_true, and_self, Nat.add_zero]) ?_
    refine j_widen (k := cs + 600) (n := sl + 10000) (by omega) (by omega) ?_
    exact kk _ _ _ _ _ _ _ _ _ _ _ _ _ (hR)
set_option maxHeartbeats 4000000 in
set_option maxRecDepth 100000 in
theorem op_isThere (l : Launch) (hl : l.stackTraces = false) (E : jE) (A : Nat → Prop) {t sz sg la dk ot mo ou : Nat} {z g b : Nat → Int32} {cr ca cg ck : Int32} {on : Int64} {os : Value} {th : Int32} {ro : Nat → Option Nat} {LL : List Nat} {ff : Nat → va_E} {p : Program} {e : Env} {R : Room} {s : State} {m : MethodId} {args : Array Value} {below : List Frame} {meth : Method} {c : Code} {Q : State → Prop} {nn mc ms bs Ln q cs sl : Nat} {xs : Nat → Int32} {x1 x2 x3 x4 : Int32} (C : jC p l e R s m args below meth c x code 7 ret 2000 mc ms E A) (hX : va_X bs Ln xs s s.heap) (hbl : bs < s.heap.size) (hbA : ¬ A bs) (hLn : Ln ≤ 2560) (hq : 5 * q + 5 ≤ Ln) (hmc : cs + 600 ≤ mc) (hms : sl + 10000 ≤ ms) (es1 : xs (5 * q + 1) = x1) (es2 : xs (5 * q + 2) = x2) (es3 : xs (5 * q + 3) = x3) (es4 : xs (5 * q + 4) = x4) (hR : Rel E z g ro LL ff) (kk : ∀ (z' g' b' : Nat → Int32) (cr' ca' cg' ck' : Int32) (on' : Int64) (os' : Value) (th' : Int32) (ro' : Nat → Option Nat) (L' : List Nat) (f' : Nat → va_E), Rel E z' g' ro' L' f' → jJ p l e R s m args below meth c E A 7 Q (cs + 600) (sl + 10000) 1674 [(4, .int (nI (5 * q))), (3, .ref ot), (2, .ref mo), (1, .ref dk), (0, .ref bs)] [] (gW E t sz sg la dk ot mo ou (z') (g') (b') (cr') (ca') (cg') (ck') (on') (os') (th') (cr') (ca') (cg') (ck') (ro') (L') (f'))) : jJ p l e R s m args below meth c E A 7 Q cs sl 1459 [(4, .int (nI (5 * q))), (3, .ref ot), (2, .ref mo), (1, .ref dk), (0, .ref bs)] [] (gW E t sz sg la dk ot mo ou z g b cr ca cg ck on os th cr ca cg ck ro LL ff) := by
  have hT := hR.tx
  rcases seat_cases x1 9 (by decide) with ⟨i, hi, rfl⟩ | hbx1
  · skip
    rcases hR.1 i (by omega) with ⟨hz_i, hr_i⟩ | ⟨a_i, n_i, h_i, hn_i, hz_i, hr_i, hm_i, hf_i, hs_i⟩
    · skip
      refine j_aload_n C dL_law_1459 rfl ?_
      refine j_aload_n C dL_law_1460 rfl ?_
      refine j_iload C dL_law_1461 rfl ?_
      refine j_iconst (v := (nI 1)) C dL_law_1463 rfl ?_
      refine j_iadd (z := (nI (5 * q + 1))) C dL_law_1464 (nI_add _ _) ?_
      refine j_sld (z := (nI i)) C hX hbl hbA (5 * q + 1) rfl (by omega) (by omega) es1 dL_law_1465 ?_
      refine j_aload_n C dL_law_1466 rfl ?_
      refine j_callSH C (w_isThere_f l E A (rr := bI (¬ z i = -1)) (bI_f (fun q => q hz_i)) (f_isThere_k l E A hi)) ok_L_isThere w_878 (by decide) rfl rfl (Nat.le_of_ble_eq_true rfl) ⟨by omega, by omega⟩ dL_law_1467 (fun _ _ h => ?_)
      obtain ⟨rfl, rfl⟩ := h
      refine j_istore (lv' := [(5, .int (nI 0)), (4, .int (nI (5 * q))), (3, .ref ot), (2, .ref mo), (1, .ref dk), (0, .ref bs)]) C dL_law_1470 (by decide) rfl ?_
      refine j_aload_n C dL_law_1472 rfl ?_
      refine j_aload_n C dL_law_1473 rfl ?_
      refine j_iload C dL_law_1474 rfl ?_
      refine j_iconst (v := (nI 1)) C dL_law_1476 rfl ?_
      refine j_iadd (z := (nI (5 * q + 1))) C dL_law_1477 (nI_add _ _) ?_
      refine j_sld (z := (nI i)) C hX hbl hbA (5 * q + 1) rfl (by omega) (by omega) es1 dL_law_1478 ?_
      refine j_callVr C 6 (v := .int (nI 0)) (w := (gW E t sz sg la dk ot mo ou z g b cr ca cg ck 0 os (nI 0) cr ca cg ck ro LL ff)) (g_isThere_m l E A hi hr_i) ok_X5_isThere w_1154 (by decide) rfl rfl (Nat.le_of_ble_eq_true rfl) rfl rfl ⟨by omega, by omega⟩ dL_law_1479 ?_
      refine j_istore (lv' := [(6, .int (nI 0)), (5, .int (nI 0)), (4, .int (nI (5 * q))), (3, .ref ot), (2, .ref mo), (1, .ref dk), (0, .ref bs)]) C dL_law_1482 (by decide) rfl ?_
      refine j_goto (tgt := 1674) C dL_law_1484 (by decide) ?_
      refine j_lv (lv' := [(4, .int (nI (5 * q))), (3, .ref ot), (2, .ref mo), (1, .ref dk), (0, .ref bs)]) (by simp only [List.mem_cons, List.not_mem_nil, or_false, forall_eq_or_imp, forall_eq, true_or, or_true, and_self, Nat.add_zero]) ?_
      refine j_widen (k := cs + 600) (n := sl + 10000) (by omega) (by omega) ?_
      exact kk _ _ _ _ _ _ _ _ _ _ _ _ _ (hR)
    · skip
      refine j_aload_n C dL_law_1459 rfl ?_
      refine j_aload_n C dL_law_1460 rfl ?_
      refine j_iload C dL_law_1461 rfl ?_
      refine j_iconst (v := (nI 1)) C dL_law_1463 rfl ?_
      refine j_iadd (z := (nI (5 * q + 1))) C dL_law_1464 (nI_add _ _) ?_
      refine j_sld (z := (nI i)) C hX hbl hbA (5 * q + 1) rfl (by omega) (by omega) es1 dL_law_1465 ?_
      refine j_aload_n C dL_law_1466 rfl ?_
      refine j_callSH C (w_isThere_t l E A (rr := bI (¬ z i = -1)) (by rw [bI_t (nz_i hz_i hn_i)]; decide) (f_isThere_k l E A hi)) ok_L_isThere w_878 (by decide) rfl rfl (Nat.le_of_ble_eq_true rfl) ⟨by omega, by omega⟩ dL_law_1467 (fun _ _ h => ?_)
      obtain ⟨rfl, rfl⟩ := h
      refine j_istore (lv' := [(5, .int (nI 0)), (4, .int (nI (5 * q))), (3, .ref ot), (2, .ref mo), (1, .ref dk), (0, .ref bs)]) C dL_law_1470 (by decide) rfl ?_
      refine j_aload_n C dL_law_1472 rfl ?_
      refine j_aload_n C dL_law_1473 rfl ?_
      refine j_iload C dL_law_1474 rfl ?_
      refine j_iconst (v := (nI 1)) C dL_law_1476 rfl ?_
      refine j_iadd (z := (nI (5 * q + 1))) C dL_law_1477 (nI_add _ _) ?_
      refine j_sld (z := (nI i)) C hX hbl hbA (5 * q + 1) rfl (by omega) (by omega) es1 dL_law_1478 ?_
      refine j_callVr C 6 (v := .int (nI 1)) (w := (gW E t sz sg la dk ot mo ou z g b cr ca cg ck 1 os (nI 0) cr ca cg ck ro LL ff)) (g_isThere_k l E A hi hr_i hm_i hf_i hn_i) ok_X5_isThere w_1154 (by decide) rfl rfl (Nat.le_of_ble_eq_true rfl) rfl rfl ⟨by omega, by omega⟩ dL_law_1479 ?_
      refine j_istore (lv' := [(6, .int (nI 1)), (5, .int (nI 0)), (4, .int (nI (5 * q))), (3, .ref ot), (2, .ref mo), (1, .ref dk), (0, .ref bs)]) C dL_law_1482 (by decide) rfl ?_
      refine j_goto (tgt := 1674) C dL_law_1484 (by decide) ?_
      refine j_lv (lv' := [(4, .int (nI (5 * q))), (3, .ref ot), (2, .ref mo), (1, .ref dk), (0, .ref bs)]) (by simp only [List.mem_cons, List.not_mem_nil, or_false, forall_eq_or_imp, forall_eq, true_or, or_true, and_self, Nat.add_zero]) ?_
      refine j_widen (k := cs + 600) (n := sl + 10000) (by omega) (by omega) ?_
      exact kk _ _ _ _ _ _ _ _ _ _ _ _ _ (hR)
  · skip
    refine j_aload_n C dL_law_1459 rfl ?_
    refine j_aload_n C dL_law_1460 rfl ?_
    refine j_iload C dL_law_1461 rfl ?_
    refine j_iconst (v := (nI 1)) C dL_law_1463 rfl ?_
    refine j_iadd (z := (nI (5 * q + 1))) C dL_law_1464 (nI_add _ _) ?_
    refine j_sld (z := x1) C hX hbl hbA (5 * q + 1) rfl (by omega) (by omega) es1 dL_law_1465 ?_
    refine j_aload_n C dL_law_1466 rfl ?_
    refine j_callSH C (w_isThere_jIO l E A (f_isThere_b l hl E A hbx1)) ok_L_isThere w_878 (by decide) rfl rfl (Nat.le_of_ble_eq_true rfl) ⟨by omega, by omega⟩ dL_law_1467 (fun _ _ h => ?_)
    obtain ⟨rfl, rfl⟩ := h
    refine j_istore (lv' := [(5, .int (nI 1)), (4, .int (nI (5 * q))), (3, .ref ot), (2, .ref mo), (1, .ref dk), (0, .ref bs)]) C dL_law_1470 (by decide) rfl ?_
    refine j_aload_n C dL_law_1472 rfl ?_
    refine j_aload_n C dL_law_1473 rfl ?_
    refine j_iload C dL_law_1474 rfl ?_
    refine j_iconst (v := (nI 1)) C dL_law_1476 rfl ?_
    refine j_iadd (z := (nI (5 * q + 1))) C dL_law_1477 (nI_add _ _) ?_
    refine j_sld (z := x1) C hX hbl hbA (5 * q + 1) rfl (by omega) (by omega) es1 dL_law_1478 ?_
    refine j_callVr C 6 (v := .int (nI 0)) (w := (gW E t sz sg la dk ot mo ou z g b cr ca cg ck on os (nI 1) cr ca cg ck ro LL ff)) (g_isThere_b l E A hbx1) ok_X5_isThere w_1154 (by decide) rfl rfl (Nat.le_of_ble_eq_true rfl) rfl rfl ⟨by omega, by omega⟩ dL_law_1479 ?_
    refine j_istore (lv' := [(6, .int (nI 0)), (5, .int (nI 1)), (4, .int (nI (5 * q))), (3, .ref ot), (2, .ref mo), (1, .ref dk), (0, .ref bs)]) C dL_law_1482 (by decide) rfl ?_
    refine j_goto (tgt := 1674) C dL_law_1484 (by decide) ?_
    refine j_lv (lv' := [(4, .int (nI (5 * q))), (3, .ref ot), (2, .ref mo), (1, .ref dk), (0, .ref bs)]) (by simp only [List.mem_cons, List.not_mem_nil, or_false, forall_eq_or_imp, forall_eq, true_or, or_true, and_self, Nat.add_zero]) ?_
    refine j_widen (k := cs + 600) (n := sl + 10000) (by omega) (by omega) ?_
    exact kk _ _ _ _ _ _ _ _ _ _ _ _ _ (hR)
set_option maxHeartbeats 4000000 in
set_option maxRecDepth 100000 in
theorem op_areSame (l : Launch) (hl : l.stackTraces = false) (E : jE) (A : Nat → Prop) {t sz sg la dk ot mo ou : Nat} {z g b : Nat → Int32} {cr ca cg ck : Int32} {on : Int64} {os : Value} {th : Int32} {ro : Nat → Option Nat} {LL : List Nat} {ff : Nat → va_E} {p : Program} {e : Env} {R : Room} {s : State} {m : MethodId} {args : Array Value} {below : List Frame} {meth : Method} {c : Code} {Q : State → Prop} {nn mc ms bs Ln q cs sl : Nat} {xs : Nat → Int32} {x1 x2 x3 x4 : Int32} (C : jC p l e R s m args below meth c x code 7 ret 2000 mc ms E A) (hX : va_X bs Ln xs s s.heap) (hbl : bs < s.heap.size) (hbA : ¬ A bs) (hLn : Ln ≤ 2560) (hq : 5 * q + 5 ≤ Ln) (hmc : cs + 600 ≤ mc) (hms : sl + 10000 ≤ ms) (es1 : xs (5 * q + 1) = x1) (es2 : xs (5 * q + 2) = x2) (es3 : xs (5 * q + 3) = x3) (es4 : xs (5 * q + 4) = x4) (hR : Rel E z g ro LL ff) (kk : ∀ (z' g' b' : Nat → Int32) (cr' ca' cg' ck' : Int32) (on' : Int64) (os' : Value) (th' : Int32) (ro' : Nat → Option Nat) (L' : List Nat) (f' : Nat → va_E), Rel E z' g' ro' L' f' → jJ p l e R s m args below meth c E A 7 Q (cs + 600) (sl + 10000) 1674 [(4, .int (nI (5 * q))), (3, .ref ot), (2, .ref mo), (1, .ref dk), (0, .ref bs)] [] (gW E t sz sg la dk ot mo ou (z') (g') (b') (cr') (ca') (cg') (ck') (on') (os') (th') (cr') (ca') (cg') (ck') (ro') (L') (f'))) : jJ p l e R s m args below meth c E A 7 Q cs sl 1487 [(4, .int (nI (5 * q))), (3, .ref ot), (2, .ref mo), (1, .ref dk), (0, .ref bs)] [] (gW E t sz sg la dk ot mo ou z g b cr ca cg ck on os th cr ca cg ck ro LL ff) := by
  have hT := hR.tx
  rcases seat_cases x1 9 (by decide) with ⟨i, hi, rfl⟩ | hbx1
  · skip
    rcases seat_cases x2 9 (by decide) with ⟨j, hj, rfl⟩ | hbx2
    · skip
      by_cases h0 : samS z g i j = 0
      · skip
        refine j_aload_n C dL_law_1487 rfl ?_
        refine j_aload_n C dL_law_1488 rfl ?_
        refine j_iload C dL_law_1489 rfl ?_
        refine j_iconst (v := (nI 1)) C dL_law_1491 rfl ?_
        refine j_iadd (z := (nI (5 * q + 1))) C dL_law_1492 (nI_add _ _) ?_
        refine j_sld (z := (nI i)) C hX hbl hbA (5 * q + 1) rfl (by omega) (by omega) es1 dL_law_1493 ?_
        refine j_aload_n C dL_law_1494 rfl ?_
        refine j_iload C dL_law_1495 rfl ?_
        refine j_iconst (v := (nI 2)) C dL_law_1497 rfl ?_
        refine j_iadd (z := (nI (5 * q + 2))) C dL_law_1498 (nI_add _ _) ?_
        refine j_sld (z := (nI j)) C hX hbl hbA (5 * q + 2) rfl (by omega) (by omega) es2 dL_law_1499 ?_
        refine j_aload_n C dL_law_1500 rfl ?_
        refine j_callSH C (w_areSame_f l E A (rr := samS z g i j) (h0) (f_areSame_k l E A hi hj hT)) ok_L_areSame w_885 (by decide) rfl rfl (Nat.le_of_ble_eq_true rfl) ⟨by omega, by omega⟩ dL_law_1501 (fun _ _ h => ?_)
        obtain ⟨rfl, rfl⟩ := h
        refine j_istore (lv' := [(5, .int (nI 0)), (4, .int (nI (5 * q))), (3, .ref ot), (2, .ref mo), (1, .ref dk), (0, .ref bs)]) C dL_law_1504 (by decide) rfl ?_
        refine j_aload_n C dL_law_1506 rfl ?_
        refine j_aload_n C dL_law_1507 rfl ?_
        refine j_iload C dL_law_1508 rfl ?_
        refine j_iconst (v := (nI 1)) C dL_law_1510 rfl ?_
        refine j_iadd (z := (nI (5 * q + 1))) C dL_law_1511 (nI_add _ _) ?_
        refine j_sld (z := (nI i)) C hX hbl hbA (5 * q + 1) rfl (by omega) (by omega) es1 dL_law_1512 ?_
        refine j_aload_n C dL_law_1513 rfl ?_
        refine j_iload C dL_law_1514 rfl ?_
        refine j_iconst (v := (nI 2)) C dL_law_1516 rfl ?_
        refine j_iadd (z := (nI (5 * q + 2))) C dL_law_1517 (nI_add _ _) ?_
        refine j_sld (z := (nI j)) C hX hbl hbA (5 * q + 2) rfl (by omega) (by omega) es2 dL_law_1518 ?_
        refine j_callVr C 6 (v := .int (samS z g i j)) (w := (gW E t sz sg la dk ot mo ou z g b cr ca cg ck 0 os (nI 0) cr ca cg ck ro LL ff)) (g_areSame_k l E A hi hj hR) ok_X5_areSame w_1158 (by decide) rfl rfl (Nat.le_of_ble_eq_true rfl) rfl rfl ⟨by omega, by omega⟩ dL_law_1519 ?_
        refine j_istore (lv' := [(6, .int (samS z g i j)), (5, .int (nI 0)), (4, .int (nI (5 * q))), (3, .ref ot), (2, .ref mo), (1, .ref dk), (0, .ref bs)]) C dL_law_1522 (by decide) rfl ?_
        refine j_goto (tgt := 1674) C dL_law_1524 (by decide) ?_
        refine j_lv (lv' := [(4, .int (nI (5 * q))), (3, .ref ot), (2, .ref mo), (1, .ref dk), (0, .ref bs)]) (by simp only [List.mem_cons, List.not_mem_nil, or_false, forall_eq_or_imp, forall_eq, true_or, or_true, and_self, Nat.add_zero]) ?_
        refine j_widen (k := cs + 600) (n := sl + 10000) (by omega) (by omega) ?_
        exact kk _ _ _ _ _ _ _ _ _ _ _ _ _ (hR)
      · skip
        refine j_aload_n C dL_law_1487 rfl ?_
        refine j_aload_n C dL_law_1488 rfl ?_
        refine j_iload C dL_law_1489 rfl ?_
        refine j_iconst (v := (nI 1)) C dL_law_1491 rfl ?_
        refine j_iadd (z := (nI (5 * q + 1))) C dL_law_1492 (nI_add _ _) ?_
        refine j_sld (z := (nI i)) C hX hbl hbA (5 * q + 1) rfl (by omega) (by omega) es1 dL_law_1493 ?_
        refine j_aload_n C dL_law_1494 rfl ?_
        refine j_iload C dL_law_1495 rfl ?_
        refine j_iconst (v := (nI 2)) C dL_law_1497 rfl ?_
        refine j_iadd (z := (nI (5 * q + 2))) C dL_law_1498 (nI_add _ _) ?_
        refine j_sld (z := (nI j)) C hX hbl hbA (5 * q + 2) rfl (by omega) (by omega) es2 dL_law_1499 ?_
        refine j_aload_n C dL_law_1500 rfl ?_
        refine j_callSH C (w_areSame_t l E A (rr := samS z g i j) (h0) (f_areSame_k l E A hi hj hT)) ok_L_areSame w_885 (by decide) rfl rfl (Nat.le_of_ble_eq_true rfl) ⟨by omega, by omega⟩ dL_law_1501 (fun _ _ h => ?_)
        obtain ⟨rfl, rfl⟩ := h
        refine j_istore (lv' := [(5, .int (nI 0)), (4, .int (nI (5 * q))), (3, .ref ot), (2, .ref mo), (1, .ref dk), (0, .ref bs)]) C dL_law_1504 (by decide) rfl ?_
        refine j_aload_n C dL_law_1506 rfl ?_
        refine j_aload_n C dL_law_1507 rfl ?_
        refine j_iload C dL_law_1508 rfl ?_
        refine j_iconst (v := (nI 1)) C dL_law_1510 rfl ?_
        refine j_iadd (z := (nI (5 * q + 1))) C dL_law_1511 (nI_add _ _) ?_
        refine j_sld (z := (nI i)) C hX hbl hbA (5 * q + 1) rfl (by omega) (by omega) es1 dL_law_1512 ?_
        refine j_aload_n C dL_law_1513 rfl ?_
        refine j_iload C dL_law_1514 rfl ?_
        refine j_iconst (v := (nI 2)) C dL_law_1516 rfl ?_
        refine j_iadd (z := (nI (5 * q + 2))) C dL_law_1517 (nI_add _ _) ?_
        refine j_sld (z := (nI j)) C hX hbl hbA (5 * q + 2) rfl (by omega) (by omega) es2 dL_law_1518 ?_
        refine j_callVr C 6 (v := .int (samS z g i j)) (w := (gW E t sz sg la dk ot mo ou z g b cr ca cg ck 1 os (nI 0) cr ca cg ck ro LL ff)) (g_areSame_k l E A hi hj hR) ok_X5_areSame w_1158 (by decide) rfl rfl (Nat.le_of_ble_eq_true rfl) rfl rfl ⟨by omega, by omega⟩ dL_law_1519 ?_
        refine j_istore (lv' := [(6, .int (samS z g i j)), (5, .int (nI 0)), (4, .int (nI (5 * q))), (3, .ref ot), (2, .ref mo), (1, .ref dk), (0, .ref bs)]) C dL_law_1522 (by decide) rfl ?_
        refine j_goto (tgt := 1674) C dL_law_1524 (by decide) ?_
        refine j_lv (lv' := [(4, .int (nI (5 * q))), (3, .ref ot), (2, .ref mo), (1, .ref dk), (0, .ref bs)]) (by simp only [List.mem_cons, List.not_mem_nil, or_false, forall_eq_or_imp, forall_eq, true_or, or_true, and_self, Nat.add_zero]) ?_
        refine j_widen (k := cs + 600) (n := sl + 10000) (by omega) (by omega) ?_
        exact kk _ _ _ _ _ _ _ _ _ _ _ _ _ (hR)
    · skip
      refine j_aload_n C dL_law_1487 rfl ?_
      refine j_aload_n C dL_law_1488 rfl ?_
      refine j_iload C dL_law_1489 rfl ?_
      refine j_iconst (v := (nI 1)) C dL_law_1491 rfl ?_
      refine j_iadd (z := (nI (5 * q + 1))) C dL_law_1492 (nI_add _ _) ?_
      refine j_sld (z := (nI i)) C hX hbl hbA (5 * q + 1) rfl (by omega) (by omega) es1 dL_law_1493 ?_
      refine j_aload_n C dL_law_1494 rfl ?_
      refine j_iload C dL_law_1495 rfl ?_
      refine j_iconst (v := (nI 2)) C dL_law_1497 rfl ?_
      refine j_iadd (z := (nI (5 * q + 2))) C dL_law_1498 (nI_add _ _) ?_
      refine j_sld (z := x2) C hX hbl hbA (5 * q + 2) rfl (by omega) (by omega) es2 dL_law_1499 ?_
      refine j_aload_n C dL_law_1500 rfl ?_
      refine j_callSH C (w_areSame_jIO l E A (f_areSame_b2 l hl E A hi hbx2)) ok_L_areSame w_885 (by decide) rfl rfl (Nat.le_of_ble_eq_true rfl) ⟨by omega, by omega⟩ dL_law_1501 (fun _ _ h => ?_)
      obtain ⟨rfl, rfl⟩ := h
      refine j_istore (lv' := [(5, .int (nI 1)), (4, .int (nI (5 * q))), (3, .ref ot), (2, .ref mo), (1, .ref dk), (0, .ref bs)]) C dL_law_1504 (by decide) rfl ?_
      refine j_aload_n C dL_law_1506 rfl ?_
      refine j_aload_n C dL_law_1507 rfl ?_
      refine j_iload C dL_law_1508 rfl ?_
      refine j_iconst (v := (nI 1)) C dL_law_1510 rfl ?_
      refine j_iadd (z := (nI (5 * q + 1))) C dL_law_1511 (nI_add _ _) ?_
      refine j_sld (z := (nI i)) C hX hbl hbA (5 * q + 1) rfl (by omega) (by omega) es1 dL_law_1512 ?_
      refine j_aload_n C dL_law_1513 rfl ?_
      refine j_iload C dL_law_1514 rfl ?_
      refine j_iconst (v := (nI 2)) C dL_law_1516 rfl ?_
      refine j_iadd (z := (nI (5 * q + 2))) C dL_law_1517 (nI_add _ _) ?_
      refine j_sld (z := x2) C hX hbl hbA (5 * q + 2) rfl (by omega) (by omega) es2 dL_law_1518 ?_
      refine j_callVr C 6 (v := .int (nI 0)) (w := (gW E t sz sg la dk ot mo ou z g b cr ca cg ck on os (nI 1) cr ca cg ck ro LL ff)) (g_areSame_b2 l E A hi hbx2) ok_X5_areSame w_1158 (by decide) rfl rfl (Nat.le_of_ble_eq_true rfl) rfl rfl ⟨by omega, by omega⟩ dL_law_1519 ?_
      refine j_istore (lv' := [(6, .int (nI 0)), (5, .int (nI 1)), (4, .int (nI (5 * q))), (3, .ref ot), (2, .ref mo), (1, .ref dk), (0, .ref bs)]) C dL_law_1522 (by decide) rfl ?_
      refine j_goto (tgt := 1674) C dL_law_1524 (by decide) ?_
      refine j_lv (lv' := [(4, .int (nI (5 * q))), (3, .ref ot), (2, .ref mo), (1, .ref dk), (0, .ref bs)]) (by simp only [List.mem_cons, List.not_mem_nil, or_false, forall_eq_or_imp, forall_eq, true_or, or_true, and_self, Nat.add_zero]) ?_
      refine j_widen (k := cs + 600) (n := sl + 10000) (by omega) (by omega) ?_
      exact kk _ _ _ _ _ _ _ _ _ _ _ _ _ (hR)
  · skip
    refine j_aload_n C dL_law_1487 rfl ?_
    refine j_aload_n C dL_law_1488 rfl ?_
    refine j_iload C dL_law_1489 rfl ?_
    refine j_iconst (v := (nI 1)) C dL_law_1491 rfl ?_
    refine j_iadd (z := (nI (5 * q + 1))) C dL_law_1492 (nI_add _ _) ?_
    refine j_sld (z := x1) C hX hbl hbA (5 * q + 1) rfl (by omega) (by omega) es1 dL_law_1493 ?_
    refine j_aload_n C dL_law_1494 rfl ?_
    refine j_iload C dL_law_1495 rfl ?_
    refine j_iconst (v := (nI 2)) C dL_law_1497 rfl ?_
    refine j_iadd (z := (nI (5 * q + 2))) C dL_law_1498 (nI_add _ _) ?_
    refine j_sld (z := x2) C hX hbl hbA (5 * q + 2) rfl (by omega) (by omega) es2 dL_law_1499 ?_
    refine j_aload_n C dL_law_1500 rfl ?_
    refine j_callSH C (w_areSame_jIO l E A (f_areSame_b1 l hl E A hbx1)) ok_L_areSame w_885 (by decide) rfl rfl (Nat.le_of_ble_eq_true rfl) ⟨by omega, by omega⟩ dL_law_1501 (fun _ _ h => ?_)
    obtain ⟨rfl, rfl⟩ := h
    refine j_istore (lv' := [(5, .int (nI 1)), (4, .int (nI (5 * q))), (3, .ref ot), (2, .ref mo), (1, .ref dk), (0, .ref bs)]) C dL_law_1504 (by decide) rfl ?_
    refine j_aload_n C dL_law_1506 rfl ?_
    refine j_aload_n C dL_law_1507 rfl ?_
    refine j_iload C dL_law_1508 rfl ?_
    refine j_iconst (v := (nI 1)) C dL_law_1510 rfl ?_
    refine j_iadd (z := (nI (5 * q + 1))) C dL_law_1511 (nI_add _ _) ?_
    refine j_sld (z := x1) C hX hbl hbA (5 * q + 1) rfl (by omega) (by omega) es1 dL_law_1512 ?_
    refine j_aload_n C dL_law_1513 rfl ?_
    refine j_iload C dL_law_1514 rfl ?_
    refine j_iconst (v := (nI 2)) C dL_law_1516 rfl ?_
    refine j_iadd (z := (nI (5 * q + 2))) C dL_law_1517 (nI_add _ _) ?_
    refine j_sld (z := x2) C hX hbl hbA (5 * q + 2) rfl (by omega) (by omega) es2 dL_law_1518 ?_
    refine j_callVr C 6 (v := .int (nI 0)) (w := (gW E t sz sg la dk ot mo ou z g b cr ca cg ck on os (nI 1) cr ca cg ck ro LL ff)) (g_areSame_b1 l E A hbx1) ok_X5_areSame w_1158 (by decide) rfl rfl (Nat.le_of_ble_eq_true rfl) rfl rfl ⟨by omega, by omega⟩ dL_law_1519 ?_
    refine j_istore (lv' := [(6, .int (nI 0)), (5, .int (nI 1)), (4, .int (nI (5 * q))), (3, .ref ot), (2, .ref mo), (1, .ref dk), (0, .ref bs)]) C dL_law_1522 (by decide) rfl ?_
    refine j_goto (tgt := 1674) C dL_law_1524 (by decide) ?_
    refine j_lv (lv' := [(4, .int (nI (5 * q))), (3, .ref ot), (2, .ref mo), (1, .ref dk), (0, .ref bs)]) (by simp only [List.mem_cons, List.not_mem_nil, or_false, forall_eq_or_imp, forall_eq, true_or, or_true, and_self, Nat.add_zero]) ?_
    refine j_widen (k := cs + 600) (n := sl + 10000) (by omega) (by omega) ?_
    exact kk _ _ _ _ _ _ _ _ _ _ _ _ _ (hR)
set_option maxHeartbeats 4000000 in
set_option maxRecDepth 100000 in
theorem op_code (l : Launch) (hl : l.stackTraces = false) (E : jE) (A : Nat → Prop) {t sz sg la dk ot mo ou : Nat} {z g b : Nat → Int32} {cr ca cg ck : Int32} {on : Int64} {os : Value} {th : Int32} {ro : Nat → Option Nat} {LL : List Nat} {ff : Nat → va_E} {p : Program} {e : Env} {R : Room} {s : State} {m : MethodId} {args : Array Value} {below : List Frame} {meth : Method} {c : Code} {Q : State → Prop} {nn mc ms bs Ln q cs sl : Nat} {xs : Nat → Int32} {x1 x2 x3 x4 : Int32} (C : jC p l e R s m args below meth c x code 7 ret 2000 mc ms E A) (hX : va_X bs Ln xs s s.heap) (hbl : bs < s.heap.size) (hbA : ¬ A bs) (hLn : Ln ≤ 2560) (hq : 5 * q + 5 ≤ Ln) (hmc : cs + 600 ≤ mc) (hms : sl + 10000 ≤ ms) (es1 : xs (5 * q + 1) = x1) (es2 : xs (5 * q + 2) = x2) (es3 : xs (5 * q + 3) = x3) (es4 : xs (5 * q + 4) = x4) (hR : Rel E z g ro LL ff) (kk : ∀ (z' g' b' : Nat → Int32) (cr' ca' cg' ck' : Int32) (on' : Int64) (os' : Value) (th' : Int32) (ro' : Nat → Option Nat) (L' : List Nat) (f' : Nat → va_E), Rel E z' g' ro' L' f' → jJ p l e R s m args below meth c E A 7 Q (cs + 600) (sl + 10000) 1674 [(4, .int (nI (5 * q))), (3, .ref ot), (2, .ref mo), (1, .ref dk), (0, .ref bs)] [] (gW E t sz sg la dk ot mo ou (z') (g') (b') (cr') (ca') (cg') (ck') (on') (os') (th') (cr') (ca') (cg') (ck') (ro') (L') (f'))) : jJ p l e R s m args below meth c E A 7 Q cs sl 1527 [(4, .int (nI (5 * q))), (3, .ref ot), (2, .ref mo), (1, .ref dk), (0, .ref bs)] [] (gW E t sz sg la dk ot mo ou z g b cr ca cg ck on os th cr ca cg ck ro LL ff) := by
  have hT := hR.tx
  rcases seat_cases x1 9 (by decide) with ⟨i, hi, rfl⟩ | hbx1
  · skip
    refine j_aload_n C dL_law_1527 rfl ?_
    refine j_aload_n C dL_law_1528 rfl ?_
    refine j_iload C dL_law_1529 rfl ?_
    refine j_iconst (v := (nI 1)) C dL_law_1531 rfl ?_
    refine j_iadd (z := (nI (5 * q + 1))) C dL_law_1532 (nI_add _ _) ?_
    refine j_sld (z := (nI i)) C hX hbl hbA (5 * q + 1) rfl (by omega) (by omega) es1 dL_law_1533 ?_
    refine j_aload_n C dL_law_1534 rfl ?_
    refine j_callSH C (w_code_r l E A (rr := codS z g i) (f_code_k l E A hi hT)) ok_L_code w_892 (by decide) rfl rfl (Nat.le_of_ble_eq_true rfl) ⟨by omega, by omega⟩ dL_law_1535 (fun _ _ h => ?_)
    obtain ⟨rfl, rfl⟩ := h
    refine j_istore (lv' := [(5, .int (nI 0)), (4, .int (nI (5 * q))), (3, .ref ot), (2, .ref mo), (1, .ref dk), (0, .ref bs)]) C dL_law_1538 (by decide) rfl ?_
    refine j_aload_n C dL_law_1540 rfl ?_
    refine j_aload_n C dL_law_1541 rfl ?_
    refine j_iload C dL_law_1542 rfl ?_
    refine j_iconst (v := (nI 1)) C dL_law_1544 rfl ?_
    refine j_iadd (z := (nI (5 * q + 1))) C dL_law_1545 (nI_add _ _) ?_
    refine j_sld (z := (nI i)) C hX hbl hbA (5 * q + 1) rfl (by omega) (by omega) es1 dL_law_1546 ?_
    refine j_callVr C 6 (v := .int (codS z g i)) (w := (gW E t sz sg la dk ot mo ou z g b cr ca cg ck ((codS z g i).toInt64) os (nI 0) cr ca cg ck ro LL ff)) (g_code_k l E A hi hR) ok_X5_code w_1166 (by decide) rfl rfl (Nat.le_of_ble_eq_true rfl) rfl rfl ⟨by omega, by omega⟩ dL_law_1547 ?_
    refine j_istore (lv' := [(6, .int (codS z g i)), (5, .int (nI 0)), (4, .int (nI (5 * q))), (3, .ref ot), (2, .ref mo), (1, .ref dk), (0, .ref bs)]) C dL_law_1550 (by decide) rfl ?_
    refine j_goto (tgt := 1674) C dL_law_1552 (by decide) ?_
    refine j_lv (lv' := [(4, .int (nI (5 * q))), (3, .ref ot), (2, .ref mo), (1, .ref dk), (0, .ref bs)]) (by simp only [List.mem_cons, List.not_mem_nil, or_false, forall_eq_or_imp, forall_eq, true_or, or_true, and_self, Nat.add_zero]) ?_
    refine j_widen (k := cs + 600) (n := sl + 10000) (by omega) (by omega) ?_
    exact kk _ _ _ _ _ _ _ _ _ _ _ _ _ (hR)
  · skip
    refine j_aload_n C dL_law_1527 rfl ?_
    refine j_aload_n C dL_law_1528 rfl ?_
    refine j_iload C dL_law_1529 rfl ?_
    refine j_iconst (v := (nI 1)) C dL_law_1531 rfl ?_
    refine j_iadd (z := (nI (5 * q + 1))) C dL_law_1532 (nI_add _ _) ?_
    refine j_sld (z := x1) C hX hbl hbA (5 * q + 1) rfl (by omega) (by omega) es1 dL_law_1533 ?_
    refine j_aload_n C dL_law_1534 rfl ?_
    refine j_callSH C (w_code_jIO l E A (f_code_b l hl E A hbx1)) ok_L_code w_892 (by decide) rfl rfl (Nat.le_of_ble_eq_true rfl) ⟨by omega, by omega⟩ dL_law_1535 (fun _ _ h => ?_)
    obtain ⟨rfl, rfl⟩ := h
    refine j_istore (lv' := [(5, .int (nI 1)), (4, .int (nI (5 * q))), (3, .ref ot), (2, .ref mo), (1, .ref dk), (0, .ref bs)]) C dL_law_1538 (by decide) rfl ?_
    refine j_aload_n C dL_law_1540 rfl ?_
    refine j_aload_n C dL_law_1541 rfl ?_
    refine j_iload C dL_law_1542 rfl ?_
    refine j_iconst (v := (nI 1)) C dL_law_1544 rfl ?_
    refine j_iadd (z := (nI (5 * q + 1))) C dL_law_1545 (nI_add _ _) ?_
    refine j_sld (z := x1) C hX hbl hbA (5 * q + 1) rfl (by omega) (by omega) es1 dL_law_1546 ?_
    refine j_callVr C 6 (v := .int (nI 0)) (w := (gW E t sz sg la dk ot mo ou z g b cr ca cg ck on os (nI 1) cr ca cg ck ro LL ff)) (g_code_b l E A hbx1) ok_X5_code w_1166 (by decide) rfl rfl (Nat.le_of_ble_eq_true rfl) rfl rfl ⟨by omega, by omega⟩ dL_law_1547 ?_
    refine j_istore (lv' := [(6, .int (nI 0)), (5, .int (nI 1)), (4, .int (nI (5 * q))), (3, .ref ot), (2, .ref mo), (1, .ref dk), (0, .ref bs)]) C dL_law_1550 (by decide) rfl ?_
    refine j_goto (tgt := 1674) C dL_law_1552 (by decide) ?_
    refine j_lv (lv' := [(4, .int (nI (5 * q))), (3, .ref ot), (2, .ref mo), (1, .ref dk), (0, .ref bs)]) (by simp only [List.mem_cons, List.not_mem_nil, or_false, forall_eq_or_imp, forall_eq, true_or, or_true, and_self, Nat.add_zero]) ?_
    refine j_widen (k := cs + 600) (n := sl + 10000) (by omega) (by omega) ?_
    exact kk _ _ _ _ _ _ _ _ _ _ _ _ _ (hR)
set_option maxHeartbeats 4000000 in
set_option maxRecDepth 100000 in
theorem op_codes (l : Launch) (hl : l.stackTraces = false) (E : jE) (A : Nat → Prop) {t sz sg la dk ot mo ou : Nat} {z g b : Nat → Int32} {cr ca cg ck : Int32} {on : Int64} {os : Value} {th : Int32} {ro : Nat → Option Nat} {LL : List Nat} {ff : Nat → va_E} {p : Program} {e : Env} {R : Room} {s : State} {m : MethodId} {args : Array Value} {below : List Frame} {meth : Method} {c : Code} {Q : State → Prop} {nn mc ms bs Ln q cs sl : Nat} {xs : Nat → Int32} {x1 x2 x3 x4 : Int32} (C : jC p l e R s m args below meth c x code 7 ret 2000 mc ms E A) (hX : va_X bs Ln xs s s.heap) (hbl : bs < s.heap.size) (hbA : ¬ A bs) (hLn : Ln ≤ 2560) (hq : 5 * q + 5 ≤ Ln) (hmc : cs + 600 ≤ mc) (hms : sl + 10000 ≤ ms) (es1 : xs (5 * q + 1) = x1) (es2 : xs (5 * q + 2) = x2) (es3 : xs (5 * q + 3) = x3) (es4 : xs (5 * q + 4) = x4) (hR : Rel E z g ro LL ff) (kk : ∀ (z' g' b' : Nat → Int32) (cr' ca' cg' ck' : Int32) (on' : Int64) (os' : Value) (th' : Int32) (ro' : Nat → Option Nat) (L' : List Nat) (f' : Nat → va_E), Rel E z' g' ro' L' f' → jJ p l e R s m args below meth c E A 7 Q (cs + 600) (sl + 10000) 1674 [(4, .int (nI (5 * q))), (3, .ref ot), (2, .ref mo), (1, .ref dk), (0, .ref bs)] [] (gW E t sz sg la dk ot mo ou (z') (g') (b') (cr') (ca') (cg') (ck') (on') (os') (th') (cr') (ca') (cg') (ck') (ro') (L') (f'))) : jJ p l e R s m args below meth c E A 7 Q cs sl 1555 [(4, .int (nI (5 * q))), (3, .ref ot), (2, .ref mo), (1, .ref dk), (0, .ref bs)] [] (gW E t sz sg la dk ot mo ou z g b cr ca cg ck on os th cr ca cg ck ro LL ff) := by
  have hT := hR.tx
  rcases seat_cases x1 9 (by decide) with ⟨i, hi, rfl⟩ | hbx1
  · skip
    rcases seat_cases x2 9 (by decide) with ⟨j, hj, rfl⟩ | hbx2
    · skip
      rcases seat_cases x3 9 (by decide) with ⟨k, hk, rfl⟩ | hbx3
      · skip
        refine j_aload_n C dL_law_1555 rfl ?_
        refine j_aload_n C dL_law_1556 rfl ?_
        refine j_iload C dL_law_1557 rfl ?_
        refine j_iconst (v := (nI 1)) C dL_law_1559 rfl ?_
        refine j_iadd (z := (nI (5 * q + 1))) C dL_law_1560 (nI_add _ _) ?_
        refine j_sld (z := (nI i)) C hX hbl hbA (5 * q + 1) rfl (by omega) (by omega) es1 dL_law_1561 ?_
        refine j_aload_n C dL_law_1562 rfl ?_
        refine j_iload C dL_law_1563 rfl ?_
        refine j_iconst (v := (nI 2)) C dL_law_1565 rfl ?_
        refine j_iadd (z := (nI (5 * q + 2))) C dL_law_1566 (nI_add _ _) ?_
        refine j_sld (z := (nI j)) C hX hbl hbA (5 * q + 2) rfl (by omega) (by omega) es2 dL_law_1567 ?_
        refine j_aload_n C dL_law_1568 rfl ?_
        refine j_iload C dL_law_1569 rfl ?_
        refine j_iconst (v := (nI 3)) C dL_law_1571 rfl ?_
        refine j_iadd (z := (nI (5 * q + 3))) C dL_law_1572 (nI_add _ _) ?_
        refine j_sld (z := (nI k)) C hX hbl hbA (5 * q + 3) rfl (by omega) (by omega) es3 dL_law_1573 ?_
        refine j_aload_n C dL_law_1574 rfl ?_
        refine j_callSH C (w_codes_r l E A (rr := cod3 (codS z g i) (codS z g j) (codS z g k)) (f_codes_k l E A hi hj hk hT)) ok_L_codes w_899 (by decide) rfl rfl (Nat.le_of_ble_eq_true rfl) ⟨by omega, by omega⟩ dL_law_1575 (fun _ _ h => ?_)
        obtain ⟨rfl, rfl⟩ := h
        refine j_istore (lv' := [(5, .int (nI 0)), (4, .int (nI (5 * q))), (3, .ref ot), (2, .ref mo), (1, .ref dk), (0, .ref bs)]) C dL_law_1578 (by decide) rfl ?_
        refine j_aload_n C dL_law_1580 rfl ?_
        refine j_aload_n C dL_law_1581 rfl ?_
        refine j_iload C dL_law_1582 rfl ?_
        refine j_iconst (v := (nI 1)) C dL_law_1584 rfl ?_
        refine j_iadd (z := (nI (5 * q + 1))) C dL_law_1585 (nI_add _ _) ?_
        refine j_sld (z := (nI i)) C hX hbl hbA (5 * q + 1) rfl (by omega) (by omega) es1 dL_law_1586 ?_
        refine j_aload_n C dL_law_1587 rfl ?_
        refine j_iload C dL_law_1588 rfl ?_
        refine j_iconst (v := (nI 2)) C dL_law_1590 rfl ?_
        refine j_iadd (z := (nI (5 * q + 2))) C dL_law_1591 (nI_add _ _) ?_
        refine j_sld (z := (nI j)) C hX hbl hbA (5 * q + 2) rfl (by omega) (by omega) es2 dL_law_1592 ?_
        refine j_aload_n C dL_law_1593 rfl ?_
        refine j_iload C dL_law_1594 rfl ?_
        refine j_iconst (v := (nI 3)) C dL_law_1596 rfl ?_
        refine j_iadd (z := (nI (5 * q + 3))) C dL_law_1597 (nI_add _ _) ?_
        refine j_sld (z := (nI k)) C hX hbl hbA (5 * q + 3) rfl (by omega) (by omega) es3 dL_law_1598 ?_
        refine j_callVr C 6 (v := .int (cod3 (codS z g i) (codS z g j) (codS z g k))) (w := (gW E t sz sg la dk ot mo ou z g b cr ca cg ck ((cod3 (codS z g i) (codS z g j) (codS z g k)).toInt64) os (nI 0) cr ca cg ck ro LL ff)) (g_codes_k l E A hi hj hk hR) ok_X5_codes w_1173 (by decide) rfl rfl (Nat.le_of_ble_eq_true rfl) rfl rfl ⟨by omega, by omega⟩ dL_law_1599 ?_
        refine j_istore (lv' := [(6, .int (cod3 (codS z g i) (codS z g j) (codS z g k))), (5, .int (nI 0)), (4, .int (nI (5 * q))), (3, .ref ot), (2, .ref mo), (1, .ref dk), (0, .ref bs)]) C dL_law_1602 (by decide) rfl ?_
        refine j_goto (tgt := 1674) C dL_law_1604 (by decide) ?_
        refine j_lv (lv' := [(4, .int (nI (5 * q))), (3, .ref ot), (2, .ref mo), (1, .ref dk), (0, .ref bs)]) (by simp only [List.mem_cons, List.not_mem_nil, or_false, forall_eq_or_imp, forall_eq, true_or, or_true, and_self, Nat.add_zero]) ?_
        refine j_widen (k := cs + 600) (n := sl + 10000) (by omega) (by omega) ?_
        exact kk _ _ _ _ _ _ _ _ _ _ _ _ _ (hR)
      · skip
        refine j_aload_n C dL_law_1555 rfl ?_
        refine j_aload_n C dL_law_1556 rfl ?_
        refine j_iload C dL_law_1557 rfl ?_
        refine j_iconst (v := (nI 1)) C dL_law_1559 rfl ?_
        refine j_iadd (z := (nI (5 * q + 1))) C dL_law_1560 (nI_add _ _) ?_
        refine j_sld (z := (nI i)) C hX hbl hbA (5 * q + 1) rfl (by omega) (by omega) es1 dL_law_1561 ?_
        refine j_aload_n C dL_law_1562 rfl ?_
        refine j_iload C dL_law_1563 rfl ?_
        refine j_iconst (v := (nI 2)) C dL_law_1565 rfl ?_
        refine j_iadd (z := (nI (5 * q + 2))) C dL_law_1566 (nI_add _ _) ?_
        refine j_sld (z := (nI j)) C hX hbl hbA (5 * q + 2) rfl (by omega) (by omega) es2 dL_law_1567 ?_
        refine j_aload_n C dL_law_1568 rfl ?_
        refine j_iload C dL_law_1569 rfl ?_
        refine j_iconst (v := (nI 3)) C dL_law_1571 rfl ?_
        refine j_iadd (z := (nI (5 * q + 3))) C dL_law_1572 (nI_add _ _) ?_
        refine j_sld (z := x3) C hX hbl hbA (5 * q + 3) rfl (by omega) (by omega) es3 dL_law_1573 ?_
        refine j_aload_n C dL_law_1574 rfl ?_
        refine j_callSH C (w_codes_jIO l E A (f_codes_b3 l hl E A hi hj hbx3)) ok_L_codes w_899 (by decide) rfl rfl (Nat.le_of_ble_eq_true rfl) ⟨by omega, by omega⟩ dL_law_1575 (fun _ _ h => ?_)
        obtain ⟨rfl, rfl⟩ := h
        refine j_istore (lv' := [(5, .int (nI 1)), (4, .int (nI (5 * q))), (3, .ref ot), (2, .ref mo), (1, .ref dk), (0, .ref bs)]) C dL_law_1578 (by decide) rfl ?_
        refine j_aload_n C dL_law_1580 rfl ?_
        refine j_aload_n C dL_law_1581 rfl ?_
        refine j_iload C dL_law_1582 rfl ?_
        refine j_iconst (v := (nI 1)) C dL_law_1584 rfl ?_
        refine j_iadd (z := (nI (5 * q + 1))) C dL_law_1585 (nI_add _ _) ?_
        refine j_sld (z := (nI i)) C hX hbl hbA (5 * q + 1) rfl (by omega) (by omega) es1 dL_law_1586 ?_
        refine j_aload_n C dL_law_1587 rfl ?_
        refine j_iload C dL_law_1588 rfl ?_
        refine j_iconst (v := (nI 2)) C dL_law_1590 rfl ?_
        refine j_iadd (z := (nI (5 * q + 2))) C dL_law_1591 (nI_add _ _) ?_
        refine j_sld (z := (nI j)) C hX hbl hbA (5 * q + 2) rfl (by omega) (by omega) es2 dL_law_1592 ?_
        refine j_aload_n C dL_law_1593 rfl ?_
        refine j_iload C dL_law_1594 rfl ?_
        refine j_iconst (v := (nI 3)) C dL_law_1596 rfl ?_
        refine j_iadd (z := (nI (5 * q + 3))) C dL_law_1597 (nI_add _ _) ?_
        refine j_sld (z := x3) C hX hbl hbA (5 * q + 3) rfl (by omega) (by omega) es3 dL_law_1598 ?_
        refine j_callVr C 6 (v := .int (nI 0)) (w := (gW E t sz sg la dk ot mo ou z g b cr ca cg ck on os (nI 1) cr ca cg ck ro LL ff)) (g_codes_b3 l E A hi hj hbx3) ok_X5_codes w_1173 (by decide) rfl rfl (Nat.le_of_ble_eq_true rfl) rfl rfl ⟨by omega, by omega⟩ dL_law_1599 ?_
        refine j_istore (lv' := [(6, .int (nI 0)), (5, .int (nI 1)), (4, .int (nI (5 * q))), (3, .ref ot), (2, .ref mo), (1, .ref dk), (0, .ref bs)]) C dL_law_1602 (by decide) rfl ?_
        refine j_goto (tgt := 1674) C dL_law_1604 (by decide) ?_
        refine j_lv (lv' := [(4, .int (nI (5 * q))), (3, .ref ot), (2, .ref mo), (1, .ref dk), (0, .ref bs)]) (by simp only [List.mem_cons, List.not_mem_nil, or_false, forall_eq_or_imp, forall_eq, true_or, or_true, and_self, Nat.add_zero]) ?_
        refine j_widen (k := cs + 600) (n := sl + 10000) (by omega) (by omega) ?_
        exact kk _ _ _ _ _ _ _ _ _ _ _ _ _ (hR)
    · skip
      refine j_aload_n C dL_law_1555 rfl ?_
      refine j_aload_n C dL_law_1556 rfl ?_
      refine j_iload C dL_law_1557 rfl ?_
      refine j_iconst (v := (nI 1)) C dL_law_1559 rfl ?_
      refine j_iadd (z := (nI (5 * q + 1))) C dL_law_1560 (nI_add _ _) ?_
      refine j_sld (z := (nI i)) C hX hbl hbA (5 * q + 1) rfl (by omega) (by omega) es1 dL_law_1561 ?_
      refine j_aload_n C dL_law_1562 rfl ?_
      refine j_iload C dL_law_1563 rfl ?_
      refine j_iconst (v := (nI 2)) C dL_law_1565 rfl ?_
      refine j_iadd (z := (nI (5 * q + 2))) C dL_law_1566 (nI_add _ _) ?_
      refine j_sld (z := x2) C hX hbl hbA (5 * q + 2) rfl (by omega) (by omega) es2 dL_law_1567 ?_
      refine j_aload_n C dL_law_1568 rfl ?_
      refine j_iload C dL_law_1569 rfl ?_
      refine j_iconst (v := (nI 3)) C dL_law_1571 rfl ?_
      refine j_iadd (z := (nI (5 * q + 3))) C dL_law_1572 (nI_add _ _) ?_
      refine j_sld (z := x3) C hX hbl hbA (5 * q + 3) rfl (by omega) (by omega) es3 dL_law_1573 ?_
      refine j_aload_n C dL_law_1574 rfl ?_
      refine j_callSH C (w_codes_jIO l E A (f_codes_b2 l hl E A hi hbx2)) ok_L_codes w_899 (by decide) rfl rfl (Nat.le_of_ble_eq_true rfl) ⟨by omega, by omega⟩ dL_law_1575 (fun _ _ h => ?_)
      obtain ⟨rfl, rfl⟩ := h
      refine j_istore (lv' := [(5, .int (nI 1)), (4, .int (nI (5 * q))), (3, .ref ot), (2, .ref mo), (1, .ref dk), (0, .ref bs)]) C dL_law_1578 (by decide) rfl ?_
      refine j_aload_n C dL_law_1580 rfl ?_
      refine j_aload_n C dL_law_1581 rfl ?_
      refine j_iload C dL_law_1582 rfl ?_
      refine j_iconst (v := (nI 1)) C dL_law_1584 rfl ?_
      refine j_iadd (z := (nI (5 * q + 1))) C dL_law_1585 (nI_add _ _) ?_
      refine j_sld (z := (nI i)) C hX hbl hbA (5 * q + 1) rfl (by omega) (by omega) es1 dL_law_1586 ?_
      refine j_aload_n C dL_law_1587 rfl ?_
      refine j_iload C dL_law_1588 rfl ?_
      refine j_iconst (v := (nI 2)) C dL_law_1590 rfl ?_
      refine j_iadd (z := (nI (5 * q + 2))) C dL_law_1591 (nI_add _ _) ?_
      refine j_sld (z := x2) C hX hbl hbA (5 * q + 2) rfl (by omega) (by omega) es2 dL_law_1592 ?_
      refine j_aload_n C dL_law_1593 rfl ?_
      refine j_iload C dL_law_1594 rfl ?_
      refine j_iconst (v := (nI 3)) C dL_law_1596 rfl ?_
      refine j_iadd (z := (nI (5 * q + 3))) C dL_law_1597 (nI_add _ _) ?_
      refine j_sld (z := x3) C hX hbl hbA (5 * q + 3) rfl (by omega) (by omega) es3 dL_law_1598 ?_
      refine j_callVr C 6 (v := .int (nI 0)) (w := (gW E t sz sg la dk ot mo ou z g b cr ca cg ck on os (nI 1) cr ca cg ck ro LL ff)) (g_codes_b2 l E A hi hbx2) ok_X5_codes w_1173 (by decide) rfl rfl (Nat.le_of_ble_eq_true rfl) rfl rfl ⟨by omega, by omega⟩ dL_law_1599 ?_
      refine j_istore (lv' := [(6, .int (nI 0)), (5, .int (nI 1)), (4, .int (nI (5 * q))), (3, .ref ot), (2, .ref mo), (1, .ref dk), (0, .ref bs)]) C dL_law_1602 (by decide) rfl ?_
      refine j_goto (tgt := 1674) C dL_law_1604 (by decide) ?_
      refine j_lv (lv' := [(4, .int (nI (5 * q))), (3, .ref ot), (2, .ref mo), (1, .ref dk), (0, .ref bs)]) (by simp only [List.mem_cons, List.not_mem_nil, or_false, forall_eq_or_imp, forall_eq, true_or, or_true, and_self, Nat.add_zero]) ?_
      refine j_widen (k := cs + 600) (n := sl + 10000) (by omega) (by omega) ?_
      exact kk _ _ _ _ _ _ _ _ _ _ _ _ _ (hR)
  · skip
    refine j_aload_n C dL_law_1555 rfl ?_
    refine j_aload_n C dL_law_1556 rfl ?_
    refine j_iload C dL_law_1557 rfl ?_
    refine j_iconst (v := (nI 1)) C dL_law_1559 rfl ?_
    refine j_iadd (z := (nI (5 * q + 1))) C dL_law_1560 (nI_add _ _) ?_
    refine j_sld (z := x1) C hX hbl hbA (5 * q + 1) rfl (by omega) (by omega) es1 dL_law_1561 ?_
    refine j_aload_n C dL_law_1562 rfl ?_
    refine j_iload C dL_law_1563 rfl ?_
    refine j_iconst (v := (nI 2)) C dL_law_1565 rfl ?_
    refine j_iadd (z := (nI (5 * q + 2))) C dL_law_1566 (nI_add _ _) ?_
    refine j_sld (z := x2) C hX hbl hbA (5 * q + 2) rfl (by omega) (by omega) es2 dL_law_1567 ?_
    refine j_aload_n C dL_law_1568 rfl ?_
    refine j_iload C dL_law_1569 rfl ?_
    refine j_iconst (v := (nI 3)) C dL_law_1571 rfl ?_
    refine j_iadd (z := (nI (5 * q + 3))) C dL_law_1572 (nI_add _ _) ?_
    refine j_sld (z := x3) C hX hbl hbA (5 * q + 3) rfl (by omega) (by omega) es3 dL_law_1573 ?_
    refine j_aload_n C dL_law_1574 rfl ?_
    refine j_callSH C (w_codes_jIO l E A (f_codes_b1 l hl E A hbx1)) ok_L_codes w_899 (by decide) rfl rfl (Nat.le_of_ble_eq_true rfl) ⟨by omega, by omega⟩ dL_law_1575 (fun _ _ h => ?_)
    obtain ⟨rfl, rfl⟩ := h
    refine j_istore (lv' := [(5, .int (nI 1)), (4, .int (nI (5 * q))), (3, .ref ot), (2, .ref mo), (1, .ref dk), (0, .ref bs)]) C dL_law_1578 (by decide) rfl ?_
    refine j_aload_n C dL_law_1580 rfl ?_
    refine j_aload_n C dL_law_1581 rfl ?_
    refine j_iload C dL_law_1582 rfl ?_
    refine j_iconst (v := (nI 1)) C dL_law_1584 rfl ?_
    refine j_iadd (z := (nI (5 * q + 1))) C dL_law_1585 (nI_add _ _) ?_
    refine j_sld (z := x1) C hX hbl hbA (5 * q + 1) rfl (by omega) (by omega) es1 dL_law_1586 ?_
    refine j_aload_n C dL_law_1587 rfl ?_
    refine j_iload C dL_law_1588 rfl ?_
    refine j_iconst (v := (nI 2)) C dL_law_1590 rfl ?_
    refine j_iadd (z := (nI (5 * q + 2))) C dL_law_1591 (nI_add _ _) ?_
    refine j_sld (z := x2) C hX hbl hbA (5 * q + 2) rfl (by omega) (by omega) es2 dL_law_1592 ?_
    refine j_aload_n C dL_law_1593 rfl ?_
    refine j_iload C dL_law_1594 rfl ?_
    refine j_iconst (v := (nI 3)) C dL_law_1596 rfl ?_
    refine j_iadd (z := (nI (5 * q + 3))) C dL_law_1597 (nI_add _ _) ?_
    refine j_sld (z := x3) C hX hbl hbA (5 * q + 3) rfl (by omega) (by omega) es3 dL_law_1598 ?_
    refine j_callVr C 6 (v := .int (nI 0)) (w := (gW E t sz sg la dk ot mo ou z g b cr ca cg ck on os (nI 1) cr ca cg ck ro LL ff)) (g_codes_b1 l E A hbx1) ok_X5_codes w_1173 (by decide) rfl rfl (Nat.le_of_ble_eq_true rfl) rfl rfl ⟨by omega, by omega⟩ dL_law_1599 ?_
    refine j_istore (lv' := [(6, .int (nI 0)), (5, .int (nI 1)), (4, .int (nI (5 * q))), (3, .ref ot), (2, .ref mo), (1, .ref dk), (0, .ref bs)]) C dL_law_1602 (by decide) rfl ?_
    refine j_goto (tgt := 1674) C dL_law_1604 (by decide) ?_
    refine j_lv (lv' := [(4, .int (nI (5 * q))), (3, .ref ot), (2, .ref mo), (1, .ref dk), (0, .ref bs)]) (by simp only [List.mem_cons, List.not_mem_nil, or_false, forall_eq_or_imp, forall_eq, true_or, or_true, and_self, Nat.add_zero]) ?_
    refine j_widen (k := cs + 600) (n := sl + 10000) (by omega) (by omega) ?_
    exact kk _ _ _ _ _ _ _ _ _ _ _ _ _ (hR)
set_option maxHeartbeats 4000000 in
set_option maxRecDepth 100000 in
theorem op_knock (l : Launch) (hl : l.stackTraces = false) (E : jE) (A : Nat → Prop) {t sz sg la dk ot mo ou : Nat} {z g b : Nat → Int32} {cr ca cg ck : Int32} {on : Int64} {os : Value} {th : Int32} {ro : Nat → Option Nat} {LL : List Nat} {ff : Nat → va_E} {p : Program} {e : Env} {R : Room} {s : State} {m : MethodId} {args : Array Value} {below : List Frame} {meth : Method} {c : Code} {Q : State → Prop} {nn mc ms bs Ln q cs sl : Nat} {xs : Nat → Int32} {x1 x2 x3 x4 : Int32} (C : jC p l e R s m args below meth c x code 7 ret 2000 mc ms E A) (hX : va_X bs Ln xs s s.heap) (hbl : bs < s.heap.size) (hbA : ¬ A bs) (hLn : Ln ≤ 2560) (hq : 5 * q + 5 ≤ Ln) (hmc : cs + 600 ≤ mc) (hms : sl + 10000 ≤ ms) (es1 : xs (5 * q + 1) = x1) (es2 : xs (5 * q + 2) = x2) (es3 : xs (5 * q + 3) = x3) (es4 : xs (5 * q + 4) = x4) (hR : Rel E z g ro LL ff) (kk : ∀ (z' g' b' : Nat → Int32) (cr' ca' cg' ck' : Int32) (on' : Int64) (os' : Value) (th' : Int32) (ro' : Nat → Option Nat) (L' : List Nat) (f' : Nat → va_E), Rel E z' g' ro' L' f' → jJ p l e R s m args below meth c E A 7 Q (cs + 600) (sl + 10000) 1674 [(4, .int (nI (5 * q))), (3, .ref ot), (2, .ref mo), (1, .ref dk), (0, .ref bs)] [] (gW E t sz sg la dk ot mo ou (z') (g') (b') (cr') (ca') (cg') (ck') (on') (os') (th') (cr') (ca') (cg') (ck') (ro') (L') (f'))) : jJ p l e R s m args below meth c E A 7 Q cs sl 1607 [(4, .int (nI (5 * q))), (3, .ref ot), (2, .ref mo), (1, .ref dk), (0, .ref bs)] [] (gW E t sz sg la dk ot mo ou z g b cr ca cg ck on os th cr ca cg ck ro LL ff) := by
  have hT := hR.tx
  refine j_aload_n C dL_law_1607 rfl ?_
  refine j_callVr C 4 (v := .int (ck + nI 1)) (w := (gW E t sz sg la dk ot mo ou z g b cr ca cg (ck + nI 1) on os th cr ca cg ck ro LL ff)) (f_knock_k l E A) ok_X3_knock w_130 (by decide) rfl rfl (Nat.le_of_ble_eq_true rfl) rfl rfl ⟨by omega, by omega⟩ dL_law_1608 ?_
  refine j_pop C dL_law_1611 rfl ?_
  refine j_aload_n C dL_law_1612 rfl ?_
  refine j_callVr C 6 (v := .int (ck + nI 1)) (w := (gW E t sz sg la dk ot mo ou z g b cr ca cg (ck + nI 1) on os (nI 0) cr ca cg (ck + nI 1) ro LL ff)) (g_knock_k l E A) ok_X5_knock w_1181 (by decide) rfl rfl (Nat.le_of_ble_eq_true rfl) rfl rfl ⟨by omega, by omega⟩ dL_law_1613 ?_
  refine j_pop C dL_law_1616 rfl ?_
  refine j_goto (tgt := 1674) C dL_law_1617 (by decide) ?_
  refine j_lv (lv' := [(4, .int (nI (5 * q))), (3, .ref ot), (2, .ref mo), (1, .ref dk), (0, .ref bs)]) (by simp only [List.mem_cons, List.not_mem_nil, or_false, forall_eq_or_imp, forall_eq, true_or, or_true, and_self, Nat.add_zero]) ?_
  refine j_widen (k := cs + 600) (n := sl + 10000) (by omega) (by omega) ?_
  exact kk _ _ _ _ _ _ _ _ _ _ _ _ _ (hR)
set_option maxHeartbeats 4000000 in
set_option maxRecDepth 100000 in
theorem op_house (l : Launch) (hl : l.stackTraces = false) (E : jE) (A : Nat → Prop) {t sz sg la dk ot mo ou : Nat} {z g b : Nat → Int32} {cr ca cg ck : Int32} {on : Int64} {os : Value} {th : Int32} {ro : Nat → Option Nat} {LL : List Nat} {ff : Nat → va_E} {p : Program} {e : Env} {R : Room} {s : State} {m : MethodId} {args : Array Value} {below : List Frame} {meth : Method} {c : Code} {Q : State → Prop} {nn mc ms bs Ln q cs sl : Nat} {xs : Nat → Int32} {x1 x2 x3 x4 : Int32} (C : jC p l e R s m args below meth c x code 7 ret 2000 mc ms E A) (hX : va_X bs Ln xs s s.heap) (hbl : bs < s.heap.size) (hbA : ¬ A bs) (hLn : Ln ≤ 2560) (hq : 5 * q + 5 ≤ Ln) (hmc : cs + 600 ≤ mc) (hms : sl + 10000 ≤ ms) (es1 : xs (5 * q + 1) = x1) (es2 : xs (5 * q + 2) = x2) (es3 : xs (5 * q + 3) = x3) (es4 : xs (5 * q + 4) = x4) (hR : Rel E z g ro LL ff) (kk : ∀ (z' g' b' : Nat → Int32) (cr' ca' cg' ck' : Int32) (on' : Int64) (os' : Value) (th' : Int32) (ro' : Nat → Option Nat) (L' : List Nat) (f' : Nat → va_E), Rel E z' g' ro' L' f' → jJ p l e R s m args below meth c E A 7 Q (cs + 600) (sl + 10000) 1674 [(4, .int (nI (5 * q))), (3, .ref ot), (2, .ref mo), (1, .ref dk), (0, .ref bs)] [] (gW E t sz sg la dk ot mo ou (z') (g') (b') (cr') (ca') (cg') (ck') (on') (os') (th') (cr') (ca') (cg') (ck') (ro') (L') (f'))) : jJ p l e R s m args below meth c E A 7 Q cs sl 1620 [(4, .int (nI (5 * q))), (3, .ref ot), (2, .ref mo), (1, .ref dk), (0, .ref bs)] [] (gW E t sz sg la dk ot mo ou z g b cr ca cg ck on os th cr ca cg ck ro LL ff) := by
  have hT := hR.tx
  rcases upto_cases x1 5 (by decide) with ⟨i, hi, rfl⟩ | hbx1
  · skip
    refine j_aload_n C dL_law_1620 rfl ?_
    refine j_aload_n C dL_law_1621 rfl ?_
    refine j_iload C dL_law_1622 rfl ?_
    refine j_iconst (v := (nI 1)) C dL_law_1624 rfl ?_
    refine j_iadd (z := (nI (5 * q + 1))) C dL_law_1625 (nI_add _ _) ?_
    refine j_sld (z := (nI i)) C hX hbl hbA (5 * q + 1) rfl (by omega) (by omega) es1 dL_law_1626 ?_
    refine j_aload_n C dL_law_1627 rfl ?_
    refine j_callSH C (w_house_r l E A (rr := telV z cr ca cg ck i) (f_house_k l E A hi hT)) ok_L_house w_906 (by decide) rfl rfl (Nat.le_of_ble_eq_true rfl) ⟨by omega, by omega⟩ dL_law_1628 (fun _ _ h => ?_)
    obtain ⟨rfl, rfl⟩ := h
    refine j_istore (lv' := [(5, .int (nI 0)), (4, .int (nI (5 * q))), (3, .ref ot), (2, .ref mo), (1, .ref dk), (0, .ref bs)]) C dL_law_1631 (by decide) rfl ?_
    refine j_aload_n C dL_law_1633 rfl ?_
    refine j_aload_n C dL_law_1634 rfl ?_
    refine j_iload C dL_law_1635 rfl ?_
    refine j_iconst (v := (nI 1)) C dL_law_1637 rfl ?_
    refine j_iadd (z := (nI (5 * q + 1))) C dL_law_1638 (nI_add _ _) ?_
    refine j_sld (z := (nI i)) C hX hbl hbA (5 * q + 1) rfl (by omega) (by omega) es1 dL_law_1639 ?_
    refine j_callV C (q0 := 6) (g_house_k l E A hi hR) ok_X5_house w_1185 (by decide) rfl rfl (Nat.le_of_ble_eq_true rfl) rfl rfl ⟨by omega, by omega⟩ dL_law_1640 (fun _ _ h => h.elim) (fun _ _ h => ?_)
    obtain ⟨qa, hh, hq, rfl, rfl⟩ := h
    refine j_istore (lv' := [(6, .int (telV z cr ca cg ck i)), (5, .int (nI 0)), (4, .int (nI (5 * q))), (3, .ref ot), (2, .ref mo), (1, .ref dk), (0, .ref bs)]) C dL_law_1643 (by decide) rfl ?_
    refine j_goto (tgt := 1674) C dL_law_1645 (by decide) ?_
    refine j_lv (lv' := [(4, .int (nI (5 * q))), (3, .ref ot), (2, .ref mo), (1, .ref dk), (0, .ref bs)]) (by simp only [List.mem_cons, List.not_mem_nil, or_false, forall_eq_or_imp, forall_eq, true_or, or_true, and_self, Nat.add_zero]) ?_
    refine j_widen (k := cs + 600) (n := sl + 10000) (by omega) (by omega) ?_
    exact kk _ _ _ _ _ _ _ _ _ _ _ _ _ (hR.ext (ext_1 hq))
  · skip
    refine j_aload_n C dL_law_1620 rfl ?_
    refine j_aload_n C dL_law_1621 rfl ?_
    refine j_iload C dL_law_1622 rfl ?_
    refine j_iconst (v := (nI 1)) C dL_law_1624 rfl ?_
    refine j_iadd (z := (nI (5 * q + 1))) C dL_law_1625 (nI_add _ _) ?_
    refine j_sld (z := x1) C hX hbl hbA (5 * q + 1) rfl (by omega) (by omega) es1 dL_law_1626 ?_
    refine j_aload_n C dL_law_1627 rfl ?_
    refine j_callSH C (w_house_jIA l E A (f_house_b l hl E A hbx1)) ok_L_house w_906 (by decide) rfl rfl (Nat.le_of_ble_eq_true rfl) ⟨by omega, by omega⟩ dL_law_1628 (fun _ _ h => ?_)
    obtain ⟨rfl, rfl⟩ := h
    refine j_istore (lv' := [(5, .int (nI 1)), (4, .int (nI (5 * q))), (3, .ref ot), (2, .ref mo), (1, .ref dk), (0, .ref bs)]) C dL_law_1631 (by decide) rfl ?_
    refine j_aload_n C dL_law_1633 rfl ?_
    refine j_aload_n C dL_law_1634 rfl ?_
    refine j_iload C dL_law_1635 rfl ?_
    refine j_iconst (v := (nI 1)) C dL_law_1637 rfl ?_
    refine j_iadd (z := (nI (5 * q + 1))) C dL_law_1638 (nI_add _ _) ?_
    refine j_sld (z := x1) C hX hbl hbA (5 * q + 1) rfl (by omega) (by omega) es1 dL_law_1639 ?_
    refine j_callVr C 6 (v := .int (nI 0)) (w := (gW E t sz sg la dk ot mo ou z g b cr ca cg ck on os (nI 1) cr ca cg ck ro LL ff)) (g_house_b l E A hbx1) ok_X5_house w_1185 (by decide) rfl rfl (Nat.le_of_ble_eq_true rfl) rfl rfl ⟨by omega, by omega⟩ dL_law_1640 ?_
    refine j_istore (lv' := [(6, .int (nI 0)), (5, .int (nI 1)), (4, .int (nI (5 * q))), (3, .ref ot), (2, .ref mo), (1, .ref dk), (0, .ref bs)]) C dL_law_1643 (by decide) rfl ?_
    refine j_goto (tgt := 1674) C dL_law_1645 (by decide) ?_
    refine j_lv (lv' := [(4, .int (nI (5 * q))), (3, .ref ot), (2, .ref mo), (1, .ref dk), (0, .ref bs)]) (by simp only [List.mem_cons, List.not_mem_nil, or_false, forall_eq_or_imp, forall_eq, true_or, or_true, and_self, Nat.add_zero]) ?_
    refine j_widen (k := cs + 600) (n := sl + 10000) (by omega) (by omega) ?_
    exact kk _ _ _ _ _ _ _ _ _ _ _ _ _ (hR)
set_option maxHeartbeats 4000000 in
set_option maxRecDepth 100000 in
theorem op_insides (l : Launch) (hl : l.stackTraces = false) (E : jE) (A : Nat → Prop) {t sz sg la dk ot mo ou : Nat} {z g b : Nat → Int32} {cr ca cg ck : Int32} {on : Int64} {os : Value} {th : Int32} {ro : Nat → Option Nat} {LL : List Nat} {ff : Nat → va_E} {p : Program} {e : Env} {R : Room} {s : State} {m : MethodId} {args : Array Value} {below : List Frame} {meth : Method} {c : Code} {Q : State → Prop} {nn mc ms bs Ln q cs sl : Nat} {xs : Nat → Int32} {x1 x2 x3 x4 : Int32} (C : jC p l e R s m args below meth c x code 7 ret 2000 mc ms E A) (hX : va_X bs Ln xs s s.heap) (hbl : bs < s.heap.size) (hbA : ¬ A bs) (hLn : Ln ≤ 2560) (hq : 5 * q + 5 ≤ Ln) (hmc : cs + 600 ≤ mc) (hms : sl + 10000 ≤ ms) (es1 : xs (5 * q + 1) = x1) (es2 : xs (5 * q + 2) = x2) (es3 : xs (5 * q + 3) = x3) (es4 : xs (5 * q + 4) = x4) (hR : Rel E z g ro LL ff) (kk : ∀ (z' g' b' : Nat → Int32) (cr' ca' cg' ck' : Int32) (on' : Int64) (os' : Value) (th' : Int32) (ro' : Nat → Option Nat) (L' : List Nat) (f' : Nat → va_E), Rel E z' g' ro' L' f' → jJ p l e R s m args below meth c E A 7 Q (cs + 600) (sl + 10000) 1674 [(4, .int (nI (5 * q))), (3, .ref ot), (2, .ref mo), (1, .ref dk), (0, .ref bs)] [] (gW E t sz sg la dk ot mo ou (z') (g') (b') (cr') (ca') (cg') (ck') (on') (os') (th') (cr') (ca') (cg') (ck') (ro') (L') (f'))) : jJ p l e R s m args below meth c E A 7 Q cs sl 814 [(4, .int (nI (5 * q))), (3, .ref ot), (2, .ref mo), (1, .ref dk), (0, .ref bs)] [] (gW E t sz sg la dk ot mo ou z g b cr ca cg ck on os th cr ca cg ck ro LL ff) := by
  have hT := hR.tx
  rcases seat_cases x1 9 (by decide) with ⟨i, hi, rfl⟩ | hbx1
  · skip
    rcases upto_cases x2 2 (by decide) with ⟨w, hw, rfl⟩ | hbx2
    · skip
      rcases hR.1 i (by omega) with ⟨hz_i, hr_i⟩ | ⟨a_i, n_i, h_i, hn_i, hz_i, hr_i, hm_i, hf_i, hs_i⟩
      · skip
        refine j_aload_n C dL_law_814 rfl ?_
        refine j_aload_n C dL_law_815 rfl ?_
        refine j_iload C dL_law_816 rfl ?_
        refine j_iconst (v := (nI 1)) C dL_law_818 rfl ?_
        refine j_iadd (z := (nI (5 * q + 1))) C dL_law_819 (nI_add _ _) ?_
        refine j_sld (z := (nI i)) C hX hbl hbA (5 * q + 1) rfl (by omega) (by omega) es1 dL_law_820 ?_
        refine j_aload_n C dL_law_821 rfl ?_
        refine j_iload C dL_law_822 rfl ?_
        refine j_iconst (v := (nI 2)) C dL_law_824 rfl ?_
        refine j_iadd (z := (nI (5 * q + 2))) C dL_law_825 (nI_add _ _) ?_
        refine j_sld (z := (nI w)) C hX hbl hbA (5 * q + 2) rfl (by omega) (by omega) es2 dL_law_826 ?_
        refine j_aload_n C dL_law_827 rfl ?_
        refine j_callSH C (w_insides_jIS l E A (f_insides_m l hl E A hi hw hz_i)) ok_L_insides w_464 (by decide) rfl rfl (Nat.le_of_ble_eq_true rfl) ⟨by omega, by omega⟩ dL_law_828 (fun _ _ h => ?_)
        obtain ⟨rfl, rfl⟩ := h
        refine j_istore (lv' := [(5, .int (nI 3)), (4, .int (nI (5 * q))), (3, .ref ot), (2, .ref mo), (1, .ref dk), (0, .ref bs)]) C dL_law_831 (by decide) rfl ?_
        refine j_aload_n C dL_law_833 rfl ?_
        refine j_aload_n C dL_law_834 rfl ?_
        refine j_iload C dL_law_835 rfl ?_
        refine j_iconst (v := (nI 1)) C dL_law_837 rfl ?_
        refine j_iadd (z := (nI (5 * q + 1))) C dL_law_838 (nI_add _ _) ?_
        refine j_sld (z := (nI i)) C hX hbl hbA (5 * q + 1) rfl (by omega) (by omega) es1 dL_law_839 ?_
        refine j_aload_n C dL_law_840 rfl ?_
        refine j_iload C dL_law_841 rfl ?_
        refine j_iconst (v := (nI 2)) C dL_law_843 rfl ?_
        refine j_iadd (z := (nI (5 * q + 2))) C dL_law_844 (nI_add _ _) ?_
        refine j_sld (z := (nI w)) C hX hbl hbA (5 * q + 2) rfl (by omega) (by omega) es2 dL_law_845 ?_
        refine j_callVr C 6 (v := .int (nI 0)) (w := (gW E t sz sg la dk ot mo ou z g b cr ca cg ck on os (nI 3) cr ca cg ck ro LL ff)) (g_insides_m l E A hi hw hr_i) ok_X5_insides w_1054 (by decide) rfl rfl (Nat.le_of_ble_eq_true rfl) rfl rfl ⟨by omega, by omega⟩ dL_law_846 ?_
        refine j_istore (lv' := [(6, .int (nI 0)), (5, .int (nI 3)), (4, .int (nI (5 * q))), (3, .ref ot), (2, .ref mo), (1, .ref dk), (0, .ref bs)]) C dL_law_849 (by decide) rfl ?_
        refine j_goto (tgt := 1674) C dL_law_851 (by decide) ?_
        refine j_lv (lv' := [(4, .int (nI (5 * q))), (3, .ref ot), (2, .ref mo), (1, .ref dk), (0, .ref bs)]) (by simp only [List.mem_cons, List.not_mem_nil, or_false, forall_eq_or_imp, forall_eq, true_or, or_true, and_self, Nat.add_zero]) ?_
        refine j_widen (k := cs + 600) (n := sl + 10000) (by omega) (by omega) ?_
        exact kk _ _ _ _ _ _ _ _ _ _ _ _ _ (hR)
      · skip
        refine j_aload_n C dL_law_814 rfl ?_
        refine j_aload_n C dL_law_815 rfl ?_
        refine j_iload C dL_law_816 rfl ?_
        refine j_iconst (v := (nI 1)) C dL_law_818 rfl ?_
        refine j_iadd (z := (nI (5 * q + 1))) C dL_law_819 (nI_add _ _) ?_
        refine j_sld (z := (nI i)) C hX hbl hbA (5 * q + 1) rfl (by omega) (by omega) es1 dL_law_820 ?_
        refine j_aload_n C dL_law_821 rfl ?_
        refine j_iload C dL_law_822 rfl ?_
        refine j_iconst (v := (nI 2)) C dL_law_824 rfl ?_
        refine j_iadd (z := (nI (5 * q + 2))) C dL_law_825 (nI_add _ _) ?_
        refine j_sld (z := (nI w)) C hX hbl hbA (5 * q + 2) rfl (by omega) (by omega) es2 dL_law_826 ?_
        refine j_aload_n C dL_law_827 rfl ?_
        refine j_callSH C (w_insides_r l E A (rr := insV (nI n_i) w) (f_insides_k l E A hi hn_i hz_i hw)) ok_L_insides w_464 (by decide) rfl rfl (Nat.le_of_ble_eq_true rfl) ⟨by omega, by omega⟩ dL_law_828 (fun _ _ h => ?_)
        obtain ⟨rfl, rfl⟩ := h
        refine j_istore (lv' := [(5, .int (nI 0)), (4, .int (nI (5 * q))), (3, .ref ot), (2, .ref mo), (1, .ref dk), (0, .ref bs)]) C dL_law_831 (by decide) rfl ?_
        refine j_aload_n C dL_law_833 rfl ?_
        refine j_aload_n C dL_law_834 rfl ?_
        refine j_iload C dL_law_835 rfl ?_
        refine j_iconst (v := (nI 1)) C dL_law_837 rfl ?_
        refine j_iadd (z := (nI (5 * q + 1))) C dL_law_838 (nI_add _ _) ?_
        refine j_sld (z := (nI i)) C hX hbl hbA (5 * q + 1) rfl (by omega) (by omega) es1 dL_law_839 ?_
        refine j_aload_n C dL_law_840 rfl ?_
        refine j_iload C dL_law_841 rfl ?_
        refine j_iconst (v := (nI 2)) C dL_law_843 rfl ?_
        refine j_iadd (z := (nI (5 * q + 2))) C dL_law_844 (nI_add _ _) ?_
        refine j_sld (z := (nI w)) C hX hbl hbA (5 * q + 2) rfl (by omega) (by omega) es2 dL_law_845 ?_
        refine j_callVr C 6 (v := .int (insM (nI n_i) w)) (w := (gW E t sz sg la dk ot mo ou z g b cr ca cg ck ((insV (nI n_i) w).toInt64) os (nI 0) cr ca cg ck ro LL ff)) (g_insides_k l E A hi hw hr_i hm_i hf_i hn_i) ok_X5_insides w_1054 (by decide) rfl rfl (Nat.le_of_ble_eq_true rfl) rfl rfl ⟨by omega, by omega⟩ dL_law_846 ?_
        refine j_istore (lv' := [(6, .int (insM (nI n_i) w)), (5, .int (nI 0)), (4, .int (nI (5 * q))), (3, .ref ot), (2, .ref mo), (1, .ref dk), (0, .ref bs)]) C dL_law_849 (by decide) rfl ?_
        refine j_goto (tgt := 1674) C dL_law_851 (by decide) ?_
        refine j_lv (lv' := [(4, .int (nI (5 * q))), (3, .ref ot), (2, .ref mo), (1, .ref dk), (0, .ref bs)]) (by simp only [List.mem_cons, List.not_mem_nil, or_false, forall_eq_or_imp, forall_eq, true_or, or_true, and_self, Nat.add_zero]) ?_
        refine j_widen (k := cs + 600) (n := sl + 10000) (by omega) (by omega) ?_
        exact kk _ _ _ _ _ _ _ _ _ _ _ _ _ (hR)
    · skip
      refine j_aload_n C dL_law_814 rfl ?_
      refine j_aload_n C dL_law_815 rfl ?_
      refine j_iload C dL_law_816 rfl ?_
      refine j_iconst (v := (nI 1)) C dL_law_818 rfl ?_
      refine j_iadd (z := (nI (5 * q + 1))) C dL_law_819 (nI_add _ _) ?_
      refine j_sld (z := (nI i)) C hX hbl hbA (5 * q + 1) rfl (by omega) (by omega) es1 dL_law_820 ?_
      refine j_aload_n C dL_law_821 rfl ?_
      refine j_iload C dL_law_822 rfl ?_
      refine j_iconst (v := (nI 2)) C dL_law_824 rfl ?_
      refine j_iadd (z := (nI (5 * q + 2))) C dL_law_825 (nI_add _ _) ?_
      refine j_sld (z := x2) C hX hbl hbA (5 * q + 2) rfl (by omega) (by omega) es2 dL_law_826 ?_
      refine j_aload_n C dL_law_827 rfl ?_
      refine j_callSH C (w_insides_jIA l E A (f_insides_a l hl E A hi hbx2)) ok_L_insides w_464 (by decide) rfl rfl (Nat.le_of_ble_eq_true rfl) ⟨by omega, by omega⟩ dL_law_828 (fun _ _ h => ?_)
      obtain ⟨rfl, rfl⟩ := h
      refine j_istore (lv' := [(5, .int (nI 2)), (4, .int (nI (5 * q))), (3, .ref ot), (2, .ref mo), (1, .ref dk), (0, .ref bs)]) C dL_law_831 (by decide) rfl ?_
      refine j_aload_n C dL_law_833 rfl ?_
      refine j_aload_n C dL_law_834 rfl ?_
      refine j_iload C dL_law_835 rfl ?_
      refine j_iconst (v := (nI 1)) C dL_law_837 rfl ?_
      refine j_iadd (z := (nI (5 * q + 1))) C dL_law_838 (nI_add _ _) ?_
      refine j_sld (z := (nI i)) C hX hbl hbA (5 * q + 1) rfl (by omega) (by omega) es1 dL_law_839 ?_
      refine j_aload_n C dL_law_840 rfl ?_
      refine j_iload C dL_law_841 rfl ?_
      refine j_iconst (v := (nI 2)) C dL_law_843 rfl ?_
      refine j_iadd (z := (nI (5 * q + 2))) C dL_law_844 (nI_add _ _) ?_
      refine j_sld (z := x2) C hX hbl hbA (5 * q + 2) rfl (by omega) (by omega) es2 dL_law_845 ?_
      refine j_callVr C 6 (v := .int (nI 0)) (w := (gW E t sz sg la dk ot mo ou z g b cr ca cg ck on os (nI 2) cr ca cg ck ro LL ff)) (g_insides_a l E A hi hbx2) ok_X5_insides w_1054 (by decide) rfl rfl (Nat.le_of_ble_eq_true rfl) rfl rfl ⟨by omega, by omega⟩ dL_law_846 ?_
      refine j_istore (lv' := [(6, .int (nI 0)), (5, .int (nI 2)), (4, .int (nI (5 * q))), (3, .ref ot), (2, .ref mo), (1, .ref dk), (0, .ref bs)]) C dL_law_849 (by decide) rfl ?_
      refine j_goto (tgt := 1674) C dL_law_851 (by decide) ?_
      refine j_lv (lv' := [(4, .int (nI (5 * q))), (3, .ref ot), (2, .ref mo), (1, .ref dk), (0, .ref bs)]) (by simp only [List.mem_cons, List.not_mem_nil, or_false, forall_eq_or_imp, forall_eq, true_or, or_true, and_self, Nat.add_zero]) ?_
      refine j_widen (k := cs + 600) (n := sl + 10000) (by omega) (by omega) ?_
      exact kk _ _ _ _ _ _ _ _ _ _ _ _ _ (hR)
  · skip
    refine j_aload_n C dL_law_814 rfl ?_
    refine j_aload_n C dL_law_815 rfl ?_
    refine j_iload C dL_law_816 rfl ?_
    refine j_iconst (v := (nI 1)) C dL_law_818 rfl ?_
    refine j_iadd (z := (nI (5 * q + 1))) C dL_law_819 (nI_add _ _) ?_
    refine j_sld (z := x1) C hX hbl hbA (5 * q + 1) rfl (by omega) (by omega) es1 dL_law_820 ?_
    refine j_aload_n C dL_law_821 rfl ?_
    refine j_iload C dL_law_822 rfl ?_
    refine j_iconst (v := (nI 2)) C dL_law_824 rfl ?_
    refine j_iadd (z := (nI (5 * q + 2))) C dL_law_825 (nI_add _ _) ?_
    refine j_sld (z := x2) C hX hbl hbA (5 * q + 2) rfl (by omega) (by omega) es2 dL_law_826 ?_
    refine j_aload_n C dL_law_827 rfl ?_
    refine j_callSH C (w_insides_jIO l E A (f_insides_b l hl E A hbx1)) ok_L_insides w_464 (by decide) rfl rfl (Nat.le_of_ble_eq_true rfl) ⟨by omega, by omega⟩ dL_law_828 (fun _ _ h => ?_)
    obtain ⟨rfl, rfl⟩ := h
    refine j_istore (lv' := [(5, .int (nI 1)), (4, .int (nI (5 * q))), (3, .ref ot), (2, .ref mo), (1, .ref dk), (0, .ref bs)]) C dL_law_831 (by decide) rfl ?_
    refine j_aload_n C dL_law_833 rfl ?_
    refine j_aload_n C dL_law_834 rfl ?_
    refine j_iload C dL_law_835 rfl ?_
    refine j_iconst (v := (nI 1)) C dL_law_837 rfl ?_
    refine j_iadd (z := (nI (5 * q + 1))) C dL_law_838 (nI_add _ _) ?_
    refine j_sld (z := x1) C hX hbl hbA (5 * q + 1) rfl (by omega) (by omega) es1 dL_law_839 ?_
    refine j_aload_n C dL_law_840 rfl ?_
    refine j_iload C dL_law_841 rfl ?_
    refine j_iconst (v := (nI 2)) C dL_law_843 rfl ?_
    refine j_iadd (z := (nI (5 * q + 2))) C dL_law_844 (nI_add _ _) ?_
    refine j_sld (z := x2) C hX hbl hbA (5 * q + 2) rfl (by omega) (by omega) es2 dL_law_845 ?_
    refine j_callVr C 6 (v := .int (nI 0)) (w := (gW E t sz sg la dk ot mo ou z g b cr ca cg ck on os (nI 1) cr ca cg ck ro LL ff)) (g_insides_b l E A hbx1) ok_X5_insides w_1054 (by decide) rfl rfl (Nat.le_of_ble_eq_true rfl) rfl rfl ⟨by omega, by omega⟩ dL_law_846 ?_
    refine j_istore (lv' := [(6, .int (nI 0)), (5, .int (nI 1)), (4, .int (nI (5 * q))), (3, .ref ot), (2, .ref mo), (1, .ref dk), (0, .ref bs)]) C dL_law_849 (by decide) rfl ?_
    refine j_goto (tgt := 1674) C dL_law_851 (by decide) ?_
    refine j_lv (lv' := [(4, .int (nI (5 * q))), (3, .ref ot), (2, .ref mo), (1, .ref dk), (0, .ref bs)]) (by simp only [List.mem_cons, List.not_mem_nil, or_false, forall_eq_or_imp, forall_eq, true_or, or_true, and_self, Nat.add_zero]) ?_
    refine j_widen (k := cs + 600) (n := sl + 10000) (by omega) (by omega) ?_
    exact kk _ _ _ _ _ _ _ _ _ _ _ _ _ (hR)
set_option maxHeartbeats 4000000 in
set_option maxRecDepth 100000 in
theorem op_isSound (l : Launch) (hl : l.stackTraces = false) (E : jE) (A : Nat → Prop) {t sz sg la dk ot mo ou : Nat} {z g b : Nat → Int32} {cr ca cg ck : Int32} {on : Int64} {os : Value} {th : Int32} {ro : Nat → Option Nat} {LL : List Nat} {ff : Nat → va_E} {p : Program} {e : Env} {R : Room} {s : State} {m : MethodId} {args : Array Value} {below : List Frame} {meth : Method} {c : Code} {Q : State → Prop} {nn mc ms bs Ln q cs sl : Nat} {xs : Nat → Int32} {x1 x2 x3 x4 : Int32} (C : jC p l e R s m args below meth c x code 7 ret 2000 mc ms E A) (hX : va_X bs Ln xs s s.heap) (hbl : bs < s.heap.size) (hbA : ¬ A bs) (hLn : Ln ≤ 2560) (hq : 5 * q + 5 ≤ Ln) (hmc : cs + 600 ≤ mc) (hms : sl + 10000 ≤ ms) (es1 : xs (5 * q + 1) = x1) (es2 : xs (5 * q + 2) = x2) (es3 : xs (5 * q + 3) = x3) (es4 : xs (5 * q + 4) = x4) (hR : Rel E z g ro LL ff) (kk : ∀ (z' g' b' : Nat → Int32) (cr' ca' cg' ck' : Int32) (on' : Int64) (os' : Value) (th' : Int32) (ro' : Nat → Option Nat) (L' : List Nat) (f' : Nat → va_E), Rel E z' g' ro' L' f' → jJ p l e R s m args below meth c E A 7 Q (cs + 600) (sl + 10000) 1674 [(4, .int (nI (5 * q))), (3, .ref ot), (2, .ref mo), (1, .ref dk), (0, .ref bs)] [] (gW E t sz sg la dk ot mo ou (z') (g') (b') (cr') (ca') (cg') (ck') (on') (os') (th') (cr') (ca') (cg') (ck') (ro') (L') (f'))) : jJ p l e R s m args below meth c E A 7 Q cs sl 1648 [(4, .int (nI (5 * q))), (3, .ref ot), (2, .ref mo), (1, .ref dk), (0, .ref bs)] [] (gW E t sz sg la dk ot mo ou z g b cr ca cg ck on os th cr ca cg ck ro LL ff) := by
  have hT := hR.tx
  refine j_aload_n C dL_law_1648 rfl ?_
  refine j_callV C (q0 := 4) (f_isSound_k l E A hT) ok_X3_isSound w_134 (by decide) rfl rfl (Nat.le_of_ble_eq_true rfl) rfl rfl ⟨by omega, by omega⟩ dL_law_1649 (fun _ _ h => h.elim) (fun _ _ h => ?_)
  obtain ⟨u1, bb, hu1, rfl, rfl⟩ := h
  refine j_pop C dL_law_1652 rfl ?_
  refine j_aload_n C dL_law_1653 rfl ?_
  refine j_callV C (q0 := 6) (g_isSound_k l E A hR) ok_X5_isSound w_1193 (by decide) rfl rfl (Nat.le_of_ble_eq_true rfl) rfl rfl ⟨by omega, by omega⟩ dL_law_1654 (fun _ _ h => h.elim) (fun _ _ h => ?_)
  obtain ⟨⟨u2, rfl, hu2⟩, rfl⟩ := h
  refine j_pop C dL_law_1657 rfl ?_
  refine j_goto (tgt := 1674) C dL_law_1658 (by decide) ?_
  refine j_lv (lv' := [(4, .int (nI (5 * q))), (3, .ref ot), (2, .ref mo), (1, .ref dk), (0, .ref bs)]) (by simp only [List.mem_cons, List.not_mem_nil, or_false, forall_eq_or_imp, forall_eq, true_or, or_true, and_self, Nat.add_zero]) ?_
  refine j_widen (k := cs + 600) (n := sl + 10000) (by omega) (by omega) ?_
  exact kk _ _ _ _ _ _ _ _ _ _ _ _ _ (hR)
set_option maxHeartbeats 4000000 in
set_option maxRecDepth 100000 in
theorem op_digest (l : Launch) (hl : l.stackTraces = false) (E : jE) (A : Nat → Prop) {t sz sg la dk ot mo ou : Nat} {z g b : Nat → Int32} {cr ca cg ck : Int32} {on : Int64} {os : Value} {th : Int32} {ro : Nat → Option Nat} {LL : List Nat} {ff : Nat → va_E} {p : Program} {e : Env} {R : Room} {s : State} {m : MethodId} {args : Array Value} {below : List Frame} {meth : Method} {c : Code} {Q : State → Prop} {nn mc ms bs Ln q cs sl : Nat} {xs : Nat → Int32} {x1 x2 x3 x4 : Int32} (C : jC p l e R s m args below meth c x code 7 ret 2000 mc ms E A) (hX : va_X bs Ln xs s s.heap) (hbl : bs < s.heap.size) (hbA : ¬ A bs) (hLn : Ln ≤ 2560) (hq : 5 * q + 5 ≤ Ln) (hmc : cs + 600 ≤ mc) (hms : sl + 10000 ≤ ms) (es1 : xs (5 * q + 1) = x1) (es2 : xs (5 * q + 2) = x2) (es3 : xs (5 * q + 3) = x3) (es4 : xs (5 * q + 4) = x4) (hR : Rel E z g ro LL ff) (kk : ∀ (z' g' b' : Nat → Int32) (cr' ca' cg' ck' : Int32) (on' : Int64) (os' : Value) (th' : Int32) (ro' : Nat → Option Nat) (L' : List Nat) (f' : Nat → va_E), Rel E z' g' ro' L' f' → jJ p l e R s m args below meth c E A 7 Q (cs + 600) (sl + 10000) 1674 [(4, .int (nI (5 * q))), (3, .ref ot), (2, .ref mo), (1, .ref dk), (0, .ref bs)] [] (gW E t sz sg la dk ot mo ou (z') (g') (b') (cr') (ca') (cg') (ck') (on') (os') (th') (cr') (ca') (cg') (ck') (ro') (L') (f'))) : jJ p l e R s m args below meth c E A 7 Q cs sl 1661 [(4, .int (nI (5 * q))), (3, .ref ot), (2, .ref mo), (1, .ref dk), (0, .ref bs)] [] (gW E t sz sg la dk ot mo ou z g b cr ca cg ck on os th cr ca cg ck ro LL ff) := by
  have hT := hR.tx
  refine j_aload_n C dL_law_1661 rfl ?_
  refine j_callV C (q0 := 4) (f_digest_k l E A hT) ok_X3_digest w_220 (by decide) rfl rfl (Nat.le_of_ble_eq_true rfl) rfl rfl ⟨by omega, by omega⟩ dL_law_1662 (fun _ _ h => h.elim) (fun _ _ h => ?_)
  obtain ⟨d1, bb, rfl, rfl⟩ := h
  refine j_pop2 C dL_law_1665 rfl ?_
  refine j_aload_n C dL_law_1666 rfl ?_
  refine j_callV C (q0 := 6) (g_digest_k l E A hR) ok_X5_digest w_1201 (by decide) rfl rfl (Nat.le_of_ble_eq_true rfl) rfl rfl ⟨by omega, by omega⟩ dL_law_1667 (fun _ _ h => h.elim) (fun _ _ h => ?_)
  obtain ⟨d2, L2, f2, hx, rfl, rfl⟩ := h
  refine j_pop2 C dL_law_1670 rfl ?_
  refine j_goto (tgt := 1674) C dL_law_1671 (by decide) ?_
  refine j_lv (lv' := [(4, .int (nI (5 * q))), (3, .ref ot), (2, .ref mo), (1, .ref dk), (0, .ref bs)]) (by simp only [List.mem_cons, List.not_mem_nil, or_false, forall_eq_or_imp, forall_eq, true_or, or_true, and_self, Nat.add_zero]) ?_
  refine j_widen (k := cs + 600) (n := sl + 10000) (by omega) (by omega) ?_
  exact kk _ _ _ _ _ _ _ _ _ _ _ _ _ (hR.ext hx)
set_option maxHeartbeats 4000000 in
set_option maxRecDepth 100000 in
theorem op_text (l : Launch) (hl : l.stackTraces = false) (E : jE) (A : Nat → Prop) {t sz sg la dk ot mo ou : Nat} {z g b : Nat → Int32} {cr ca cg ck : Int32} {on : Int64} {os : Value} {th : Int32} {ro : Nat → Option Nat} {LL : List Nat} {ff : Nat → va_E} {p : Program} {e : Env} {R : Room} {s : State} {m : MethodId} {args : Array Value} {below : List Frame} {meth : Method} {c : Code} {Q : State → Prop} {nn mc ms bs Ln q cs sl : Nat} {xs : Nat → Int32} {x1 x2 x3 x4 : Int32} (C : jC p l e R s m args below meth c x code 7 ret 2000 mc ms E A) (hX : va_X bs Ln xs s s.heap) (hbl : bs < s.heap.size) (hbA : ¬ A bs) (hLn : Ln ≤ 2560) (hq : 5 * q + 5 ≤ Ln) (hmc : cs + 600 ≤ mc) (hms : sl + 10000 ≤ ms) (es1 : xs (5 * q + 1) = x1) (es2 : xs (5 * q + 2) = x2) (es3 : xs (5 * q + 3) = x3) (es4 : xs (5 * q + 4) = x4) (hR : Rel E z g ro LL ff) (kk : ∀ (z' g' b' : Nat → Int32) (cr' ca' cg' ck' : Int32) (on' : Int64) (os' : Value) (th' : Int32) (ro' : Nat → Option Nat) (L' : List Nat) (f' : Nat → va_E), Rel E z' g' ro' L' f' → jJ p l e R s m args below meth c E A 7 Q (cs + 600) (sl + 10000) 1674 [(4, .int (nI (5 * q))), (3, .ref ot), (2, .ref mo), (1, .ref dk), (0, .ref bs)] [] (gW E t sz sg la dk ot mo ou (z') (g') (b') (cr') (ca') (cg') (ck') (on') (os') (th') (cr') (ca') (cg') (ck') (ro') (L') (f'))) : jJ p l e R s m args below meth c E A 7 Q cs sl 854 [(4, .int (nI (5 * q))), (3, .ref ot), (2, .ref mo), (1, .ref dk), (0, .ref bs)] [] (gW E t sz sg la dk ot mo ou z g b cr ca cg ck on os th cr ca cg ck ro LL ff) := by
  have hT := hR.tx
  rcases seat_cases x1 9 (by decide) with ⟨i, hi, rfl⟩ | hbx1
  · skip
    rcases hR.1 i (by omega) with ⟨hz_i, hr_i⟩ | ⟨a_i, n_i, h_i, hn_i, hz_i, hr_i, hm_i, hf_i, hs_i⟩
    · skip
      refine j_aload_n C dL_law_854 rfl ?_
      refine j_aload_n C dL_law_855 rfl ?_
      refine j_iload C dL_law_856 rfl ?_
      refine j_iconst (v := (nI 1)) C dL_law_858 rfl ?_
      refine j_iadd (z := (nI (5 * q + 1))) C dL_law_859 (nI_add _ _) ?_
      refine j_sld (z := (nI i)) C hX hbl hbA (5 * q + 1) rfl (by omega) (by omega) es1 dL_law_860 ?_
      refine j_aload_n C dL_law_861 rfl ?_
      refine j_callSH C (w_text_r l E A (f_text_m l E A hi hz_i)) ok_L_text w_483 (by decide) rfl rfl (Nat.le_of_ble_eq_true rfl) ⟨by omega, by omega⟩ dL_law_862 (fun _ _ h => ?_)
      obtain ⟨aa1, bb1, rfl, rfl⟩ := h
      refine j_istore (lv' := [(5, .int (nI 0)), (4, .int (nI (5 * q))), (3, .ref ot), (2, .ref mo), (1, .ref dk), (0, .ref bs)]) C dL_law_865 (by decide) rfl ?_
      refine j_aload_n C dL_law_867 rfl ?_
      refine j_aload_n C dL_law_868 rfl ?_
      refine j_iload C dL_law_869 rfl ?_
      refine j_iconst (v := (nI 1)) C dL_law_871 rfl ?_
      refine j_iadd (z := (nI (5 * q + 1))) C dL_law_872 (nI_add _ _) ?_
      refine j_sld (z := (nI i)) C hX hbl hbA (5 * q + 1) rfl (by omega) (by omega) es1 dL_law_873 ?_
      refine j_callV C (q0 := 6) (g_text_m l E A hi hr_i) ok_X5_text w_1058 (by decide) rfl rfl (Nat.le_of_ble_eq_true rfl) rfl rfl ⟨by omega, by omega⟩ dL_law_874 (fun _ _ h => h.elim) (fun _ _ h => ?_)
      obtain ⟨aa2, rfl, rfl⟩ := h
      refine j_astore (lv' := [(6, .ref aa2), (5, .int (nI 0)), (4, .int (nI (5 * q))), (3, .ref ot), (2, .ref mo), (1, .ref dk), (0, .ref bs)]) C dL_law_877 (by decide) rfl ?_
      refine j_goto (tgt := 1674) C dL_law_879 (by decide) ?_
      refine j_lv (lv' := [(4, .int (nI (5 * q))), (3, .ref ot), (2, .ref mo), (1, .ref dk), (0, .ref bs)]) (by simp only [List.mem_cons, List.not_mem_nil, or_false, forall_eq_or_imp, forall_eq, true_or, or_true, and_self, Nat.add_zero]) ?_
      refine j_widen (k := cs + 600) (n := sl + 10000) (by omega) (by omega) ?_
      exact kk _ _ _ _ _ _ _ _ _ _ _ _ _ (hR)
    · skip
      refine j_aload_n C dL_law_854 rfl ?_
      refine j_aload_n C dL_law_855 rfl ?_
      refine j_iload C dL_law_856 rfl ?_
      refine j_iconst (v := (nI 1)) C dL_law_858 rfl ?_
      refine j_iadd (z := (nI (5 * q + 1))) C dL_law_859 (nI_add _ _) ?_
      refine j_sld (z := (nI i)) C hX hbl hbA (5 * q + 1) rfl (by omega) (by omega) es1 dL_law_860 ?_
      refine j_aload_n C dL_law_861 rfl ?_
      refine j_callSH C (w_text_r l E A (f_text_k l E A hi hn_i hz_i (fun k hk => (hs_i k hk).1 ▸ (hs_i k hk).2))) ok_L_text w_483 (by decide) rfl rfl (Nat.le_of_ble_eq_true rfl) ⟨by omega, by omega⟩ dL_law_862 (fun _ _ h => ?_)
      obtain ⟨aa1, bb1, rfl, rfl⟩ := h
      refine j_istore (lv' := [(5, .int (nI 0)), (4, .int (nI (5 * q))), (3, .ref ot), (2, .ref mo), (1, .ref dk), (0, .ref bs)]) C dL_law_865 (by decide) rfl ?_
      refine j_aload_n C dL_law_867 rfl ?_
      refine j_aload_n C dL_law_868 rfl ?_
      refine j_iload C dL_law_869 rfl ?_
      refine j_iconst (v := (nI 1)) C dL_law_871 rfl ?_
      refine j_iadd (z := (nI (5 * q + 1))) C dL_law_872 (nI_add _ _) ?_
      refine j_sld (z := (nI i)) C hX hbl hbA (5 * q + 1) rfl (by omega) (by omega) es1 dL_law_873 ?_
      refine j_callV C (q0 := 6) (g_text_k l E A hi hr_i hm_i hf_i hn_i (fun k hk => (hs_i k hk).2)) ok_X5_text w_1058 (by decide) rfl rfl (Nat.le_of_ble_eq_true rfl) rfl rfl ⟨by omega, by omega⟩ dL_law_874 (fun _ _ h => h.elim) (fun _ _ h => ?_)
      obtain ⟨aa2, rfl, rfl⟩ := h
      refine j_astore (lv' := [(6, .ref aa2), (5, .int (nI 0)), (4, .int (nI (5 * q))), (3, .ref ot), (2, .ref mo), (1, .ref dk), (0, .ref bs)]) C dL_law_877 (by decide) rfl ?_
      refine j_goto (tgt := 1674) C dL_law_879 (by decide) ?_
      refine j_lv (lv' := [(4, .int (nI (5 * q))), (3, .ref ot), (2, .ref mo), (1, .ref dk), (0, .ref bs)]) (by simp only [List.mem_cons, List.not_mem_nil, or_false, forall_eq_or_imp, forall_eq, true_or, or_true, and_self, Nat.add_zero]) ?_
      refine j_widen (k := cs + 600) (n := sl + 10000) (by omega) (by omega) ?_
      exact kk _ _ _ _ _ _ _ _ _ _ _ _ _ (hR)
  · skip
    refine j_aload_n C dL_law_854 rfl ?_
    refine j_aload_n C dL_law_855 rfl ?_
    refine j_iload C dL_law_856 rfl ?_
    refine j_iconst (v := (nI 1)) C dL_law_858 rfl ?_
    refine j_iadd (z := (nI (5 * q + 1))) C dL_law_859 (nI_add _ _) ?_
    refine j_sld (z := x1) C hX hbl hbA (5 * q + 1) rfl (by omega) (by omega) es1 dL_law_860 ?_
    refine j_aload_n C dL_law_861 rfl ?_
    refine j_callSH C (w_text_jIO l E A (f_text_b l hl E A hbx1)) ok_L_text w_483 (by decide) rfl rfl (Nat.le_of_ble_eq_true rfl) ⟨by omega, by omega⟩ dL_law_862 (fun _ _ h => ?_)
    obtain ⟨rfl, rfl⟩ := h
    refine j_istore (lv' := [(5, .int (nI 1)), (4, .int (nI (5 * q))), (3, .ref ot), (2, .ref mo), (1, .ref dk), (0, .ref bs)]) C dL_law_865 (by decide) rfl ?_
    refine j_aload_n C dL_law_867 rfl ?_
    refine j_aload_n C dL_law_868 rfl ?_
    refine j_iload C dL_law_869 rfl ?_
    refine j_iconst (v := (nI 1)) C dL_law_871 rfl ?_
    refine j_iadd (z := (nI (5 * q + 1))) C dL_law_872 (nI_add _ _) ?_
    refine j_sld (z := x1) C hX hbl hbA (5 * q + 1) rfl (by omega) (by omega) es1 dL_law_873 ?_
    refine j_callV C (q0 := 6) (g_text_b l E A hbx1) ok_X5_text w_1058 (by decide) rfl rfl (Nat.le_of_ble_eq_true rfl) rfl rfl ⟨by omega, by omega⟩ dL_law_874 (fun _ _ h => h.elim) (fun _ _ h => ?_)
    obtain ⟨aa2, rfl, rfl⟩ := h
    refine j_astore (lv' := [(6, .ref aa2), (5, .int (nI 1)), (4, .int (nI (5 * q))), (3, .ref ot), (2, .ref mo), (1, .ref dk), (0, .ref bs)]) C dL_law_877 (by decide) rfl ?_
    refine j_goto (tgt := 1674) C dL_law_879 (by decide) ?_
    refine j_lv (lv' := [(4, .int (nI (5 * q))), (3, .ref ot), (2, .ref mo), (1, .ref dk), (0, .ref bs)]) (by simp only [List.mem_cons, List.not_mem_nil, or_false, forall_eq_or_imp, forall_eq, true_or, or_true, and_self, Nat.add_zero]) ?_
    refine j_widen (k := cs + 600) (n := sl + 10000) (by omega) (by omega) ?_
    exact kk _ _ _ _ _ _ _ _ _ _ _ _ _ (hR)
set_option maxHeartbeats 4000000 in
set_option maxRecDepth 100000 in
theorem op_part (l : Launch) (hl : l.stackTraces = false) (E : jE) (A : Nat → Prop) {t sz sg la dk ot mo ou : Nat} {z g b : Nat → Int32} {cr ca cg ck : Int32} {on : Int64} {os : Value} {th : Int32} {ro : Nat → Option Nat} {LL : List Nat} {ff : Nat → va_E} {p : Program} {e : Env} {R : Room} {s : State} {m : MethodId} {args : Array Value} {below : List Frame} {meth : Method} {c : Code} {Q : State → Prop} {nn mc ms bs Ln q cs sl : Nat} {xs : Nat → Int32} {x1 x2 x3 x4 : Int32} (C : jC p l e R s m args below meth c x code 7 ret 2000 mc ms E A) (hX : va_X bs Ln xs s s.heap) (hbl : bs < s.heap.size) (hbA : ¬ A bs) (hLn : Ln ≤ 2560) (hq : 5 * q + 5 ≤ Ln) (hmc : cs + 600 ≤ mc) (hms : sl + 10000 ≤ ms) (es1 : xs (5 * q + 1) = x1) (es2 : xs (5 * q + 2) = x2) (es3 : xs (5 * q + 3) = x3) (es4 : xs (5 * q + 4) = x4) (hR : Rel E z g ro LL ff) (kk : ∀ (z' g' b' : Nat → Int32) (cr' ca' cg' ck' : Int32) (on' : Int64) (os' : Value) (th' : Int32) (ro' : Nat → Option Nat) (L' : List Nat) (f' : Nat → va_E), Rel E z' g' ro' L' f' → jJ p l e R s m args below meth c E A 7 Q (cs + 600) (sl + 10000) 1674 [(4, .int (nI (5 * q))), (3, .ref ot), (2, .ref mo), (1, .ref dk), (0, .ref bs)] [] (gW E t sz sg la dk ot mo ou (z') (g') (b') (cr') (ca') (cg') (ck') (on') (os') (th') (cr') (ca') (cg') (ck') (ro') (L') (f'))) : jJ p l e R s m args below meth c E A 7 Q cs sl 950 [(4, .int (nI (5 * q))), (3, .ref ot), (2, .ref mo), (1, .ref dk), (0, .ref bs)] [] (gW E t sz sg la dk ot mo ou z g b cr ca cg ck on os th cr ca cg ck ro LL ff) := by
  have hT := hR.tx
  rcases seat_cases x1 9 (by decide) with ⟨i, hi, rfl⟩ | hbx1
  · skip
    rcases hR.1 i (by omega) with ⟨hz_i, hr_i⟩ | ⟨a_i, n_i, h_i, hn_i, hz_i, hr_i, hm_i, hf_i, hs_i⟩
    · skip
      refine j_aload_n C dL_law_950 rfl ?_
      refine j_aload_n C dL_law_951 rfl ?_
      refine j_iload C dL_law_952 rfl ?_
      refine j_iconst (v := (nI 1)) C dL_law_954 rfl ?_
      refine j_iadd (z := (nI (5 * q + 1))) C dL_law_955 (nI_add _ _) ?_
      refine j_sld (z := (nI i)) C hX hbl hbA (5 * q + 1) rfl (by omega) (by omega) es1 dL_law_956 ?_
      refine j_aload_n C dL_law_957 rfl ?_
      refine j_iload C dL_law_958 rfl ?_
      refine j_iconst (v := (nI 2)) C dL_law_960 rfl ?_
      refine j_iadd (z := (nI (5 * q + 2))) C dL_law_961 (nI_add _ _) ?_
      refine j_sld (z := x2) C hX hbl hbA (5 * q + 2) rfl (by omega) (by omega) es2 dL_law_962 ?_
      refine j_aload_n C dL_law_963 rfl ?_
      refine j_iload C dL_law_964 rfl ?_
      refine j_iconst (v := (nI 3)) C dL_law_966 rfl ?_
      refine j_iadd (z := (nI (5 * q + 3))) C dL_law_967 (nI_add _ _) ?_
      refine j_sld (z := x3) C hX hbl hbA (5 * q + 3) rfl (by omega) (by omega) es3 dL_law_968 ?_
      refine j_aload_n C dL_law_969 rfl ?_
      refine j_callSH C (w_part_r l E A (f_part_m l E A hi hz_i)) ok_L_part w_773 (by decide) rfl rfl (Nat.le_of_ble_eq_true rfl) ⟨by omega, by omega⟩ dL_law_970 (fun _ _ h => ?_)
      obtain ⟨aa1, bb1, rfl, rfl⟩ := h
      refine j_istore (lv' := [(5, .int (nI 0)), (4, .int (nI (5 * q))), (3, .ref ot), (2, .ref mo), (1, .ref dk), (0, .ref bs)]) C dL_law_973 (by decide) rfl ?_
      refine j_aload_n C dL_law_975 rfl ?_
      refine j_aload_n C dL_law_976 rfl ?_
      refine j_iload C dL_law_977 rfl ?_
      refine j_iconst (v := (nI 1)) C dL_law_979 rfl ?_
      refine j_iadd (z := (nI (5 * q + 1))) C dL_law_980 (nI_add _ _) ?_
      refine j_sld (z := (nI i)) C hX hbl hbA (5 * q + 1) rfl (by omega) (by omega) es1 dL_law_981 ?_
      refine j_aload_n C dL_law_982 rfl ?_
      refine j_iload C dL_law_983 rfl ?_
      refine j_iconst (v := (nI 2)) C dL_law_985 rfl ?_
      refine j_iadd (z := (nI (5 * q + 2))) C dL_law_986 (nI_add _ _) ?_
      refine j_sld (z := x2) C hX hbl hbA (5 * q + 2) rfl (by omega) (by omega) es2 dL_law_987 ?_
      refine j_aload_n C dL_law_988 rfl ?_
      refine j_iload C dL_law_989 rfl ?_
      refine j_iconst (v := (nI 3)) C dL_law_991 rfl ?_
      refine j_iadd (z := (nI (5 * q + 3))) C dL_law_992 (nI_add _ _) ?_
      refine j_sld (z := x3) C hX hbl hbA (5 * q + 3) rfl (by omega) (by omega) es3 dL_law_993 ?_
      refine j_callV C (q0 := 6) (g_part_m l E A hi hr_i) ok_X5_part_ w_1080 (by decide) rfl rfl (Nat.le_of_ble_eq_true rfl) rfl rfl ⟨by omega, by omega⟩ dL_law_994 (fun _ _ h => h.elim) (fun _ _ h => ?_)
      obtain ⟨aa2, rfl, rfl⟩ := h
      refine j_astore (lv' := [(6, .ref aa2), (5, .int (nI 0)), (4, .int (nI (5 * q))), (3, .ref ot), (2, .ref mo), (1, .ref dk), (0, .ref bs)]) C dL_law_997 (by decide) rfl ?_
      refine j_goto (tgt := 1674) C dL_law_999 (by decide) ?_
      refine j_lv (lv' := [(4, .int (nI (5 * q))), (3, .ref ot), (2, .ref mo), (1, .ref dk), (0, .ref bs)]) (by simp only [List.mem_cons, List.not_mem_nil, or_false, forall_eq_or_imp, forall_eq, true_or, or_true, and_self, Nat.add_zero]) ?_
      refine j_widen (k := cs + 600) (n := sl + 10000) (by omega) (by omega) ?_
      exact kk _ _ _ _ _ _ _ _ _ _ _ _ _ (hR)
    · skip
      rcases cut_cases x2 x3 hn_i with ⟨a, v, hav, hvn, rfl, rfl⟩ | ho
      · skip
        refine j_aload_n C dL_law_950 rfl ?_
        refine j_aload_n C dL_law_951 rfl ?_
        refine j_iload C dL_law_952 rfl ?_
        refine j_iconst (v := (nI 1)) C dL_law_954 rfl ?_
        refine j_iadd (z := (nI (5 * q + 1))) C dL_law_955 (nI_add _ _) ?_
        refine j_sld (z := (nI i)) C hX hbl hbA (5 * q + 1) rfl (by omega) (by omega) es1 dL_law_956 ?_
        refine j_aload_n C dL_law_957 rfl ?_
        refine j_iload C dL_law_958 rfl ?_
        refine j_iconst (v := (nI 2)) C dL_law_960 rfl ?_
        refine j_iadd (z := (nI (5 * q + 2))) C dL_law_961 (nI_add _ _) ?_
        refine j_sld (z := (nI a)) C hX hbl hbA (5 * q + 2) rfl (by omega) (by omega) es2 dL_law_962 ?_
        refine j_aload_n C dL_law_963 rfl ?_
        refine j_iload C dL_law_964 rfl ?_
        refine j_iconst (v := (nI 3)) C dL_law_966 rfl ?_
        refine j_iadd (z := (nI (5 * q + 3))) C dL_law_967 (nI_add _ _) ?_
        refine j_sld (z := (nI v)) C hX hbl hbA (5 * q + 3) rfl (by omega) (by omega) es3 dL_law_968 ?_
        refine j_aload_n C dL_law_969 rfl ?_
        refine j_callSH C (w_part_r l E A (f_part_k l E A hi hn_i hz_i hav hvn (fun k hk => (hs_i k hk).1 ▸ (hs_i k hk).2))) ok_L_part w_773 (by decide) rfl rfl (Nat.le_of_ble_eq_true rfl) ⟨by omega, by omega⟩ dL_law_970 (fun _ _ h => ?_)
        obtain ⟨aa1, bb1, rfl, rfl⟩ := h
        refine j_istore (lv' := [(5, .int (nI 0)), (4, .int (nI (5 * q))), (3, .ref ot), (2, .ref mo), (1, .ref dk), (0, .ref bs)]) C dL_law_973 (by decide) rfl ?_
        refine j_aload_n C dL_law_975 rfl ?_
        refine j_aload_n C dL_law_976 rfl ?_
        refine j_iload C dL_law_977 rfl ?_
        refine j_iconst (v := (nI 1)) C dL_law_979 rfl ?_
        refine j_iadd (z := (nI (5 * q + 1))) C dL_law_980 (nI_add _ _) ?_
        refine j_sld (z := (nI i)) C hX hbl hbA (5 * q + 1) rfl (by omega) (by omega) es1 dL_law_981 ?_
        refine j_aload_n C dL_law_982 rfl ?_
        refine j_iload C dL_law_983 rfl ?_
        refine j_iconst (v := (nI 2)) C dL_law_985 rfl ?_
        refine j_iadd (z := (nI (5 * q + 2))) C dL_law_986 (nI_add _ _) ?_
        refine j_sld (z := (nI a)) C hX hbl hbA (5 * q + 2) rfl (by omega) (by omega) es2 dL_law_987 ?_
        refine j_aload_n C dL_law_988 rfl ?_
        refine j_iload C dL_law_989 rfl ?_
        refine j_iconst (v := (nI 3)) C dL_law_991 rfl ?_
        refine j_iadd (z := (nI (5 * q + 3))) C dL_law_992 (nI_add _ _) ?_
        refine j_sld (z := (nI v)) C hX hbl hbA (5 * q + 3) rfl (by omega) (by omega) es3 dL_law_993 ?_
        refine j_callV C (q0 := 6) (g_part_k l E A hi hr_i hm_i hf_i hn_i hav hvn (fun k hk => (hs_i k hk).2)) ok_X5_part_ w_1080 (by decide) rfl rfl (Nat.le_of_ble_eq_true rfl) rfl rfl ⟨by omega, by omega⟩ dL_law_994 (fun _ _ h => h.elim) (fun _ _ h => ?_)
        obtain ⟨aa2, qa, hq, rfl, rfl⟩ := h
        refine j_astore (lv' := [(6, .ref aa2), (5, .int (nI 0)), (4, .int (nI (5 * q))), (3, .ref ot), (2, .ref mo), (1, .ref dk), (0, .ref bs)]) C dL_law_997 (by decide) rfl ?_
        refine j_goto (tgt := 1674) C dL_law_999 (by decide) ?_
        refine j_lv (lv' := [(4, .int (nI (5 * q))), (3, .ref ot), (2, .ref mo), (1, .ref dk), (0, .ref bs)]) (by simp only [List.mem_cons, List.not_mem_nil, or_false, forall_eq_or_imp, forall_eq, true_or, or_true, and_self, Nat.add_zero]) ?_
        refine j_widen (k := cs + 600) (n := sl + 10000) (by omega) (by omega) ?_
        exact kk _ _ _ _ _ _ _ _ _ _ _ _ _ (hR.ext (ext_1 hq))
      · skip
        refine j_aload_n C dL_law_950 rfl ?_
        refine j_aload_n C dL_law_951 rfl ?_
        refine j_iload C dL_law_952 rfl ?_
        refine j_iconst (v := (nI 1)) C dL_law_954 rfl ?_
        refine j_iadd (z := (nI (5 * q + 1))) C dL_law_955 (nI_add _ _) ?_
        refine j_sld (z := (nI i)) C hX hbl hbA (5 * q + 1) rfl (by omega) (by omega) es1 dL_law_956 ?_
        refine j_aload_n C dL_law_957 rfl ?_
        refine j_iload C dL_law_958 rfl ?_
        refine j_iconst (v := (nI 2)) C dL_law_960 rfl ?_
        refine j_iadd (z := (nI (5 * q + 2))) C dL_law_961 (nI_add _ _) ?_
        refine j_sld (z := x2) C hX hbl hbA (5 * q + 2) rfl (by omega) (by omega) es2 dL_law_962 ?_
        refine j_aload_n C dL_law_963 rfl ?_
        refine j_iload C dL_law_964 rfl ?_
        refine j_iconst (v := (nI 3)) C dL_law_966 rfl ?_
        refine j_iadd (z := (nI (5 * q + 3))) C dL_law_967 (nI_add _ _) ?_
        refine j_sld (z := x3) C hX hbl hbA (5 * q + 3) rfl (by omega) (by omega) es3 dL_law_968 ?_
        refine j_aload_n C dL_law_969 rfl ?_
        refine j_callSH C (w_part_r l E A (f_part_o l E A hi hn_i hz_i ho)) ok_L_part w_773 (by decide) rfl rfl (Nat.le_of_ble_eq_true rfl) ⟨by omega, by omega⟩ dL_law_970 (fun _ _ h => ?_)
        obtain ⟨aa1, bb1, rfl, rfl⟩ := h
        refine j_istore (lv' := [(5, .int (nI 0)), (4, .int (nI (5 * q))), (3, .ref ot), (2, .ref mo), (1, .ref dk), (0, .ref bs)]) C dL_law_973 (by decide) rfl ?_
        refine j_aload_n C dL_law_975 rfl ?_
        refine j_aload_n C dL_law_976 rfl ?_
        refine j_iload C dL_law_977 rfl ?_
        refine j_iconst (v := (nI 1)) C dL_law_979 rfl ?_
        refine j_iadd (z := (nI (5 * q + 1))) C dL_law_980 (nI_add _ _) ?_
        refine j_sld (z := (nI i)) C hX hbl hbA (5 * q + 1) rfl (by omega) (by omega) es1 dL_law_981 ?_
        refine j_aload_n C dL_law_982 rfl ?_
        refine j_iload C dL_law_983 rfl ?_
        refine j_iconst (v := (nI 2)) C dL_law_985 rfl ?_
        refine j_iadd (z := (nI (5 * q + 2))) C dL_law_986 (nI_add _ _) ?_
        refine j_sld (z := x2) C hX hbl hbA (5 * q + 2) rfl (by omega) (by omega) es2 dL_law_987 ?_
        refine j_aload_n C dL_law_988 rfl ?_
        refine j_iload C dL_law_989 rfl ?_
        refine j_iconst (v := (nI 3)) C dL_law_991 rfl ?_
        refine j_iadd (z := (nI (5 * q + 3))) C dL_law_992 (nI_add _ _) ?_
        refine j_sld (z := x3) C hX hbl hbA (5 * q + 3) rfl (by omega) (by omega) es3 dL_law_993 ?_
        refine j_callV C (q0 := 6) (g_part_o l E A hi hr_i hm_i hf_i hn_i ho) ok_X5_part_ w_1080 (by decide) rfl rfl (Nat.le_of_ble_eq_true rfl) rfl rfl ⟨by omega, by omega⟩ dL_law_994 (fun _ _ h => h.elim) (fun _ _ h => ?_)
        obtain ⟨aa2, rfl, rfl⟩ := h
        refine j_astore (lv' := [(6, .ref aa2), (5, .int (nI 0)), (4, .int (nI (5 * q))), (3, .ref ot), (2, .ref mo), (1, .ref dk), (0, .ref bs)]) C dL_law_997 (by decide) rfl ?_
        refine j_goto (tgt := 1674) C dL_law_999 (by decide) ?_
        refine j_lv (lv' := [(4, .int (nI (5 * q))), (3, .ref ot), (2, .ref mo), (1, .ref dk), (0, .ref bs)]) (by simp only [List.mem_cons, List.not_mem_nil, or_false, forall_eq_or_imp, forall_eq, true_or, or_true, and_self, Nat.add_zero]) ?_
        refine j_widen (k := cs + 600) (n := sl + 10000) (by omega) (by omega) ?_
        exact kk _ _ _ _ _ _ _ _ _ _ _ _ _ (hR)
  · skip
    refine j_aload_n C dL_law_950 rfl ?_
    refine j_aload_n C dL_law_951 rfl ?_
    refine j_iload C dL_law_952 rfl ?_
    refine j_iconst (v := (nI 1)) C dL_law_954 rfl ?_
    refine j_iadd (z := (nI (5 * q + 1))) C dL_law_955 (nI_add _ _) ?_
    refine j_sld (z := x1) C hX hbl hbA (5 * q + 1) rfl (by omega) (by omega) es1 dL_law_956 ?_
    refine j_aload_n C dL_law_957 rfl ?_
    refine j_iload C dL_law_958 rfl ?_
    refine j_iconst (v := (nI 2)) C dL_law_960 rfl ?_
    refine j_iadd (z := (nI (5 * q + 2))) C dL_law_961 (nI_add _ _) ?_
    refine j_sld (z := x2) C hX hbl hbA (5 * q + 2) rfl (by omega) (by omega) es2 dL_law_962 ?_
    refine j_aload_n C dL_law_963 rfl ?_
    refine j_iload C dL_law_964 rfl ?_
    refine j_iconst (v := (nI 3)) C dL_law_966 rfl ?_
    refine j_iadd (z := (nI (5 * q + 3))) C dL_law_967 (nI_add _ _) ?_
    refine j_sld (z := x3) C hX hbl hbA (5 * q + 3) rfl (by omega) (by omega) es3 dL_law_968 ?_
    refine j_aload_n C dL_law_969 rfl ?_
    refine j_callSH C (w_part_jIO l E A (f_part_b l hl E A hbx1)) ok_L_part w_773 (by decide) rfl rfl (Nat.le_of_ble_eq_true rfl) ⟨by omega, by omega⟩ dL_law_970 (fun _ _ h => ?_)
    obtain ⟨rfl, rfl⟩ := h
    refine j_istore (lv' := [(5, .int (nI 1)), (4, .int (nI (5 * q))), (3, .ref ot), (2, .ref mo), (1, .ref dk), (0, .ref bs)]) C dL_law_973 (by decide) rfl ?_
    refine j_aload_n C dL_law_975 rfl ?_
    refine j_aload_n C dL_law_976 rfl ?_
    refine j_iload C dL_law_977 rfl ?_
    refine j_iconst (v := (nI 1)) C dL_law_979 rfl ?_
    refine j_iadd (z := (nI (5 * q + 1))) C dL_law_980 (nI_add _ _) ?_
    refine j_sld (z := x1) C hX hbl hbA (5 * q + 1) rfl (by omega) (by omega) es1 dL_law_981 ?_
    refine j_aload_n C dL_law_982 rfl ?_
    refine j_iload C dL_law_983 rfl ?_
    refine j_iconst (v := (nI 2)) C dL_law_985 rfl ?_
    refine j_iadd (z := (nI (5 * q + 2))) C dL_law_986 (nI_add _ _) ?_
    refine j_sld (z := x2) C hX hbl hbA (5 * q + 2) rfl (by omega) (by omega) es2 dL_law_987 ?_
    refine j_aload_n C dL_law_988 rfl ?_
    refine j_iload C dL_law_989 rfl ?_
    refine j_iconst (v := (nI 3)) C dL_law_991 rfl ?_
    refine j_iadd (z := (nI (5 * q + 3))) C dL_law_992 (nI_add _ _) ?_
    refine j_sld (z := x3) C hX hbl hbA (5 * q + 3) rfl (by omega) (by omega) es3 dL_law_993 ?_
    refine j_callV C (q0 := 6) (g_part_b l E A hbx1) ok_X5_part_ w_1080 (by decide) rfl rfl (Nat.le_of_ble_eq_true rfl) rfl rfl ⟨by omega, by omega⟩ dL_law_994 (fun _ _ h => h.elim) (fun _ _ h => ?_)
    obtain ⟨aa2, rfl, rfl⟩ := h
    refine j_astore (lv' := [(6, .ref aa2), (5, .int (nI 1)), (4, .int (nI (5 * q))), (3, .ref ot), (2, .ref mo), (1, .ref dk), (0, .ref bs)]) C dL_law_997 (by decide) rfl ?_
    refine j_goto (tgt := 1674) C dL_law_999 (by decide) ?_
    refine j_lv (lv' := [(4, .int (nI (5 * q))), (3, .ref ot), (2, .ref mo), (1, .ref dk), (0, .ref bs)]) (by simp only [List.mem_cons, List.not_mem_nil, or_false, forall_eq_or_imp, forall_eq, true_or, or_true, and_self, Nat.add_zero]) ?_
    refine j_widen (k := cs + 600) (n := sl + 10000) (by omega) (by omega) ?_
    exact kk _ _ _ _ _ _ _ _ _ _ _ _ _ (hR)
set_option maxHeartbeats 4000000 in
set_option maxRecDepth 100000 in
theorem op_orElse (l : Launch) (hl : l.stackTraces = false) (E : jE) (A : Nat → Prop) {t sz sg la dk ot mo ou : Nat} {z g b : Nat → Int32} {cr ca cg ck : Int32} {on : Int64} {os : Value} {th : Int32} {ro : Nat → Option Nat} {LL : List Nat} {ff : Nat → va_E} {p : Program} {e : Env} {R : Room} {s : State} {m : MethodId} {args : Array Value} {below : List Frame} {meth : Method} {c : Code} {Q : State → Prop} {nn mc ms bs Ln q cs sl : Nat} {xs : Nat → Int32} {x1 x2 x3 x4 : Int32} (C : jC p l e R s m args below meth c x code 7 ret 2000 mc ms E A) (hX : va_X bs Ln xs s s.heap) (hbl : bs < s.heap.size) (hbA : ¬ A bs) (hLn : Ln ≤ 2560) (hq : 5 * q + 5 ≤ Ln) (hmc : cs + 600 ≤ mc) (hms : sl + 10000 ≤ ms) (es1 : xs (5 * q + 1) = x1) (es2 : xs (5 * q + 2) = x2) (es3 : xs (5 * q + 3) = x3) (es4 : xs (5 * q + 4) = x4) (hR : Rel E z g ro LL ff) (kk : ∀ (z' g' b' : Nat → Int32) (cr' ca' cg' ck' : Int32) (on' : Int64) (os' : Value) (th' : Int32) (ro' : Nat → Option Nat) (L' : List Nat) (f' : Nat → va_E), Rel E z' g' ro' L' f' → jJ p l e R s m args below meth c E A 7 Q (cs + 600) (sl + 10000) 1674 [(4, .int (nI (5 * q))), (3, .ref ot), (2, .ref mo), (1, .ref dk), (0, .ref bs)] [] (gW E t sz sg la dk ot mo ou (z') (g') (b') (cr') (ca') (cg') (ck') (on') (os') (th') (cr') (ca') (cg') (ck') (ro') (L') (f'))) : jJ p l e R s m args below meth c E A 7 Q cs sl 1351 [(4, .int (nI (5 * q))), (3, .ref ot), (2, .ref mo), (1, .ref dk), (0, .ref bs)] [] (gW E t sz sg la dk ot mo ou z g b cr ca cg ck on os th cr ca cg ck ro LL ff) := by
  have hT := hR.tx
  rcases seat_cases x1 9 (by decide) with ⟨i, hi, rfl⟩ | hbx1
  · skip
    rcases seat_cases x2 9 (by decide) with ⟨j, hj, rfl⟩ | hbx2
    · skip
      rcases hR.1 i (by omega) with ⟨hz_i, hr_i⟩ | ⟨a_i, n_i, h_i, hn_i, hz_i, hr_i, hm_i, hf_i, hs_i⟩
      · skip
        rcases hR.1 j (by omega) with ⟨hz_j, hr_j⟩ | ⟨a_j, n_j, h_j, hn_j, hz_j, hr_j, hm_j, hf_j, hs_j⟩
        · skip
          refine j_aload_n C dL_law_1351 rfl ?_
          refine j_aload_n C dL_law_1352 rfl ?_
          refine j_iload C dL_law_1353 rfl ?_
          refine j_iconst (v := (nI 1)) C dL_law_1355 rfl ?_
          refine j_iadd (z := (nI (5 * q + 1))) C dL_law_1356 (nI_add _ _) ?_
          refine j_sld (z := (nI i)) C hX hbl hbA (5 * q + 1) rfl (by omega) (by omega) es1 dL_law_1357 ?_
          refine j_aload_n C dL_law_1358 rfl ?_
          refine j_iload C dL_law_1359 rfl ?_
          refine j_iconst (v := (nI 2)) C dL_law_1361 rfl ?_
          refine j_iadd (z := (nI (5 * q + 2))) C dL_law_1362 (nI_add _ _) ?_
          refine j_sld (z := (nI j)) C hX hbl hbA (5 * q + 2) rfl (by omega) (by omega) es2 dL_law_1363 ?_
          refine j_aload_n C dL_law_1364 rfl ?_
          refine j_callSH C (w_orElse_r l E A (f_orElse_m l E A hi hz_i hj hz_j)) ok_L_orElse w_853 (by decide) rfl rfl (Nat.le_of_ble_eq_true rfl) ⟨by omega, by omega⟩ dL_law_1365 (fun _ _ h => ?_)
          obtain ⟨aa1, bb1, rfl, rfl⟩ := h
          refine j_istore (lv' := [(5, .int (nI 0)), (4, .int (nI (5 * q))), (3, .ref ot), (2, .ref mo), (1, .ref dk), (0, .ref bs)]) C dL_law_1368 (by decide) rfl ?_
          refine j_aload_n C dL_law_1370 rfl ?_
          refine j_aload_n C dL_law_1371 rfl ?_
          refine j_iload C dL_law_1372 rfl ?_
          refine j_iconst (v := (nI 1)) C dL_law_1374 rfl ?_
          refine j_iadd (z := (nI (5 * q + 1))) C dL_law_1375 (nI_add _ _) ?_
          refine j_sld (z := (nI i)) C hX hbl hbA (5 * q + 1) rfl (by omega) (by omega) es1 dL_law_1376 ?_
          refine j_aload_n C dL_law_1377 rfl ?_
          refine j_iload C dL_law_1378 rfl ?_
          refine j_iconst (v := (nI 2)) C dL_law_1380 rfl ?_
          refine j_iadd (z := (nI (5 * q + 2))) C dL_law_1381 (nI_add _ _) ?_
          refine j_sld (z := (nI j)) C hX hbl hbA (5 * q + 2) rfl (by omega) (by omega) es2 dL_law_1382 ?_
          refine j_callV C (q0 := 6) (g_orElse_m l E A hi hr_i hj hr_j) ok_X5_orElse w_1138 (by decide) rfl rfl (Nat.le_of_ble_eq_true rfl) rfl rfl ⟨by omega, by omega⟩ dL_law_1383 (fun _ _ h => h.elim) (fun _ _ h => ?_)
          obtain ⟨aa2, rfl, rfl⟩ := h
          refine j_astore (lv' := [(6, .ref aa2), (5, .int (nI 0)), (4, .int (nI (5 * q))), (3, .ref ot), (2, .ref mo), (1, .ref dk), (0, .ref bs)]) C dL_law_1386 (by decide) rfl ?_
          refine j_goto (tgt := 1674) C dL_law_1388 (by decide) ?_
          refine j_lv (lv' := [(4, .int (nI (5 * q))), (3, .ref ot), (2, .ref mo), (1, .ref dk), (0, .ref bs)]) (by simp only [List.mem_cons, List.not_mem_nil, or_false, forall_eq_or_imp, forall_eq, true_or, or_true, and_self, Nat.add_zero]) ?_
          refine j_widen (k := cs + 600) (n := sl + 10000) (by omega) (by omega) ?_
          exact kk _ _ _ _ _ _ _ _ _ _ _ _ _ (hR)
        · skip
          refine j_aload_n C dL_law_1351 rfl ?_
          refine j_aload_n C dL_law_1352 rfl ?_
          refine j_iload C dL_law_1353 rfl ?_
          refine j_iconst (v := (nI 1)) C dL_law_1355 rfl ?_
          refine j_iadd (z := (nI (5 * q + 1))) C dL_law_1356 (nI_add _ _) ?_
          refine j_sld (z := (nI i)) C hX hbl hbA (5 * q + 1) rfl (by omega) (by omega) es1 dL_law_1357 ?_
          refine j_aload_n C dL_law_1358 rfl ?_
          refine j_iload C dL_law_1359 rfl ?_
          refine j_iconst (v := (nI 2)) C dL_law_1361 rfl ?_
          refine j_iadd (z := (nI (5 * q + 2))) C dL_law_1362 (nI_add _ _) ?_
          refine j_sld (z := (nI j)) C hX hbl hbA (5 * q + 2) rfl (by omega) (by omega) es2 dL_law_1363 ?_
          refine j_aload_n C dL_law_1364 rfl ?_
          refine j_callSH C (w_orElse_r l E A (f_orElse_k2 l E A hi hz_i hj hn_j hz_j (fun k hk => (hs_j k hk).1 ▸ (hs_j k hk).2))) ok_L_orElse w_853 (by decide) rfl rfl (Nat.le_of_ble_eq_true rfl) ⟨by omega, by omega⟩ dL_law_1365 (fun _ _ h => ?_)
          obtain ⟨aa1, bb1, rfl, rfl⟩ := h
          refine j_istore (lv' := [(5, .int (nI 0)), (4, .int (nI (5 * q))), (3, .ref ot), (2, .ref mo), (1, .ref dk), (0, .ref bs)]) C dL_law_1368 (by decide) rfl ?_
          refine j_aload_n C dL_law_1370 rfl ?_
          refine j_aload_n C dL_law_1371 rfl ?_
          refine j_iload C dL_law_1372 rfl ?_
          refine j_iconst (v := (nI 1)) C dL_law_1374 rfl ?_
          refine j_iadd (z := (nI (5 * q + 1))) C dL_law_1375 (nI_add _ _) ?_
          refine j_sld (z := (nI i)) C hX hbl hbA (5 * q + 1) rfl (by omega) (by omega) es1 dL_law_1376 ?_
          refine j_aload_n C dL_law_1377 rfl ?_
          refine j_iload C dL_law_1378 rfl ?_
          refine j_iconst (v := (nI 2)) C dL_law_1380 rfl ?_
          refine j_iadd (z := (nI (5 * q + 2))) C dL_law_1381 (nI_add _ _) ?_
          refine j_sld (z := (nI j)) C hX hbl hbA (5 * q + 2) rfl (by omega) (by omega) es2 dL_law_1382 ?_
          refine j_callV C (q0 := 6) (g_orElse_k2 l E A hi hr_i hj hr_j hm_j hf_j hn_j (fun k hk => (hs_j k hk).2)) ok_X5_orElse w_1138 (by decide) rfl rfl (Nat.le_of_ble_eq_true rfl) rfl rfl ⟨by omega, by omega⟩ dL_law_1383 (fun _ _ h => h.elim) (fun _ _ h => ?_)
          obtain ⟨aa2, rfl, rfl⟩ := h
          refine j_astore (lv' := [(6, .ref aa2), (5, .int (nI 0)), (4, .int (nI (5 * q))), (3, .ref ot), (2, .ref mo), (1, .ref dk), (0, .ref bs)]) C dL_law_1386 (by decide) rfl ?_
          refine j_goto (tgt := 1674) C dL_law_1388 (by decide) ?_
          refine j_lv (lv' := [(4, .int (nI (5 * q))), (3, .ref ot), (2, .ref mo), (1, .ref dk), (0, .ref bs)]) (by simp only [List.mem_cons, List.not_mem_nil, or_false, forall_eq_or_imp, forall_eq, true_or, or_true, and_self, Nat.add_zero]) ?_
          refine j_widen (k := cs + 600) (n := sl + 10000) (by omega) (by omega) ?_
          exact kk _ _ _ _ _ _ _ _ _ _ _ _ _ (hR)
      · skip
        refine j_aload_n C dL_law_1351 rfl ?_
        refine j_aload_n C dL_law_1352 rfl ?_
        refine j_iload C dL_law_1353 rfl ?_
        refine j_iconst (v := (nI 1)) C dL_law_1355 rfl ?_
        refine j_iadd (z := (nI (5 * q + 1))) C dL_law_1356 (nI_add _ _) ?_
        refine j_sld (z := (nI i)) C hX hbl hbA (5 * q + 1) rfl (by omega) (by omega) es1 dL_law_1357 ?_
        refine j_aload_n C dL_law_1358 rfl ?_
        refine j_iload C dL_law_1359 rfl ?_
        refine j_iconst (v := (nI 2)) C dL_law_1361 rfl ?_
        refine j_iadd (z := (nI (5 * q + 2))) C dL_law_1362 (nI_add _ _) ?_
        refine j_sld (z := (nI j)) C hX hbl hbA (5 * q + 2) rfl (by omega) (by omega) es2 dL_law_1363 ?_
        refine j_aload_n C dL_law_1364 rfl ?_
        refine j_callSH C (w_orElse_r l E A (f_orElse_k1 l E A hi hn_i hz_i (fun k hk => (hs_i k hk).1 ▸ (hs_i k hk).2) hj)) ok_L_orElse w_853 (by decide) rfl rfl (Nat.le_of_ble_eq_true rfl) ⟨by omega, by omega⟩ dL_law_1365 (fun _ _ h => ?_)
        obtain ⟨aa1, bb1, rfl, rfl⟩ := h
        refine j_istore (lv' := [(5, .int (nI 0)), (4, .int (nI (5 * q))), (3, .ref ot), (2, .ref mo), (1, .ref dk), (0, .ref bs)]) C dL_law_1368 (by decide) rfl ?_
        refine j_aload_n C dL_law_1370 rfl ?_
        refine j_aload_n C dL_law_1371 rfl ?_
        refine j_iload C dL_law_1372 rfl ?_
        refine j_iconst (v := (nI 1)) C dL_law_1374 rfl ?_
        refine j_iadd (z := (nI (5 * q + 1))) C dL_law_1375 (nI_add _ _) ?_
        refine j_sld (z := (nI i)) C hX hbl hbA (5 * q + 1) rfl (by omega) (by omega) es1 dL_law_1376 ?_
        refine j_aload_n C dL_law_1377 rfl ?_
        refine j_iload C dL_law_1378 rfl ?_
        refine j_iconst (v := (nI 2)) C dL_law_1380 rfl ?_
        refine j_iadd (z := (nI (5 * q + 2))) C dL_law_1381 (nI_add _ _) ?_
        refine j_sld (z := (nI j)) C hX hbl hbA (5 * q + 2) rfl (by omega) (by omega) es2 dL_law_1382 ?_
        refine j_callV C (q0 := 6) (g_orElse_k1 l E A hi hr_i hm_i hf_i hn_i (fun k hk => (hs_i k hk).2) hj) ok_X5_orElse w_1138 (by decide) rfl rfl (Nat.le_of_ble_eq_true rfl) rfl rfl ⟨by omega, by omega⟩ dL_law_1383 (fun _ _ h => h.elim) (fun _ _ h => ?_)
        obtain ⟨aa2, rfl, rfl⟩ := h
        refine j_astore (lv' := [(6, .ref aa2), (5, .int (nI 0)), (4, .int (nI (5 * q))), (3, .ref ot), (2, .ref mo), (1, .ref dk), (0, .ref bs)]) C dL_law_1386 (by decide) rfl ?_
        refine j_goto (tgt := 1674) C dL_law_1388 (by decide) ?_
        refine j_lv (lv' := [(4, .int (nI (5 * q))), (3, .ref ot), (2, .ref mo), (1, .ref dk), (0, .ref bs)]) (by simp only [List.mem_cons, List.not_mem_nil, or_false, forall_eq_or_imp, forall_eq, true_or, or_true, and_self, Nat.add_zero]) ?_
        refine j_widen (k := cs + 600) (n := sl + 10000) (by omega) (by omega) ?_
        exact kk _ _ _ _ _ _ _ _ _ _ _ _ _ (hR)
    · skip
      refine j_aload_n C dL_law_1351 rfl ?_
      refine j_aload_n C dL_law_1352 rfl ?_
      refine j_iload C dL_law_1353 rfl ?_
      refine j_iconst (v := (nI 1)) C dL_law_1355 rfl ?_
      refine j_iadd (z := (nI (5 * q + 1))) C dL_law_1356 (nI_add _ _) ?_
      refine j_sld (z := (nI i)) C hX hbl hbA (5 * q + 1) rfl (by omega) (by omega) es1 dL_law_1357 ?_
      refine j_aload_n C dL_law_1358 rfl ?_
      refine j_iload C dL_law_1359 rfl ?_
      refine j_iconst (v := (nI 2)) C dL_law_1361 rfl ?_
      refine j_iadd (z := (nI (5 * q + 2))) C dL_law_1362 (nI_add _ _) ?_
      refine j_sld (z := x2) C hX hbl hbA (5 * q + 2) rfl (by omega) (by omega) es2 dL_law_1363 ?_
      refine j_aload_n C dL_law_1364 rfl ?_
      refine j_callSH C (w_orElse_jIO l E A (f_orElse_b2 l hl E A hi hbx2)) ok_L_orElse w_853 (by decide) rfl rfl (Nat.le_of_ble_eq_true rfl) ⟨by omega, by omega⟩ dL_law_1365 (fun _ _ h => ?_)
      obtain ⟨rfl, rfl⟩ := h
      refine j_istore (lv' := [(5, .int (nI 1)), (4, .int (nI (5 * q))), (3, .ref ot), (2, .ref mo), (1, .ref dk), (0, .ref bs)]) C dL_law_1368 (by decide) rfl ?_
      refine j_aload_n C dL_law_1370 rfl ?_
      refine j_aload_n C dL_law_1371 rfl ?_
      refine j_iload C dL_law_1372 rfl ?_
      refine j_iconst (v := (nI 1)) C dL_law_1374 rfl ?_
      refine j_iadd (z := (nI (5 * q + 1))) C dL_law_1375 (nI_add _ _) ?_
      refine j_sld (z := (nI i)) C hX hbl hbA (5 * q + 1) rfl (by omega) (by omega) es1 dL_law_1376 ?_
      refine j_aload_n C dL_law_1377 rfl ?_
      refine j_iload C dL_law_1378 rfl ?_
      refine j_iconst (v := (nI 2)) C dL_law_1380 rfl ?_
      refine j_iadd (z := (nI (5 * q + 2))) C dL_law_1381 (nI_add _ _) ?_
      refine j_sld (z := x2) C hX hbl hbA (5 * q + 2) rfl (by omega) (by omega) es2 dL_law_1382 ?_
      refine j_callV C (q0 := 6) (g_orElse_b2 l E A hi hbx2) ok_X5_orElse w_1138 (by decide) rfl rfl (Nat.le_of_ble_eq_true rfl) rfl rfl ⟨by omega, by omega⟩ dL_law_1383 (fun _ _ h => h.elim) (fun _ _ h => ?_)
      obtain ⟨aa2, rfl, rfl⟩ := h
      refine j_astore (lv' := [(6, .ref aa2), (5, .int (nI 1)), (4, .int (nI (5 * q))), (3, .ref ot), (2, .ref mo), (1, .ref dk), (0, .ref bs)]) C dL_law_1386 (by decide) rfl ?_
      refine j_goto (tgt := 1674) C dL_law_1388 (by decide) ?_
      refine j_lv (lv' := [(4, .int (nI (5 * q))), (3, .ref ot), (2, .ref mo), (1, .ref dk), (0, .ref bs)]) (by simp only [List.mem_cons, List.not_mem_nil, or_false, forall_eq_or_imp, forall_eq, true_or, or_true, and_self, Nat.add_zero]) ?_
      refine j_widen (k := cs + 600) (n := sl + 10000) (by omega) (by omega) ?_
      exact kk _ _ _ _ _ _ _ _ _ _ _ _ _ (hR)
  · skip
    refine j_aload_n C dL_law_1351 rfl ?_
    refine j_aload_n C dL_law_1352 rfl ?_
    refine j_iload C dL_law_1353 rfl ?_
    refine j_iconst (v := (nI 1)) C dL_law_1355 rfl ?_
    refine j_iadd (z := (nI (5 * q + 1))) C dL_law_1356 (nI_add _ _) ?_
    refine j_sld (z := x1) C hX hbl hbA (5 * q + 1) rfl (by omega) (by omega) es1 dL_law_1357 ?_
    refine j_aload_n C dL_law_1358 rfl ?_
    refine j_iload C dL_law_1359 rfl ?_
    refine j_iconst (v := (nI 2)) C dL_law_1361 rfl ?_
    refine j_iadd (z := (nI (5 * q + 2))) C dL_law_1362 (nI_add _ _) ?_
    refine j_sld (z := x2) C hX hbl hbA (5 * q + 2) rfl (by omega) (by omega) es2 dL_law_1363 ?_
    refine j_aload_n C dL_law_1364 rfl ?_
    refine j_callSH C (w_orElse_jIO l E A (f_orElse_b1 l hl E A hbx1)) ok_L_orElse w_853 (by decide) rfl rfl (Nat.le_of_ble_eq_true rfl) ⟨by omega, by omega⟩ dL_law_1365 (fun _ _ h => ?_)
    obtain ⟨rfl, rfl⟩ := h
    refine j_istore (lv' := [(5, .int (nI 1)), (4, .int (nI (5 * q))), (3, .ref ot), (2, .ref mo), (1, .ref dk), (0, .ref bs)]) C dL_law_1368 (by decide) rfl ?_
    refine j_aload_n C dL_law_1370 rfl ?_
    refine j_aload_n C dL_law_1371 rfl ?_
    refine j_iload C dL_law_1372 rfl ?_
    refine j_iconst (v := (nI 1)) C dL_law_1374 rfl ?_
    refine j_iadd (z := (nI (5 * q + 1))) C dL_law_1375 (nI_add _ _) ?_
    refine j_sld (z := x1) C hX hbl hbA (5 * q + 1) rfl (by omega) (by omega) es1 dL_law_1376 ?_
    refine j_aload_n C dL_law_1377 rfl ?_
    refine j_iload C dL_law_1378 rfl ?_
    refine j_iconst (v := (nI 2)) C dL_law_1380 rfl ?_
    refine j_iadd (z := (nI (5 * q + 2))) C dL_law_1381 (nI_add _ _) ?_
    refine j_sld (z := x2) C hX hbl hbA (5 * q + 2) rfl (by omega) (by omega) es2 dL_law_1382 ?_
    refine j_callV C (q0 := 6) (g_orElse_b1 l E A hbx1) ok_X5_orElse w_1138 (by decide) rfl rfl (Nat.le_of_ble_eq_true rfl) rfl rfl ⟨by omega, by omega⟩ dL_law_1383 (fun _ _ h => h.elim) (fun _ _ h => ?_)
    obtain ⟨aa2, rfl, rfl⟩ := h
    refine j_astore (lv' := [(6, .ref aa2), (5, .int (nI 1)), (4, .int (nI (5 * q))), (3, .ref ot), (2, .ref mo), (1, .ref dk), (0, .ref bs)]) C dL_law_1386 (by decide) rfl ?_
    refine j_goto (tgt := 1674) C dL_law_1388 (by decide) ?_
    refine j_lv (lv' := [(4, .int (nI (5 * q))), (3, .ref ot), (2, .ref mo), (1, .ref dk), (0, .ref bs)]) (by simp only [List.mem_cons, List.not_mem_nil, or_false, forall_eq_or_imp, forall_eq, true_or, or_true, and_self, Nat.add_zero]) ?_
    refine j_widen (k := cs + 600) (n := sl + 10000) (by omega) (by omega) ?_
    exact kk _ _ _ _ _ _ _ _ _ _ _ _ _ (hR)
set_option maxHeartbeats 4000000 in
set_option maxRecDepth 100000 in
theorem op_orGiven (l : Launch) (hl : l.stackTraces = false) (E : jE) (A : Nat → Prop) {t sz sg la dk ot mo ou : Nat} {z g b : Nat → Int32} {cr ca cg ck : Int32} {on : Int64} {os : Value} {th : Int32} {ro : Nat → Option Nat} {LL : List Nat} {ff : Nat → va_E} {p : Program} {e : Env} {R : Room} {s : State} {m : MethodId} {args : Array Value} {below : List Frame} {meth : Method} {c : Code} {Q : State → Prop} {nn mc ms bs Ln q cs sl : Nat} {xs : Nat → Int32} {x1 x2 x3 x4 : Int32} (C : jC p l e R s m args below meth c x code 7 ret 2000 mc ms E A) (hX : va_X bs Ln xs s s.heap) (hbl : bs < s.heap.size) (hbA : ¬ A bs) (hLn : Ln ≤ 2560) (hq : 5 * q + 5 ≤ Ln) (hmc : cs + 600 ≤ mc) (hms : sl + 10000 ≤ ms) (es1 : xs (5 * q + 1) = x1) (es2 : xs (5 * q + 2) = x2) (es3 : xs (5 * q + 3) = x3) (es4 : xs (5 * q + 4) = x4) (hR : Rel E z g ro LL ff) (kk : ∀ (z' g' b' : Nat → Int32) (cr' ca' cg' ck' : Int32) (on' : Int64) (os' : Value) (th' : Int32) (ro' : Nat → Option Nat) (L' : List Nat) (f' : Nat → va_E), Rel E z' g' ro' L' f' → jJ p l e R s m args below meth c E A 7 Q (cs + 600) (sl + 10000) 1674 [(4, .int (nI (5 * q))), (3, .ref ot), (2, .ref mo), (1, .ref dk), (0, .ref bs)] [] (gW E t sz sg la dk ot mo ou (z') (g') (b') (cr') (ca') (cg') (ck') (on') (os') (th') (cr') (ca') (cg') (ck') (ro') (L') (f'))) : jJ p l e R s m args below meth c E A 7 Q cs sl 1391 [(4, .int (nI (5 * q))), (3, .ref ot), (2, .ref mo), (1, .ref dk), (0, .ref bs)] [] (gW E t sz sg la dk ot mo ou z g b cr ca cg ck on os th cr ca cg ck ro LL ff) := by
  have hT := hR.tx
  rcases seat_cases x1 9 (by decide) with ⟨i, hi, rfl⟩ | hbx1
  · skip
    rcases seat_cases x2 9 (by decide) with ⟨j, hj, rfl⟩ | hbx2
    · skip
      rcases hR.1 i (by omega) with ⟨hz_i, hr_i⟩ | ⟨a_i, n_i, h_i, hn_i, hz_i, hr_i, hm_i, hf_i, hs_i⟩
      · skip
        rcases hR.1 j (by omega) with ⟨hz_j, hr_j⟩ | ⟨a_j, n_j, h_j, hn_j, hz_j, hr_j, hm_j, hf_j, hs_j⟩
        · skip
          refine j_aload_n C dL_law_1391 rfl ?_
          refine j_aload_n C dL_law_1392 rfl ?_
          refine j_iload C dL_law_1393 rfl ?_
          refine j_iconst (v := (nI 1)) C dL_law_1395 rfl ?_
          refine j_iadd (z := (nI (5 * q + 1))) C dL_law_1396 (nI_add _ _) ?_
          refine j_sld (z := (nI i)) C hX hbl hbA (5 * q + 1) rfl (by omega) (by omega) es1 dL_law_1397 ?_
          refine j_aload_n C dL_law_1398 rfl ?_
          refine j_iload C dL_law_1399 rfl ?_
          refine j_iconst (v := (nI 2)) C dL_law_1401 rfl ?_
          refine j_iadd (z := (nI (5 * q + 2))) C dL_law_1402 (nI_add _ _) ?_
          refine j_sld (z := (nI j)) C hX hbl hbA (5 * q + 2) rfl (by omega) (by omega) es2 dL_law_1403 ?_
          refine j_aload_n C dL_law_1404 rfl ?_
          refine j_callSH C (w_orGiven_r l E A (f_orGiven_m l E A hi hz_i hj hz_j)) ok_L_orGiven w_864 (by decide) rfl rfl (Nat.le_of_ble_eq_true rfl) ⟨by omega, by omega⟩ dL_law_1405 (fun _ _ h => ?_)
          obtain ⟨aa1, bb1, rfl, rfl⟩ := h
          refine j_istore (lv' := [(5, .int (nI 0)), (4, .int (nI (5 * q))), (3, .ref ot), (2, .ref mo), (1, .ref dk), (0, .ref bs)]) C dL_law_1408 (by decide) rfl ?_
          refine j_aload_n C dL_law_1410 rfl ?_
          refine j_aload_n C dL_law_1411 rfl ?_
          refine j_iload C dL_law_1412 rfl ?_
          refine j_iconst (v := (nI 1)) C dL_law_1414 rfl ?_
          refine j_iadd (z := (nI (5 * q + 1))) C dL_law_1415 (nI_add _ _) ?_
          refine j_sld (z := (nI i)) C hX hbl hbA (5 * q + 1) rfl (by omega) (by omega) es1 dL_law_1416 ?_
          refine j_aload_n C dL_law_1417 rfl ?_
          refine j_iload C dL_law_1418 rfl ?_
          refine j_iconst (v := (nI 2)) C dL_law_1420 rfl ?_
          refine j_iadd (z := (nI (5 * q + 2))) C dL_law_1421 (nI_add _ _) ?_
          refine j_sld (z := (nI j)) C hX hbl hbA (5 * q + 2) rfl (by omega) (by omega) es2 dL_law_1422 ?_
          refine j_callV C (q0 := 6) (g_orGiven_m l E A hi hr_i hj hr_j) ok_X5_orGiven w_1146 (by decide) rfl rfl (Nat.le_of_ble_eq_true rfl) rfl rfl ⟨by omega, by omega⟩ dL_law_1423 (fun _ _ h => h.elim) (fun _ _ h => ?_)
          obtain ⟨aa2, rfl, rfl⟩ := h
          refine j_astore (lv' := [(6, .ref aa2), (5, .int (nI 0)), (4, .int (nI (5 * q))), (3, .ref ot), (2, .ref mo), (1, .ref dk), (0, .ref bs)]) C dL_law_1426 (by decide) rfl ?_
          refine j_goto (tgt := 1674) C dL_law_1428 (by decide) ?_
          refine j_lv (lv' := [(4, .int (nI (5 * q))), (3, .ref ot), (2, .ref mo), (1, .ref dk), (0, .ref bs)]) (by simp only [List.mem_cons, List.not_mem_nil, or_false, forall_eq_or_imp, forall_eq, true_or, or_true, and_self, Nat.add_zero]) ?_
          refine j_widen (k := cs + 600) (n := sl + 10000) (by omega) (by omega) ?_
          exact kk _ _ _ _ _ _ _ _ _ _ _ _ _ (hR)
        · skip
          refine j_aload_n C dL_law_1391 rfl ?_
          refine j_aload_n C dL_law_1392 rfl ?_
          refine j_iload C dL_law_1393 rfl ?_
          refine j_iconst (v := (nI 1)) C dL_law_1395 rfl ?_
          refine j_iadd (z := (nI (5 * q + 1))) C dL_law_1396 (nI_add _ _) ?_
          refine j_sld (z := (nI i)) C hX hbl hbA (5 * q + 1) rfl (by omega) (by omega) es1 dL_law_1397 ?_
          refine j_aload_n C dL_law_1398 rfl ?_
          refine j_iload C dL_law_1399 rfl ?_
          refine j_iconst (v := (nI 2)) C dL_law_1401 rfl ?_
          refine j_iadd (z := (nI (5 * q + 2))) C dL_law_1402 (nI_add _ _) ?_
          refine j_sld (z := (nI j)) C hX hbl hbA (5 * q + 2) rfl (by omega) (by omega) es2 dL_law_1403 ?_
          refine j_aload_n C dL_law_1404 rfl ?_
          refine j_callSH C (w_orGiven_r l E A (f_orGiven_k2 l E A hi hz_i hj hn_j hz_j (fun k hk => (hs_j k hk).1 ▸ (hs_j k hk).2))) ok_L_orGiven w_864 (by decide) rfl rfl (Nat.le_of_ble_eq_true rfl) ⟨by omega, by omega⟩ dL_law_1405 (fun _ _ h => ?_)
          obtain ⟨aa1, bb1, rfl, rfl⟩ := h
          refine j_istore (lv' := [(5, .int (nI 0)), (4, .int (nI (5 * q))), (3, .ref ot), (2, .ref mo), (1, .ref dk), (0, .ref bs)]) C dL_law_1408 (by decide) rfl ?_
          refine j_aload_n C dL_law_1410 rfl ?_
          refine j_aload_n C dL_law_1411 rfl ?_
          refine j_iload C dL_law_1412 rfl ?_
          refine j_iconst (v := (nI 1)) C dL_law_1414 rfl ?_
          refine j_iadd (z := (nI (5 * q + 1))) C dL_law_1415 (nI_add _ _) ?_
          refine j_sld (z := (nI i)) C hX hbl hbA (5 * q + 1) rfl (by omega) (by omega) es1 dL_law_1416 ?_
          refine j_aload_n C dL_law_1417 rfl ?_
          refine j_iload C dL_law_1418 rfl ?_
          refine j_iconst (v := (nI 2)) C dL_law_1420 rfl ?_
          refine j_iadd (z := (nI (5 * q + 2))) C dL_law_1421 (nI_add _ _) ?_
          refine j_sld (z := (nI j)) C hX hbl hbA (5 * q + 2) rfl (by omega) (by omega) es2 dL_law_1422 ?_
          refine j_callV C (q0 := 6) (g_orGiven_k2 l E A hi hr_i hj hr_j hm_j hf_j hn_j (fun k hk => (hs_j k hk).2)) ok_X5_orGiven w_1146 (by decide) rfl rfl (Nat.le_of_ble_eq_true rfl) rfl rfl ⟨by omega, by omega⟩ dL_law_1423 (fun _ _ h => h.elim) (fun _ _ h => ?_)
          obtain ⟨aa2, rfl, rfl⟩ := h
          refine j_astore (lv' := [(6, .ref aa2), (5, .int (nI 0)), (4, .int (nI (5 * q))), (3, .ref ot), (2, .ref mo), (1, .ref dk), (0, .ref bs)]) C dL_law_1426 (by decide) rfl ?_
          refine j_goto (tgt := 1674) C dL_law_1428 (by decide) ?_
          refine j_lv (lv' := [(4, .int (nI (5 * q))), (3, .ref ot), (2, .ref mo), (1, .ref dk), (0, .ref bs)]) (by simp only [List.mem_cons, List.not_mem_nil, or_false, forall_eq_or_imp, forall_eq, true_or, or_true, and_self, Nat.add_zero]) ?_
          refine j_widen (k := cs + 600) (n := sl + 10000) (by omega) (by omega) ?_
          exact kk _ _ _ _ _ _ _ _ _ _ _ _ _ (hR)
      · skip
        refine j_aload_n C dL_law_1391 rfl ?_
        refine j_aload_n C dL_law_1392 rfl ?_
        refine j_iload C dL_law_1393 rfl ?_
        refine j_iconst (v := (nI 1)) C dL_law_1395 rfl ?_
        refine j_iadd (z := (nI (5 * q + 1))) C dL_law_1396 (nI_add _ _) ?_
        refine j_sld (z := (nI i)) C hX hbl hbA (5 * q + 1) rfl (by omega) (by omega) es1 dL_law_1397 ?_
        refine j_aload_n C dL_law_1398 rfl ?_
        refine j_iload C dL_law_1399 rfl ?_
        refine j_iconst (v := (nI 2)) C dL_law_1401 rfl ?_
        refine j_iadd (z := (nI (5 * q + 2))) C dL_law_1402 (nI_add _ _) ?_
        refine j_sld (z := (nI j)) C hX hbl hbA (5 * q + 2) rfl (by omega) (by omega) es2 dL_law_1403 ?_
        refine j_aload_n C dL_law_1404 rfl ?_
        refine j_callSH C (w_orGiven_r l E A (f_orGiven_k1 l E A hi hn_i hz_i (fun k hk => (hs_i k hk).1 ▸ (hs_i k hk).2) hj)) ok_L_orGiven w_864 (by decide) rfl rfl (Nat.le_of_ble_eq_true rfl) ⟨by omega, by omega⟩ dL_law_1405 (fun _ _ h => ?_)
        obtain ⟨aa1, bb1, rfl, rfl⟩ := h
        refine j_istore (lv' := [(5, .int (nI 0)), (4, .int (nI (5 * q))), (3, .ref ot), (2, .ref mo), (1, .ref dk), (0, .ref bs)]) C dL_law_1408 (by decide) rfl ?_
        refine j_aload_n C dL_law_1410 rfl ?_
        refine j_aload_n C dL_law_1411 rfl ?_
        refine j_iload C dL_law_1412 rfl ?_
        refine j_iconst (v := (nI 1)) C dL_law_1414 rfl ?_
        refine j_iadd (z := (nI (5 * q + 1))) C dL_law_1415 (nI_add _ _) ?_
        refine j_sld (z := (nI i)) C hX hbl hbA (5 * q + 1) rfl (by omega) (by omega) es1 dL_law_1416 ?_
        refine j_aload_n C dL_law_1417 rfl ?_
        refine j_iload C dL_law_1418 rfl ?_
        refine j_iconst (v := (nI 2)) C dL_law_1420 rfl ?_
        refine j_iadd (z := (nI (5 * q + 2))) C dL_law_1421 (nI_add _ _) ?_
        refine j_sld (z := (nI j)) C hX hbl hbA (5 * q + 2) rfl (by omega) (by omega) es2 dL_law_1422 ?_
        refine j_callV C (q0 := 6) (g_orGiven_k1 l E A hi hr_i hm_i hf_i hn_i (fun k hk => (hs_i k hk).2) hj) ok_X5_orGiven w_1146 (by decide) rfl rfl (Nat.le_of_ble_eq_true rfl) rfl rfl ⟨by omega, by omega⟩ dL_law_1423 (fun _ _ h => h.elim) (fun _ _ h => ?_)
        obtain ⟨aa2, rfl, rfl⟩ := h
        refine j_astore (lv' := [(6, .ref aa2), (5, .int (nI 0)), (4, .int (nI (5 * q))), (3, .ref ot), (2, .ref mo), (1, .ref dk), (0, .ref bs)]) C dL_law_1426 (by decide) rfl ?_
        refine j_goto (tgt := 1674) C dL_law_1428 (by decide) ?_
        refine j_lv (lv' := [(4, .int (nI (5 * q))), (3, .ref ot), (2, .ref mo), (1, .ref dk), (0, .ref bs)]) (by simp only [List.mem_cons, List.not_mem_nil, or_false, forall_eq_or_imp, forall_eq, true_or, or_true, and_self, Nat.add_zero]) ?_
        refine j_widen (k := cs + 600) (n := sl + 10000) (by omega) (by omega) ?_
        rw [show (cg + nI 0 : Int32) = cg from Int32.add_zero cg]
        exact kk _ _ _ _ _ _ _ _ _ _ _ _ _ (hR)
    · skip
      refine j_aload_n C dL_law_1391 rfl ?_
      refine j_aload_n C dL_law_1392 rfl ?_
      refine j_iload C dL_law_1393 rfl ?_
      refine j_iconst (v := (nI 1)) C dL_law_1395 rfl ?_
      refine j_iadd (z := (nI (5 * q + 1))) C dL_law_1396 (nI_add _ _) ?_
      refine j_sld (z := (nI i)) C hX hbl hbA (5 * q + 1) rfl (by omega) (by omega) es1 dL_law_1397 ?_
      refine j_aload_n C dL_law_1398 rfl ?_
      refine j_iload C dL_law_1399 rfl ?_
      refine j_iconst (v := (nI 2)) C dL_law_1401 rfl ?_
      refine j_iadd (z := (nI (5 * q + 2))) C dL_law_1402 (nI_add _ _) ?_
      refine j_sld (z := x2) C hX hbl hbA (5 * q + 2) rfl (by omega) (by omega) es2 dL_law_1403 ?_
      refine j_aload_n C dL_law_1404 rfl ?_
      refine j_callSH C (w_orGiven_jIO l E A (f_orGiven_b2 l hl E A hi hbx2)) ok_L_orGiven w_864 (by decide) rfl rfl (Nat.le_of_ble_eq_true rfl) ⟨by omega, by omega⟩ dL_law_1405 (fun _ _ h => ?_)
      obtain ⟨rfl, rfl⟩ := h
      refine j_istore (lv' := [(5, .int (nI 1)), (4, .int (nI (5 * q))), (3, .ref ot), (2, .ref mo), (1, .ref dk), (0, .ref bs)]) C dL_law_1408 (by decide) rfl ?_
      refine j_aload_n C dL_law_1410 rfl ?_
      refine j_aload_n C dL_law_1411 rfl ?_
      refine j_iload C dL_law_1412 rfl ?_
      refine j_iconst (v := (nI 1)) C dL_law_1414 rfl ?_
      refine j_iadd (z := (nI (5 * q + 1))) C dL_law_1415 (nI_add _ _) ?_
      refine j_sld (z := (nI i)) C hX hbl hbA (5 * q + 1) rfl (by omega) (by omega) es1 dL_law_1416 ?_
      refine j_aload_n C dL_law_1417 rfl ?_
      refine j_iload C dL_law_1418 rfl ?_
      refine j_iconst (v := (nI 2)) C dL_law_1420 rfl ?_
      refine j_iadd (z := (nI (5 * q + 2))) C dL_law_1421 (nI_add _ _) ?_
      refine j_sld (z := x2) C hX hbl hbA (5 * q + 2) rfl (by omega) (by omega) es2 dL_law_1422 ?_
      refine j_callV C (q0 := 6) (g_orGiven_b2 l E A hi hbx2) ok_X5_orGiven w_1146 (by decide) rfl rfl (Nat.le_of_ble_eq_true rfl) rfl rfl ⟨by omega, by omega⟩ dL_law_1423 (fun _ _ h => h.elim) (fun _ _ h => ?_)
      obtain ⟨aa2, rfl, rfl⟩ := h
      refine j_astore (lv' := [(6, .ref aa2), (5, .int (nI 1)), (4, .int (nI (5 * q))), (3, .ref ot), (2, .ref mo), (1, .ref dk), (0, .ref bs)]) C dL_law_1426 (by decide) rfl ?_
      refine j_goto (tgt := 1674) C dL_law_1428 (by decide) ?_
      refine j_lv (lv' := [(4, .int (nI (5 * q))), (3, .ref ot), (2, .ref mo), (1, .ref dk), (0, .ref bs)]) (by simp only [List.mem_cons, List.not_mem_nil, or_false, forall_eq_or_imp, forall_eq, true_or, or_true, and_self, Nat.add_zero]) ?_
      refine j_widen (k := cs + 600) (n := sl + 10000) (by omega) (by omega) ?_
      exact kk _ _ _ _ _ _ _ _ _ _ _ _ _ (hR)
  · skip
    refine j_aload_n C dL_law_1391 rfl ?_
    refine j_aload_n C dL_law_1392 rfl ?_
    refine j_iload C dL_law_1393 rfl ?_
    refine j_iconst (v := (nI 1)) C dL_law_1395 rfl ?_
    refine j_iadd (z := (nI (5 * q + 1))) C dL_law_1396 (nI_add _ _) ?_
    refine j_sld (z := x1) C hX hbl hbA (5 * q + 1) rfl (by omega) (by omega) es1 dL_law_1397 ?_
    refine j_aload_n C dL_law_1398 rfl ?_
    refine j_iload C dL_law_1399 rfl ?_
    refine j_iconst (v := (nI 2)) C dL_law_1401 rfl ?_
    refine j_iadd (z := (nI (5 * q + 2))) C dL_law_1402 (nI_add _ _) ?_
    refine j_sld (z := x2) C hX hbl hbA (5 * q + 2) rfl (by omega) (by omega) es2 dL_law_1403 ?_
    refine j_aload_n C dL_law_1404 rfl ?_
    refine j_callSH C (w_orGiven_jIO l E A (f_orGiven_b1 l hl E A hbx1)) ok_L_orGiven w_864 (by decide) rfl rfl (Nat.le_of_ble_eq_true rfl) ⟨by omega, by omega⟩ dL_law_1405 (fun _ _ h => ?_)
    obtain ⟨rfl, rfl⟩ := h
    refine j_istore (lv' := [(5, .int (nI 1)), (4, .int (nI (5 * q))), (3, .ref ot), (2, .ref mo), (1, .ref dk), (0, .ref bs)]) C dL_law_1408 (by decide) rfl ?_
    refine j_aload_n C dL_law_1410 rfl ?_
    refine j_aload_n C dL_law_1411 rfl ?_
    refine j_iload C dL_law_1412 rfl ?_
    refine j_iconst (v := (nI 1)) C dL_law_1414 rfl ?_
    refine j_iadd (z := (nI (5 * q + 1))) C dL_law_1415 (nI_add _ _) ?_
    refine j_sld (z := x1) C hX hbl hbA (5 * q + 1) rfl (by omega) (by omega) es1 dL_law_1416 ?_
    refine j_aload_n C dL_law_1417 rfl ?_
    refine j_iload C dL_law_1418 rfl ?_
    refine j_iconst (v := (nI 2)) C dL_law_1420 rfl ?_
    refine j_iadd (z := (nI (5 * q + 2))) C dL_law_1421 (nI_add _ _) ?_
    refine j_sld (z := x2) C hX hbl hbA (5 * q + 2) rfl (by omega) (by omega) es2 dL_law_1422 ?_
    refine j_callV C (q0 := 6) (g_orGiven_b1 l E A hbx1) ok_X5_orGiven w_1146 (by decide) rfl rfl (Nat.le_of_ble_eq_true rfl) rfl rfl ⟨by omega, by omega⟩ dL_law_1423 (fun _ _ h => h.elim) (fun _ _ h => ?_)
    obtain ⟨aa2, rfl, rfl⟩ := h
    refine j_astore (lv' := [(6, .ref aa2), (5, .int (nI 1)), (4, .int (nI (5 * q))), (3, .ref ot), (2, .ref mo), (1, .ref dk), (0, .ref bs)]) C dL_law_1426 (by decide) rfl ?_
    refine j_goto (tgt := 1674) C dL_law_1428 (by decide) ?_
    refine j_lv (lv' := [(4, .int (nI (5 * q))), (3, .ref ot), (2, .ref mo), (1, .ref dk), (0, .ref bs)]) (by simp only [List.mem_cons, List.not_mem_nil, or_false, forall_eq_or_imp, forall_eq, true_or, or_true, and_self, Nat.add_zero]) ?_
    refine j_widen (k := cs + 600) (n := sl + 10000) (by omega) (by omega) ?_
    exact kk _ _ _ _ _ _ _ _ _ _ _ _ _ (hR)
