section
-- ===== PART A: goes FIRST, ahead of the names: the tables' words, and 'selects' of the private methods out of them =====
/-- a private method of a class that the tables say can be made, by its rows of tables_1 -/
def lw_okq (q : MethodName × Nat) : Prop := (q.1.cls ≠ "java/lang/invoke/MethodHandle" ∧ q.1.cls ≠ "java/lang/invoke/VarHandle") ∧ Cond.instantiable q.1.cls q.2 ∈ tables_1 ∧ Cond.privateMethod q.1 ∈ tables_1 ∧ Cond.instanceMethod q.1 ∈ tables_1
theorem lw_p0 : lw_okq (⟨"Checkdesk", "refuse", "()I"⟩, 5) := ⟨⟨by decide +kernel, by decide +kernel⟩, List.mem_of_getElem? (i := 25) (by decide +kernel), List.mem_of_getElem? (i := 73) (by decide +kernel), List.mem_of_getElem? (i := 74) (by decide +kernel)⟩
theorem lw_p1 : lw_okq (⟨"Checkdesk", "tell", "(I)I"⟩, 5) := ⟨⟨by decide +kernel, by decide +kernel⟩, List.mem_of_getElem? (i := 25) (by decide +kernel), List.mem_of_getElem? (i := 203) (by decide +kernel), List.mem_of_getElem? (i := 204) (by decide +kernel)⟩
theorem lw_p2 : lw_okq (⟨"java/lang/Throwable", "fillInStackTrace", "(I)Ljava/lang/Throwable;"⟩, 6) := ⟨⟨by decide +kernel, by decide +kernel⟩, List.mem_of_getElem? (i := 290) (by decide +kernel), List.mem_of_getElem? (i := 288) (by decide +kernel), List.mem_of_getElem? (i := 289) (by decide +kernel)⟩
theorem lw_p3 : lw_okq (⟨"Checkdesk", "wantThere", "(I)V"⟩, 5) := ⟨⟨by decide +kernel, by decide +kernel⟩, List.mem_of_getElem? (i := 25) (by decide +kernel), List.mem_of_getElem? (i := 342) (by decide +kernel), List.mem_of_getElem? (i := 343) (by decide +kernel)⟩
theorem lw_p4 : lw_okq (⟨"Checkdesk", "wantRoom", "(II)V"⟩, 5) := ⟨⟨by decide +kernel, by decide +kernel⟩, List.mem_of_getElem? (i := 25) (by decide +kernel), List.mem_of_getElem? (i := 363) (by decide +kernel), List.mem_of_getElem? (i := 364) (by decide +kernel)⟩
theorem lw_p5 : lw_okq (⟨"Checkdesk", "refuseText", "()Ljava/lang/String;"⟩, 5) := ⟨⟨by decide +kernel, by decide +kernel⟩, List.mem_of_getElem? (i := 25) (by decide +kernel), List.mem_of_getElem? (i := 757) (by decide +kernel), List.mem_of_getElem? (i := 758) (by decide +kernel)⟩
theorem lw_p6 : lw_okq (⟨"Checkdesk", "askOrder", "(III)I"⟩, 5) := ⟨⟨by decide +kernel, by decide +kernel⟩, List.mem_of_getElem? (i := 25) (by decide +kernel), List.mem_of_getElem? (i := 805) (by decide +kernel), List.mem_of_getElem? (i := 806) (by decide +kernel)⟩
theorem lw_p7 : lw_okq (⟨"Checkdesk", "spellEither", "(II)Ljava/lang/String;"⟩, 5) := ⟨⟨by decide +kernel, by decide +kernel⟩, List.mem_of_getElem? (i := 25) (by decide +kernel), List.mem_of_getElem? (i := 837) (by decide +kernel), List.mem_of_getElem? (i := 838) (by decide +kernel)⟩
theorem lw_p8 : lw_okq (⟨"CheckdeskModel", "start", "(ZI)Z"⟩, 6) := ⟨⟨by decide +kernel, by decide +kernel⟩, List.mem_of_getElem? (i := 890) (by decide +kernel), List.mem_of_getElem? (i := 935) (by decide +kernel), List.mem_of_getElem? (i := 936) (by decide +kernel)⟩
theorem lw_p9 : lw_okq (⟨"CheckdeskModel", "refuse", "(ZI)Z"⟩, 6) := ⟨⟨by decide +kernel, by decide +kernel⟩, List.mem_of_getElem? (i := 890) (by decide +kernel), List.mem_of_getElem? (i := 939) (by decide +kernel), List.mem_of_getElem? (i := 940) (by decide +kernel)⟩
theorem lw_p10 : lw_okq (⟨"CheckdeskModel", "many", "(I)I"⟩, 6) := ⟨⟨by decide +kernel, by decide +kernel⟩, List.mem_of_getElem? (i := 890) (by decide +kernel), List.mem_of_getElem? (i := 943) (by decide +kernel), List.mem_of_getElem? (i := 944) (by decide +kernel)⟩
theorem lw_p11 : lw_okq (⟨"CheckdeskModel", "isNone", "(I)Z"⟩, 6) := ⟨⟨by decide +kernel, by decide +kernel⟩, List.mem_of_getElem? (i := 890) (by decide +kernel), List.mem_of_getElem? (i := 958) (by decide +kernel), List.mem_of_getElem? (i := 959) (by decide +kernel)⟩
theorem lw_p12 : lw_okq (⟨"CheckdeskModel", "no", "()I"⟩, 6) := ⟨⟨by decide +kernel, by decide +kernel⟩, List.mem_of_getElem? (i := 890) (by decide +kernel), List.mem_of_getElem? (i := 965) (by decide +kernel), List.mem_of_getElem? (i := 966) (by decide +kernel)⟩
theorem lw_p13 : lw_okq (⟨"CheckdeskModel", "areNo", "(II)Z"⟩, 6) := ⟨⟨by decide +kernel, by decide +kernel⟩, List.mem_of_getElem? (i := 890) (by decide +kernel), List.mem_of_getElem? (i := 987) (by decide +kernel), List.mem_of_getElem? (i := 988) (by decide +kernel)⟩
theorem lw_p14 : lw_okq (⟨"CheckdeskModel", "told", "(ZI)I"⟩, 6) := ⟨⟨by decide +kernel, by decide +kernel⟩, List.mem_of_getElem? (i := 890) (by decide +kernel), List.mem_of_getElem? (i := 999) (by decide +kernel), List.mem_of_getElem? (i := 1000) (by decide +kernel)⟩
theorem lw_p15 : lw_okq (⟨"CheckdeskModel", "is", "(Z)Z"⟩, 6) := ⟨⟨by decide +kernel, by decide +kernel⟩, List.mem_of_getElem? (i := 890) (by decide +kernel), List.mem_of_getElem? (i := 1015) (by decide +kernel), List.mem_of_getElem? (i := 1016) (by decide +kernel)⟩
def lw_privs_1 : List (MethodName × Nat) := [(⟨"Checkdesk", "refuse", "()I"⟩, 5), (⟨"Checkdesk", "tell", "(I)I"⟩, 5), (⟨"java/lang/Throwable", "fillInStackTrace", "(I)Ljava/lang/Throwable;"⟩, 6), (⟨"Checkdesk", "wantThere", "(I)V"⟩, 5), (⟨"Checkdesk", "wantRoom", "(II)V"⟩, 5), (⟨"Checkdesk", "refuseText", "()Ljava/lang/String;"⟩, 5), (⟨"Checkdesk", "askOrder", "(III)I"⟩, 5), (⟨"Checkdesk", "spellEither", "(II)Ljava/lang/String;"⟩, 5), (⟨"CheckdeskModel", "start", "(ZI)Z"⟩, 6), (⟨"CheckdeskModel", "refuse", "(ZI)Z"⟩, 6), (⟨"CheckdeskModel", "many", "(I)I"⟩, 6), (⟨"CheckdeskModel", "isNone", "(I)Z"⟩, 6), (⟨"CheckdeskModel", "no", "()I"⟩, 6), (⟨"CheckdeskModel", "areNo", "(II)Z"⟩, 6), (⟨"CheckdeskModel", "told", "(ZI)I"⟩, 6), (⟨"CheckdeskModel", "is", "(Z)Z"⟩, 6)]
theorem lw_r1 : ∀ q ∈ lw_privs_1, lw_okq q := List.forall_mem_cons.mpr ⟨lw_p0, List.forall_mem_cons.mpr ⟨lw_p1, List.forall_mem_cons.mpr ⟨lw_p2, List.forall_mem_cons.mpr ⟨lw_p3, List.forall_mem_cons.mpr ⟨lw_p4, List.forall_mem_cons.mpr ⟨lw_p5, List.forall_mem_cons.mpr ⟨lw_p6, List.forall_mem_cons.mpr ⟨lw_p7, List.forall_mem_cons.mpr ⟨lw_p8, List.forall_mem_cons.mpr ⟨lw_p9, List.forall_mem_cons.mpr ⟨lw_p10, List.forall_mem_cons.mpr ⟨lw_p11, List.forall_mem_cons.mpr ⟨lw_p12, List.forall_mem_cons.mpr ⟨lw_p13, List.forall_mem_cons.mpr ⟨lw_p14, List.forall_mem_cons.mpr ⟨lw_p15, fun _ h => absurd h List.not_mem_nil⟩⟩⟩⟩⟩⟩⟩⟩⟩⟩⟩⟩⟩⟩⟩⟩
theorem lw_p16 : lw_okq (⟨"CheckdeskModel", "noText", "()Ljava/lang/String;"⟩, 6) := ⟨⟨by decide +kernel, by decide +kernel⟩, List.mem_of_getElem? (i := 890) (by decide +kernel), List.mem_of_getElem? (i := 1057) (by decide +kernel), List.mem_of_getElem? (i := 1058) (by decide +kernel)⟩
theorem lw_p17 : lw_okq (⟨"CheckdeskModel", "isAsked", "(II)Z"⟩, 6) := ⟨⟨by decide +kernel, by decide +kernel⟩, List.mem_of_getElem? (i := 890) (by decide +kernel), List.mem_of_getElem? (i := 1085) (by decide +kernel), List.mem_of_getElem? (i := 1086) (by decide +kernel)⟩
theorem lw_p18 : lw_okq (⟨"CheckdeskModel", "ordered", "(III)I"⟩, 6) := ⟨⟨by decide +kernel, by decide +kernel⟩, List.mem_of_getElem? (i := 890) (by decide +kernel), List.mem_of_getElem? (i := 1089) (by decide +kernel), List.mem_of_getElem? (i := 1090) (by decide +kernel)⟩
theorem lw_p19 : lw_okq (⟨"CheckdeskModel", "either", "(II)Ljava/lang/String;"⟩, 6) := ⟨⟨by decide +kernel, by decide +kernel⟩, List.mem_of_getElem? (i := 890) (by decide +kernel), List.mem_of_getElem? (i := 1115) (by decide +kernel), List.mem_of_getElem? (i := 1116) (by decide +kernel)⟩
theorem lw_p20 : lw_okq (⟨"CheckdeskModel", "areLike", "(II)Z"⟩, 6) := ⟨⟨by decide +kernel, by decide +kernel⟩, List.mem_of_getElem? (i := 890) (by decide +kernel), List.mem_of_getElem? (i := 1135) (by decide +kernel), List.mem_of_getElem? (i := 1136) (by decide +kernel)⟩
theorem lw_p21 : lw_okq (⟨"CheckdeskModel", "codesOf", "(III)I"⟩, 6) := ⟨⟨by decide +kernel, by decide +kernel⟩, List.mem_of_getElem? (i := 890) (by decide +kernel), List.mem_of_getElem? (i := 1150) (by decide +kernel), List.mem_of_getElem? (i := 1151) (by decide +kernel)⟩
theorem lw_p22 : lw_okq (⟨"CheckdeskModel", "houseTold", "(I)I"⟩, 6) := ⟨⟨by decide +kernel, by decide +kernel⟩, List.mem_of_getElem? (i := 890) (by decide +kernel), List.mem_of_getElem? (i := 1162) (by decide +kernel), List.mem_of_getElem? (i := 1163) (by decide +kernel)⟩
theorem lw_p23 : lw_okq (⟨"CheckdeskModel", "isWhole", "()Z"⟩, 6) := ⟨⟨by decide +kernel, by decide +kernel⟩, List.mem_of_getElem? (i := 890) (by decide +kernel), List.mem_of_getElem? (i := 1170) (by decide +kernel), List.mem_of_getElem? (i := 1171) (by decide +kernel)⟩
def lw_privs_2 : List (MethodName × Nat) := [(⟨"CheckdeskModel", "noText", "()Ljava/lang/String;"⟩, 6), (⟨"CheckdeskModel", "isAsked", "(II)Z"⟩, 6), (⟨"CheckdeskModel", "ordered", "(III)I"⟩, 6), (⟨"CheckdeskModel", "either", "(II)Ljava/lang/String;"⟩, 6), (⟨"CheckdeskModel", "areLike", "(II)Z"⟩, 6), (⟨"CheckdeskModel", "codesOf", "(III)I"⟩, 6), (⟨"CheckdeskModel", "houseTold", "(I)I"⟩, 6), (⟨"CheckdeskModel", "isWhole", "()Z"⟩, 6)]
theorem lw_r2 : ∀ q ∈ lw_privs_2, lw_okq q := List.forall_mem_cons.mpr ⟨lw_p16, List.forall_mem_cons.mpr ⟨lw_p17, List.forall_mem_cons.mpr ⟨lw_p18, List.forall_mem_cons.mpr ⟨lw_p19, List.forall_mem_cons.mpr ⟨lw_p20, List.forall_mem_cons.mpr ⟨lw_p21, List.forall_mem_cons.mpr ⟨lw_p22, List.forall_mem_cons.mpr ⟨lw_p23, fun _ h => absurd h List.not_mem_nil⟩⟩⟩⟩⟩⟩⟩⟩
def lw_privs : List (MethodName × Nat) := lw_privs_1 ++ (lw_privs_2)
def lw_tbl : List Cond := k2_sels lw_privs ++ tables_1
theorem lw_privs_ok : ∀ q ∈ lw_privs, lw_okq q := by
  show ∀ q ∈ lw_privs_1 ++ (lw_privs_2), lw_okq q
  exact List.forall_mem_append.mpr ⟨lw_r1, lw_r2⟩
end
section
/-! ===== BEGIN words of one list among another's, by their places ===== -/
theorem goodIn_r {big : List Cond} (ws : List Cond) (ps : List Nat) (hp : ws = ps.filterMap (fun i => big[i]?)) (h : ws.all goodWord = true) : GoodIn big ws := by
  intro w hw
  have h1 := List.all_eq_true.mp h w hw
  rw [hp] at hw
  obtain ⟨i, -, hi⟩ := List.mem_filterMap.mp hw
  have hm : w ∈ big := by first | exact List.mem_of_getElem? hi | exact List.getElem?_mem hi
  exact ⟨hm, good_of_word h1⟩
theorem goodIn_app {big a b : List Cond} (ha : GoodIn big a) (hb : GoodIn big b) : GoodIn big (a ++ b) := fun w h => (List.mem_append.mp h).elim (ha w) (hb w)
theorem goodIn_ca {big a b : List Cond} {c : Cond} (ha : GoodIn big (c :: a)) (hb : GoodIn big b) : GoodIn big (c :: (a ++ b)) := fun w h => (List.mem_cons.mp h).elim (fun e => ha w (List.mem_cons.mpr (Or.inl e))) (fun h => (List.mem_append.mp h).elim (fun h => ha w (List.mem_cons.mpr (Or.inr h))) (hb w))
theorem goodIn_sub {big ws : List Cond} (hm : ∀ w ∈ ws, w ∈ big) (h : ws.all goodWord = true) : GoodIn big ws := fun w hw => ⟨hm w hw, good_of_word (List.all_eq_true.mp h w hw)⟩
/-! ===== END ===== -/

/-! ===== BEGIN new T[n][m]: the outer array a place, the inner ones among the pooled ===== -/
/-- f, but v at every address of l -/
def vr_up {α : Type} (f : Nat → α) (l : List Nat) (v : α) : Nat → α := fun a => if a ∈ l then v else f a
theorem vr_up_in {α : Type} {f : Nat → α} {l : List Nat} {v : α} {a : Nat} (h : a ∈ l) : vr_up f l v a = v := if_pos h
theorem vr_up_ne {α : Type} {f : Nat → α} {l : List Nat} {v : α} {a : Nat} (h : a ∉ l) : vr_up f l v a = f a := if_neg h
theorem vr_rows {L l : List Nat} {f : Nat → va_E} {e : va_E} (h : ∀ a, a ∈ l → a ∉ L) : va_pl L f ++ l.map (fun a => (a, e)) = va_pl (L ++ l) (vr_up f l e) := by
  unfold va_pl
  rw [List.map_append]
  congr 1
  · apply List.map_congr_left
    intro a ha
    rw [vr_up_ne (fun q => h a q ha)]
  · apply List.map_congr_left
    intro a ha
    rw [vr_up_in ha]
theorem vr_lay {X rows : va_W} {x : Nat × va_E} {pl : va_W} {D : va_G} {cl : List vw_C} {H : Heap} (hP : va_P D cl (((X ++ pl) ++ [x]) ++ rows) H) : va_P D cl ((X ++ [x]) ++ (pl ++ rows)) H := by
  rw [List.append_assoc (X ++ pl)] at hP
  have h := va_P.swap hP
  rw [← List.append_assoc X] at h
  have h2 := va_P.swap h
  rw [List.append_assoc (X ++ [x])] at h2
  exact h2
theorem vr_layD {X rows : va_W} {x : Nat × va_E} {pl : va_W} {A : Nat → Prop} (hD : va_D A (((X ++ pl) ++ [x]) ++ rows)) : va_D A ((X ++ [x]) ++ (pl ++ rows)) := by
  rw [List.append_assoc (X ++ pl)] at hD
  have h := va_D.swap hD
  rw [← List.append_assoc X] at h
  have h2 := va_D.swap h
  rw [List.append_assoc (X ++ [x])] at h2
  exact h2
theorem vr_outer (c : ClassId) (N h0 : Nat) : ∀ i : Nat, Jvm.Free.Multi.outerC c N h0 i = arrV c N (fun j => va_rf (if j < i then some (h0 + 1 + j) else none))
  | 0 => by
    show ({ cls := c, slots := Array.replicate N .null, vm := .none } : Cell) = _
    rw [arrV_new]
    refine congrArg (arrV c N) (funext fun j => ?_)
    simp [va_rf]
  | i + 1 => by
    show (Jvm.Free.Multi.outerC c N h0 i).setSlot i (.ref (h0 + 1 + i)) = _
    rw [vr_outer c N h0 i, arrV_store]
    refine congrArg (arrV c N) (funext fun j => ?_)
    by_cases e : j = i
    · subst e
      simp [updV, va_rf]
    · by_cases h : j < i
      · simp [updV, e, h, Nat.lt_succ_of_lt h]
      · simp [updV, e, h, show ¬ j < i + 1 by omega]
def va_AOA (ty : FieldType) (U : State) : Prop := (Cond.arrayOver (.array ty)).before #[] U = true
theorem va_AOA.use {ty : FieldType} {A : Array Value} {U : State} (h : va_AOA ty U) : (Cond.arrayOver (.array ty)).before A U = true := h
section VGM
variable {p : Program} {l : Launch} {e : Env} {R : Room} {s : State} {m : MethodId} {args : Array Value} {below : List Frame} {meth : Method} {c : Code} {H : Heap} {locs : List Loc} {cells slots : Nat} {Q : State → Prop}
variable {cc : ByteArray} {pc : Nat} {ls : Array Slot} {rest : List Value} {D : va_G} {cl : List vw_C} {A : Nat → Prop} {a : Nat} {tys : List (ClassId × FieldType)} {ws : va_W} {H0 : Heap}
theorem va_mna {X : va_W} {L : List Nat} {f : Nat → va_E} {cc : ByteArray} (hexec : p.tables.exec = Jvm.exec) (hb : c.code = cc) {own : String} {index : Nat} {ty : FieldType} {cy : ClassId} (hown : s.vm.findClass own = some m.cls) (hclink : (Cond.classLink own index ("[" ++ (FieldType.array ty).toString)).before args s = true) (hover : va_AOA ty s) (harr : (Cond.arrayClass ty).before args s = true) (hcy : s.vm.findClass (FieldType.array ty).toString = some cy)
    (hK : va_K D cl tys s) (hP : va_P D cl (X ++ va_pl L f) H) (hD : va_D A (X ++ va_pl L f)) (hS : va_S A H0 H locs) (hA : ∀ q, H0.size ≤ q → A q) {n k : Int32} {N' K' : Nat} {z : vp_A} (hn : ¬ n < 0) (hk : ¬ k < 0) (hN : n.toNatClampNeg = N') (hM : k.toNatClampNeg = K')
    (hb1 : N' * 4 ≤ 536870912) (hb2 : K' * componentBytes ty ≤ 536870912) (hb3 : K' ≤ 536870912) (hdf : fits ty (defaultValue ty) = true) (hdd : (defaultValue ty).isDefault = true) (hcells : cells + (1 + N') ≤ R.cells) (hslots : slots + (N' + N' * K') ≤ R.slots) (hz : ∀ c : ClassId, Jvm.Free.Multi.innerC c K' (defaultValue ty) = vp_cell c z) (hdg : decode cc pc = .ok (.multianewarray index 2, 4))
    (kk : ∀ (q : Nat) (r : Nat → Nat) (cA : ClassId) (H1 : Heap), (∀ i j : Nat, i < N' → j < N' → r i = r j → i = j) → (∀ i : Nat, i < N' → r i ∉ L) → va_K D cl (tys ++ [(cA, .array ty)]) s →
      va_P D cl ((X ++ [(q, .inl (cA, N', .inr (.inr (.inr (.inr (fun i => if i < N' then some (r i) else none))))))]) ++ va_pl (L ++ (List.range N').map r) (vr_up f ((List.range N').map r) (.inl (cy, z)))) H1 → va_D A ((X ++ [(q, .inl (cA, N', .inr (.inr (.inr (.inr (fun i => if i < N' then some (r i) else none))))))]) ++ va_pl (L ++ (List.range N').map r) (vr_up f ((List.range N').map r) (.inl (cy, z)))) → va_S A H0 H1 locs →
      W p l e R s m args below meth c H1 locs (cells + 1 + N') (slots + N' + N' * K') Q (F0 m (pc + 4) ls (.ref q :: rest))) : W p l e R s m args below meth c H locs cells slots Q (F0 m pc ls (.int k :: .int n :: rest)) := by
  subst hN
  subst hM
  intro T hT Xs
  obtain ⟨vm₁, cA, comp, -, fA, fC, hO, -, X', step⟩ := Xs.multianewarray2F hexec hown hclink (va_AOA.use hover) harr (g := F0 m pc ls (.int k :: .int n :: rest)) rfl (by rw [hb]; exact hdg) rfl hn hk hb1 hb2 hb3 hdf hdd hcells hslots
  have ec : some cy = some comp := hcy.symm.trans fC
  cases ec
  generalize hF : Jvm.Free.Multi.fill (T.setVm vm₁) cA cy n.toNatClampNeg k.toNatClampNeg (defaultValue ty) n.toNatClampNeg = F at X' step
  have hTh : (T.setVm vm₁).heap = H := hT
  obtain ⟨f1, f2, -, -⟩ := Jvm.Free.Multi.fill_facts (T.setVm vm₁) cA cy n.toNatClampNeg k.toNatClampNeg (defaultValue ty) n.toNatClampNeg
  rw [hF, hTh] at f1 f2
  have hold : ∀ x : Nat, x < H.size → F.heap[x]? = H[x]? := fun x hx => by
    have := Jvm.Free.Multi.fill_old (T.setVm vm₁) cA cy n.toNatClampNeg k.toNatClampNeg (defaultValue ty) (a := x) (by rw [hTh]; exact hx) n.toNatClampNeg
    rw [hF, hTh] at this
    exact this
  have hrow : ∀ j : Nat, j < n.toNatClampNeg → F.heap[H.size + 1 + j]? = some (vp_cell cy z) := fun j hj => by
    have := Jvm.Free.Multi.fill_inner (T.setVm vm₁) cA cy n.toNatClampNeg k.toNatClampNeg (defaultValue ty) n.toNatClampNeg j hj
    rw [hF, hTh, hz] at this
    exact this
  have hout : Jvm.Free.Multi.outerC cA n.toNatClampNeg H.size n.toNatClampNeg = vp_cell cA (n.toNatClampNeg, .inr (.inr (.inr (.inr (fun i => if i < n.toNatClampNeg then some (H.size + 1 + i) else none))))) := by
    rw [vp_cell_q]
    exact vr_outer cA n.toNatClampNeg H.size n.toNatClampNeg
  rw [hout] at f2
  have hlt : ∀ a, a ∈ L → a < H.size := fun a ha => by
    obtain ⟨k9, hk9⟩ := va_pl_get (X := X) (f := f) ha
    exact (hP k9 _ hk9).lt
  have hnl : ∀ i : Nat, i < n.toNatClampNeg → H.size + 1 + i ∉ L := fun i _ h => by
    have := hlt _ h
    omega
  have hnm : ∀ a, a ∈ (List.range n.toNatClampNeg).map (fun i => H.size + 1 + i) → a ∉ L := fun a ha h => by
    obtain ⟨i, -, rfl⟩ := List.mem_map.mp ha
    have := hlt _ h
    omega
  have hP0 : va_P D cl (X ++ va_pl L f) F.heap := hP.kept (fun k9 x hx => hold x.1 ((hP k9 x hx).lt))
  have hP1 : va_P D cl ((X ++ va_pl L f) ++ [(H.size, .inl (cA, n.toNatClampNeg, .inr (.inr (.inr (.inr (fun i => if i < n.toNatClampNeg then some (H.size + 1 + i) else none))))))]) F.heap := hP0.app (fun k9 x hx => by
    have h0 : k9 < 1 := (List.getElem?_eq_some_iff.mp hx).1
    rw [show k9 = 0 by omega] at hx
    cases hx
    exact f2)
  have hP2 : va_P D cl (((X ++ va_pl L f) ++ [(H.size, .inl (cA, n.toNatClampNeg, .inr (.inr (.inr (.inr (fun i => if i < n.toNatClampNeg then some (H.size + 1 + i) else none))))))]) ++ ((List.range n.toNatClampNeg).map (fun i => H.size + 1 + i)).map (fun a => (a, .inl (cy, z)))) F.heap := hP1.app (fun k9 x hx => by
    obtain ⟨a, ha, rfl⟩ := List.mem_map.mp (List.mem_of_getElem? hx)
    obtain ⟨i, hi, rfl⟩ := List.mem_map.mp ha
    exact hrow i (List.mem_range.mp hi))
  have hD2 : va_D A (((X ++ va_pl L f) ++ [(H.size, .inl (cA, n.toNatClampNeg, .inr (.inr (.inr (.inr (fun i => if i < n.toNatClampNeg then some (H.size + 1 + i) else none))))))]) ++ ((List.range n.toNatClampNeg).map (fun i => H.size + 1 + i)).map (fun a => (a, .inl (cy, z)))) := by
    have hD1 := hD.push (e := .inl (cA, n.toNatClampNeg, .inr (.inr (.inr (.inr (fun i => if i < n.toNatClampNeg then some (H.size + 1 + i) else none)))))) hP rfl (hA _ hS.1)
    generalize hW1 : (X ++ va_pl L f) ++ [(H.size, .inl (cA, n.toNatClampNeg, .inr (.inr (.inr (.inr (fun i => if i < n.toNatClampNeg then some (H.size + 1 + i) else none))))))] = W1 at hD1 hP1 ⊢
    have hle : ∀ (k9 : Nat) (x : Nat × va_E), W1[k9]? = some x → x.1 ≤ H.size := fun k9 x hx => by
      rw [← hW1] at hx
      by_cases hl : k9 < (X ++ va_pl L f).length
      · rw [List.getElem?_append_left hl] at hx
        exact Nat.le_of_lt ((hP k9 x hx).lt)
      · rw [List.getElem?_append_right (by omega)] at hx
        have h0 : k9 - (X ++ va_pl L f).length < 1 := (List.getElem?_eq_some_iff.mp hx).1
        rw [show k9 - (X ++ va_pl L f).length = 0 by omega] at hx
        cases hx
        exact Nat.le_refl _
    have hr : ∀ (k9 : Nat) (x : Nat × va_E), (((List.range n.toNatClampNeg).map (fun i => H.size + 1 + i)).map (fun a => ((a, .inl (cy, z)) : Nat × va_E)))[k9]? = some x → x.1 = H.size + 1 + k9 := fun k9 x hx => by
      rw [List.getElem?_map, List.getElem?_map] at hx
      by_cases h9 : k9 < n.toNatClampNeg
      · rw [List.getElem?_range h9] at hx
        cases hx
        rfl
      · have hn0 : (List.range n.toNatClampNeg)[k9]? = none := List.getElem?_eq_none (by rw [List.length_range]; omega)
        rw [hn0] at hx
        cases hx
    refine ⟨fun i j x y hi hj hxy => ?_, fun k9 x hx => ?_⟩
    · by_cases h1 : i < W1.length <;> by_cases h2 : j < W1.length
      · rw [List.getElem?_append_left h1] at hi
        rw [List.getElem?_append_left h2] at hj
        exact hD1.1 i j x y hi hj hxy
      · rw [List.getElem?_append_left h1] at hi
        rw [List.getElem?_append_right (by omega)] at hj
        have := hle _ _ hi
        have := hr _ _ hj
        omega
      · rw [List.getElem?_append_right (by omega)] at hi
        rw [List.getElem?_append_left h2] at hj
        have := hle _ _ hj
        have := hr _ _ hi
        omega
      · rw [List.getElem?_append_right (by omega)] at hi hj
        have := hr _ _ hi
        have := hr _ _ hj
        omega
    · by_cases h1 : k9 < W1.length
      · rw [List.getElem?_append_left h1] at hx
        exact hD1.2 k9 x hx
      · rw [List.getElem?_append_right (by omega)] at hx
        have := hr _ _ hx
        exact hA _ (by have := hS.1; omega)
  have hAr : ArrOfT s cA (.array ty) := fun N9 z9 => by
    obtain ⟨-, k9, hk9, cm9, hkk9⟩ := (hO 0 0 0).1
    exact ⟨(fun q hq => by cases hq), k9, hk9, cm9, hkk9⟩
  have hK2 : va_K D cl (tys ++ [(cA, .array ty)]) s := ⟨hK.1, fun k9 x hx => by
    by_cases hl : k9 < tys.length
    · rw [List.getElem?_append_left hl] at hx
      exact hK.2 k9 x hx
    · rw [List.getElem?_append_right (by omega)] at hx
      have h0 : k9 - tys.length < 1 := (List.getElem?_eq_some_iff.mp hx).1
      rw [show k9 - tys.length = 0 by omega] at hx
      cases hx
      exact ⟨hAr, fA⟩⟩
  obtain ⟨t, a1, b1⟩ := kk H.size (fun i => H.size + 1 + i) cA F.heap (fun i j _ _ h => by have h9 : H.size + 1 + i = H.size + 1 + j := h; omega) hnl hK2 (by rw [← vr_rows hnm]; exact vr_lay hP2) (by rw [← vr_rows hnm]; exact vr_layD hD2) ⟨by rw [f1]; have := hS.1; omega, fun x h1 h2 => (hold x (Nat.lt_of_lt_of_le h1 hS.1)).trans (hS.2.1 x h1 h2), hS.2.2⟩ F rfl X'
  refine ⟨t, step t ?_, b1⟩
  have e : T.heap.size = H.size := by rw [hT]
  rw [e]
  exact a1
end VGM
/-! ===== END ===== -/

/-! ===== BEGIN exceptions that leave a method, and their catching by the caller (launches without stack traces) ===== -/
section VXA
/-! The laws vx_back, vx_callV, vx_callS, vx_callSW, vx_throw0, vx_throwS follow proofs of the library, with one case more: JvmDerived/Free/Laws.lean (Back.of_free), Shelf42/LK1.lean (callV, callS), Shelf/KitTraced.lean (throwNew0V, throwNewS). -/
/-- where a method has thrown q: the class by its name, the cell, what was written, the world -/
def vx_T (XC : String → State → State → Prop) (st : State) (q : Addr) (t : State) (mc ms : Nat) (free : Addr → Prop) : Prop :=
  ∃ (E : String) (ce : Cell) (L : List Loc), XC E st t ∧ t.heap[q]? = some ce ∧ ce.vm = .none ∧ st.vm.findClass E = some ce.cls ∧ st.WarmedH t.vm ∧ st.sameButNew ({ t with vm := st.vm } : State) L mc ms ∧ ∀ z ∈ L, free z.base
def vx_Q (Qc : Array Value → State → Outcome → State → Prop) (XC : String → State → State → Prop) (mc ms : Nat) (free : Addr → Prop) : Array Value → State → Outcome → State → Prop := fun a st o t =>
  (Qc a st o t ∧ ∃ L, FrameEnd st o t L mc ms ∧ ∀ q ∈ L, free q.base) ∨ ∃ q, o = .threw q ∧ vx_T XC st q t mc ms free
/-- a callee that returns or throws -/
def vx_Met (l : Launch) (y : MethodName) (ws : List Cond) (rm : Room) (Pc : Array Value → State → Prop) (Qc : Array Value → State → Outcome → State → Prop) (XC : String → State → State → Prop) (mc ms : Nat) (free : Addr → Prop) : Prop :=
  MetFree l y (headSpec ws rm) Pc (fun _ _ _ _ _ => True) (vx_Q Qc XC mc ms free)
def vx_Post (XC : String → State → State → Prop) (mc ms : Nat) (free : Addr → Prop) : Pt → Array Value → Addr → Pt → Prop := fun A a q B =>
  ∃ (g : JFrame) (mk : MethodId) (t : State) (L : List Loc) (E : String) (ce : Cell), B.U.heap = t.heap ∧ B.U.vm = t.vm ∧ XC E (A.U.calling g mk a) t ∧ t.heap[q]? = some ce ∧ ce.vm = .none ∧ A.U.vm.findClass E = some ce.cls ∧ B.locs = A.locs ++ L ∧ (∀ z ∈ L, free z.base) ∧ B.cells = A.cells + mc ∧ B.slots = A.slots + ms
def vx_Back (l : Launch) (R : Room) (p : Program) (e : Env) (below : List Frame) (s : State) (sargs : Array Value) (y : MethodName) (len W9 : Nat)
    (Pre : Pt → Array Value → Prop) (Post : Pt → Array Value → Option Value → Pt → Prop) (PostX : Pt → Array Value → Addr → Pt → Prop) : Prop :=
  ∀ (m : MethodId) (meth : Method) (c : Code) (A : Pt) (g : JFrame) (ig : Instr) (mk : MethodId) (a : Array Value),
    Stand p l e R s m sargs below meth c A.U A.locs A.cells A.slots → g.method = m → g.locals.size = c.maxLocals → decode c.code g.pc = .ok (ig, len) →
    2 * g.monitorRoom + (g.stack.map fun v => v.category).sum ≤ W9 → A.U.methodNamed? y = some mk → Pre A a →
    (∃ (v : Option Value) (B : Pt), Stand p l e R s m sargs below meth c B.U B.locs B.cells B.slots ∧ Post A a v B ∧
      Steps p.tables e below (doInvoke e (A.U.setTop g) [] mk a).1 (B.U.setTop { g with pc := g.pc + len, stack := v.toList ++ g.stack })) ∨
    (∃ (q : Addr) (B : Pt), Stand p l e R s m sargs below meth c B.U B.locs B.cells B.slots ∧ PostX A a q B ∧
      Steps p.tables e below (doInvoke e (A.U.setTop g) [] mk a).1 ((B.U.setTop g).pushFrame (.throwing q)))
section Payer
variable {l : Launch} {R : Room} {p : Program} {e : Env} {below : List Frame} {s : State} {sargs : Array Value} {y : MethodName} {len W9 : Nat}
theorem vx_back {ws : List Cond} {rm : Room} {Pc : Array Value → State → Prop} {Qc : Array Value → State → Outcome → State → Prop} {XC : String → State → State → Prop} {mc ms : Nat} {free : Addr → Prop} {bytes : ByteArray} {maxL : Nat} {ret : Option FieldType}
    (hM : vx_Met l y ws rm Pc Qc XC mc ms free) (hblind : FrameBlind Pc) (hrc : rm.cells = mc) (hrs : rm.slots = ms)
    (hframes : rm.frames + 1 ≤ R.frames) (hlocals : W9 + (maxL + 11) + rm.locals ≤ R.locals)
    (hws : ∀ w ∈ ws, ∀ a' U, s.WarmedH U.vm → w.before a' U = true) (hcode : Cond.code y bytes maxL ret ∈ ws) (hinit : ∀ a' U, s.WarmedH U.vm → (Cond.initialized y.cls).before a' U = true) :
    vx_Back l R p e below s sargs y len W9 (PreOf R mc ms Pc) (PostOf Qc mc ms free) (vx_Post XC mc ms free) := by
  intro m meth c A g ig mk a X hg hsize hdg hW hn hp
  have h1 : (headSpec ws rm).pre.before a A.U = true := atoms_intro fun w hw => hws w hw _ _ X.warmed
  have h2 : (Cond.code y bytes maxL ret).before a A.U = true := hws _ hcode _ _ X.warmed
  have h3 : (Cond.initialized y.cls).before a A.U = true := hinit _ _ X.warmed
  have h4 : A.cells + (headSpec ws rm).room.cells ≤ R.cells := by rw [show (headSpec ws rm).room.cells = mc from hrc]; exact hp.1
  have h5 : A.slots + (headSpec ws rm).room.slots ≤ R.slots := by rw [show (headSpec ws rm).room.slots = ms from hrs]; exact hp.2.1
  have hPc : Pc a (A.U.calling g mk a) := hblind _ _ _ _ hp.2.2
  obtain ⟨U, Ls, c0, s0⟩ := A
  dsimp only [Pt.U, Pt.locs, Pt.cells, Pt.slots] at h1 h2 h3 h4 h5 X hn hPc ⊢
  obtain ⟨methY, cY, hmY, hcY, -, hlY, -, -, -, -⟩ := Cond.code_spec hn h2
  obtain ⟨kY, hkY, -⟩ := className_of_methodNamed hn
  have hinitY : kY.init = .initialized := Cond.initialized_spec (findClass_of_methodNamed hn) hkY h3
  have h : At U g.method c below := by rw [hg]; exact X.here
  have hlocals9 : W9 + (maxL + 11) + (headSpec ws rm).room.locals ≤ R.locals := hlocals
  have happ : (headSpec ws rm).appliesLoose y e.platform (U.calling g mk a) = true :=
    Spec.appliesLoose_calling (g := g) h hdg hn hkY hinitY
      (X.room_calling (g := g) (R' := (headSpec ws rm).room) hsize hmY hcY hframes (by rw [hlY]; omega) h4 h5) h1
  obtain ⟨mid, hmid⟩ := h.above
  have hfr : (U.setTop g).frames = (.java g :: mid) ++ below := by rw [State.frames_setTop' g h.top, hmid]; rfl
  obtain ⟨o, s₂, hsteps, -, hend, hq⟩ := Steps.callFree hM p X.admits X.cas X.clock (acts := []) hfr happ hPc trivial
  have hq' : vx_Q Qc XC mc ms free a (U.calling g mk a) o s₂ := hq
  rw [State.frames_setTop' g h.top] at hend
  obtain ⟨g₀, hg0⟩ := Option.isSome_iff_exists.mp h.top
  obtain ⟨r, hr⟩ := State.topJava?_eq_some.mp hg0
  have hr' : (({ U with heap := s₂.heap, slotsUsed := s₂.slotsUsed } : State).setVm s₂.vm).frames = .java g₀ :: r := hr
  rcases hq' with ⟨hqc, L, hfe, hL⟩ | ⟨q, rfl, E, ce, L, hx, hce, hcv, hcl, hW₂, hsm, hL⟩
  · obtain ⟨⟨v, rfl⟩, hW₂, e2, q2, q3, q4, q5, q6⟩ := id hfe
    have e3 : s₂ = ({ (U.calling g mk a).setFrames s₂.frames with heap := s₂.heap, slotsUsed := s₂.slotsUsed } : State).setVm s₂.vm := by
      have : s₂ = ({ s₂ with vm := (U.calling g mk a).vm } : State).setVm s₂.vm := rfl
      rw [e2] at this
      exact this
    obtain ⟨c₂, i₂, len₂, hc₂, hd₂, hf₂⟩ := hend
    have hW' : U.WarmedH s₂.vm := hW₂
    have hcc : c₂ = c := by
      have h1 : s₂.code? g.method = U.code? g.method := by
        rw [State.code?_eq, State.code?_eq, hW'.alike.method?]
      exact Option.some.inj (hc₂.symm.trans (h1.trans h.code))
    subst hcc
    have hlen : len₂ = len := by rw [hdg] at hd₂; cases hd₂; rfl
    subst hlen
    have hs₂ : s₂ = (({ U with heap := s₂.heap, slotsUsed := s₂.slotsUsed } : State).setVm s₂.vm).setTop { g with pc := g.pc + len₂, stack := v.toList ++ g.stack } := by
      refine e3.trans ?_
      rw [hf₂, State.calling_eq h.top, State.setFrames_setFrames, State.setTop_of_frames _ hr', hr]
      rfl
    have hsame : U.sameButNew ({ U with heap := s₂.heap, slotsUsed := s₂.slotsUsed } : State) L mc ms := by
      refine ⟨?_, q2, q3, q4, q5, q6⟩
      obtain ⟨t, ht, -⟩ := State.frames_cons hr
      show ({ U with heap := s₂.heap, slotsUsed := s₂.slotsUsed } : State) = { U.setFrames U.frames with heap := s₂.heap, slotsUsed := s₂.slotsUsed }
      rw [State.setFrames_self ht]
    subst hg
    refine Or.inl ⟨v, ⟨(({ U with heap := s₂.heap, slotsUsed := s₂.slotsUsed } : State).setVm s₂.vm), Ls ++ L, c0 + mc, s0 + ms⟩,
      ⟨X.admits, X.cas, X.clock, X.frames, X.room, X.hears, X.method, X.code, (X.here.setHeapUsed s₂.heap s₂.slotsUsed).setVm hW'.alike, X.tail, State.WarmedH.trans X.warmed hW', X.limits, X.bytes, X.same.trans (hsame.setVm s.vm)⟩,
      ⟨g, mk, s₂, L, rfl, rfl, hqc, rfl, hL, rfl, rfl⟩, ?_⟩
    show Steps p.tables e below _ ((({ U with heap := s₂.heap, slotsUsed := s₂.slotsUsed } : State).setVm s₂.vm).setTop { g with pc := g.pc + len₂, stack := v.toList ++ g.stack })
    rw [← hs₂]
    exact hsteps
  · obtain ⟨e2, q2, q3, q4, q5, q6⟩ := id hsm
    have e3 : s₂ = ({ (U.calling g mk a).setFrames s₂.frames with heap := s₂.heap, slotsUsed := s₂.slotsUsed } : State).setVm s₂.vm := by
      have : s₂ = ({ s₂ with vm := (U.calling g mk a).vm } : State).setVm s₂.vm := rfl
      rw [e2] at this
      exact this
    have hf₂ : s₂.frames = .throwing q :: .java g :: U.frames.tail := hend
    have hW' : U.WarmedH s₂.vm := hW₂
    have hs₂ : s₂ = ((({ U with heap := s₂.heap, slotsUsed := s₂.slotsUsed } : State).setVm s₂.vm).setTop g).pushFrame (.throwing q) := by
      refine e3.trans ?_
      rw [hf₂, State.calling_eq h.top, State.setFrames_setFrames, State.pushFrame, State.frames_setTop _ hr', State.setTop_of_frames _ hr', State.setFrames_setFrames, hr]
      rfl
    have hsame : U.sameButNew ({ U with heap := s₂.heap, slotsUsed := s₂.slotsUsed } : State) L mc ms := by
      refine ⟨?_, q2, q3, q4, q5, q6⟩
      obtain ⟨t, ht, -⟩ := State.frames_cons hr
      show ({ U with heap := s₂.heap, slotsUsed := s₂.slotsUsed } : State) = { U.setFrames U.frames with heap := s₂.heap, slotsUsed := s₂.slotsUsed }
      rw [State.setFrames_self ht]
    subst hg
    refine Or.inr ⟨q, ⟨(({ U with heap := s₂.heap, slotsUsed := s₂.slotsUsed } : State).setVm s₂.vm), Ls ++ L, c0 + mc, s0 + ms⟩,
      ⟨X.admits, X.cas, X.clock, X.frames, X.room, X.hears, X.method, X.code, (X.here.setHeapUsed s₂.heap s₂.slotsUsed).setVm hW'.alike, X.tail, State.WarmedH.trans X.warmed hW', X.limits, X.bytes, X.same.trans (hsame.setVm s.vm)⟩,
      ⟨g, mk, s₂, L, E, ce, rfl, rfl, hx, hce, hcv, hcl, rfl, hL, rfl, rfl⟩, ?_⟩
    show Steps p.tables e below _ (((({ U with heap := s₂.heap, slotsUsed := s₂.slotsUsed } : State).setVm s₂.vm).setTop g).pushFrame (.throwing q))
    rw [← hs₂]
    exact hsteps
end Payer
section Calls
variable {p : Program} {l : Launch} {e : Env} {R : Room} {s : State} {m : MethodId} {args : Array Value} {below : List Frame} {meth : Method} {c : Code} {T : State} {locs : List Loc} {cells slots : Nat}
theorem vx_callV (X : Stand p l e R s m args below meth c T locs cells slots) (hexec : p.tables.exec = Jvm.exec) {own C : String} {index : Nat} {y : MethodName} {bytes : ByteArray} {maxL : Nat} {ret : Option FieldType}
    (hown : s.vm.findClass own = some m.cls) (hlink : (Cond.methodLink own index y).before args s = true) (hinst : (Cond.instanceMethod y).before args s = true) (hsel : (Cond.selects C y y).before args s = true)
    (hcode : (Cond.code y bytes maxL ret).before args s = true) (hy : y.cls ≠ "java/lang/invoke/MethodHandle" ∧ y.cls ≠ "java/lang/invoke/VarHandle")
    {W9 : Nat} {Pre : Pt → Array Value → Prop} {Post : Pt → Array Value → Option Value → Pt → Prop} {PostX : Pt → Array Value → Addr → Pt → Prop} (hK : vx_Back l R p e below s args y 3 W9 Pre Post PostX)
    {b : Addr} {cellB : Cell} (hcell : T.heap[b]? = some cellB) (hobj : cellB.vm.isStatics = false) (hcls : s.vm.findClass C = some cellB.cls)
    {g : JFrame} (hg : g.method = m) (hsize : g.locals.size = c.maxLocals) {argsL rest : List Value} (hlen : ∀ sig, parseMethodDescriptor y.desc = some sig → argsL.length = sig.parameters.length)
    (hstack : g.stack = argsL.reverse ++ .ref b :: rest) (hW : 2 * g.monitorRoom + (rest.map fun v => v.category).sum ≤ W9) (hdg : decode c.code g.pc = .ok (.invokevirtual index, 3))
    (hpre : ∀ vm₁, s.WarmedH vm₁ → Pre ⟨T.setVm vm₁, locs, cells, slots⟩ (Value.ref b :: argsL).toArray) :
    (∃ (v : Option Value) (vm₁ : Vm) (B : Pt), s.WarmedH vm₁ ∧ Stand p l e R s m args below meth c B.U B.locs B.cells B.slots ∧ Post ⟨T.setVm vm₁, locs, cells, slots⟩ (Value.ref b :: argsL).toArray v B ∧
      ∀ target, Steps p.tables e below (B.U.setTop { g with pc := g.pc + 3, stack := v.toList ++ rest }) target → Steps p.tables e below (T.setTop g) target) ∨
    (∃ (q : Addr) (vm₁ : Vm) (B : Pt), s.WarmedH vm₁ ∧ Stand p l e R s m args below meth c B.U B.locs B.cells B.slots ∧ PostX ⟨T.setVm vm₁, locs, cells, slots⟩ (Value.ref b :: argsL).toArray q B ∧
      Steps p.tables e below (T.setTop g) ((B.U.setTop { g with stack := rest }).pushFrame (.throwing q))) := by
  obtain ⟨mk, methM, hnamed, hmethM, hstM, habM⟩ := Cond.instanceMethod_spec hinst
  obtain ⟨methM', cM, hmethM', -, -, -, -, -, -, hsigM⟩ := Cond.code_spec hnamed hcode
  cases hmethM.symm.trans hmethM'
  obtain ⟨c2, r2, m2, q1, q2, q3, q4, kP, hkP, hkPi⟩ := Cond.selects_spec hsel
  cases hcls.symm.trans q1
  cases (State.methodFound?_of_named hnamed hy).symm.trans q2
  cases hnamed.symm.trans q3
  have hselP : selectMethod e.platform s.vm cellB.cls mk = .method mk := by rw [Launch.admits_selectMethod X.admits]; exact q4
  obtain ⟨vm₁, X₁, hstep₁⟩ := X.invokevirtual hexec hown hlink hnamed hmethM hstM hkP hkPi hy (a := b) (cell := cellB) hcell
    (fun z h => by rw [h] at hobj; cases hobj) hselP hmethM habM hkP hkPi (g := g) hg (argsL := argsL) (rest := rest) (hlen _ hsigM) hstack hdg
  rcases hK m meth c ⟨T.setVm vm₁, locs, cells, slots⟩ { g with stack := rest } (.invokevirtual index) mk (Value.ref b :: argsL).toArray X₁ hg hsize hdg hW (X₁.named hnamed) (hpre vm₁ X₁.warmed) with ⟨v, B, X', hpost, hsteps⟩ | ⟨q, B, X', hpost, hsteps⟩
  · exact Or.inl ⟨v, vm₁, B, X₁.warmed, X', hpost, fun target h => hstep₁ _ fun acts => by rw [doInvoke_state]; exact hsteps.trans h⟩
  · exact Or.inr ⟨q, vm₁, B, X₁.warmed, X', hpost, hstep₁ _ fun acts => by rw [doInvoke_state]; exact hsteps⟩
theorem vx_callS (X : Stand p l e R s m args below meth c T locs cells slots) (hexec : p.tables.exec = Jvm.exec) {own : String} {index : Nat} {y : MethodName} {bytes : ByteArray} {maxL : Nat} {ret : Option FieldType}
    (hown : s.vm.findClass own = some m.cls) (hlink : (Cond.methodLink own index y).before args s = true) (hstat : (Cond.static y).before args s = true) (hinit : (Cond.initialized y.cls).before args s = true)
    (hcode : (Cond.code y bytes maxL ret).before args s = true) (hy : y.cls ≠ "java/lang/invoke/MethodHandle" ∧ y.cls ≠ "java/lang/invoke/VarHandle")
    {W9 : Nat} {Pre : Pt → Array Value → Prop} {Post : Pt → Array Value → Option Value → Pt → Prop} {PostX : Pt → Array Value → Addr → Pt → Prop} (hK : vx_Back l R p e below s args y 3 W9 Pre Post PostX)
    {g : JFrame} (hg : g.method = m) (hsize : g.locals.size = c.maxLocals) {argsL rest : List Value} (hlen : ∀ sig, parseMethodDescriptor y.desc = some sig → argsL.length = sig.parameters.length)
    (hstack : g.stack = argsL.reverse ++ rest) (hW : 2 * g.monitorRoom + (rest.map fun v => v.category).sum ≤ W9) (hdg : decode c.code g.pc = .ok (.invokestatic index, 3))
    (hpre : ∀ vm₁, s.WarmedH vm₁ → Pre ⟨T.setVm vm₁, locs, cells, slots⟩ argsL.toArray) :
    (∃ (v : Option Value) (vm₁ : Vm) (B : Pt), s.WarmedH vm₁ ∧ Stand p l e R s m args below meth c B.U B.locs B.cells B.slots ∧ Post ⟨T.setVm vm₁, locs, cells, slots⟩ argsL.toArray v B ∧
      ∀ target, Steps p.tables e below (B.U.setTop { g with pc := g.pc + 3, stack := v.toList ++ rest }) target → Steps p.tables e below (T.setTop g) target) ∨
    (∃ (q : Addr) (vm₁ : Vm) (B : Pt), s.WarmedH vm₁ ∧ Stand p l e R s m args below meth c B.U B.locs B.cells B.slots ∧ PostX ⟨T.setVm vm₁, locs, cells, slots⟩ argsL.toArray q B ∧
      Steps p.tables e below (T.setTop g) ((B.U.setTop { g with stack := rest }).pushFrame (.throwing q))) := by
  obtain ⟨mk, hnamed⟩ := Cond.code_named hcode
  obtain ⟨methM, cM, hmethM, -, -, -, -, -, -, hsigM⟩ := Cond.code_spec hnamed hcode
  have hstatic : methM.isStatic = true := Cond.static_spec hnamed hmethM hstat
  obtain ⟨kP, hkP, -⟩ := className_of_methodNamed hnamed
  have hinitP : kP.init = .initialized := Cond.initialized_spec (findClass_of_methodNamed hnamed) hkP hinit
  obtain ⟨vm₁, X₁, hstep₁⟩ := X.invokestatic hexec hown hlink hnamed hmethM hstatic hkP hinitP hy (g := g) hg (argsL := argsL) (rest := rest) (hlen _ hsigM) hstack hdg
  rcases hK m meth c ⟨T.setVm vm₁, locs, cells, slots⟩ { g with stack := rest } (.invokestatic index) mk argsL.toArray X₁ hg hsize hdg hW (X₁.named hnamed) (hpre vm₁ X₁.warmed) with ⟨v, B, X', hpost, hsteps⟩ | ⟨q, B, X', hpost, hsteps⟩
  · exact Or.inl ⟨v, vm₁, B, X₁.warmed, X', hpost, fun target h => hstep₁ _ fun acts => by rw [doInvoke_state]; exact hsteps.trans h⟩
  · exact Or.inr ⟨q, vm₁, B, X₁.warmed, X', hpost, hstep₁ _ fun acts => by rw [doInvoke_state]; exact hsteps⟩
end Calls
theorem vx_cls {s : State} {T : State} {vm₁ : Vm} {E : String} {k : ClassId} (hW : s.WarmedH vm₁) (h : (T.setVm vm₁).vm.findClass E = some k) : s.vm.findClass E = some k := by
  have h1 : vm₁.findClass E = some k := h
  rw [hW.alike.findClass] at h1
  exact h1
/-- the method's frame g, with q thrown over it -/
def vx_W (p : Program) (l : Launch) (e : Env) (R : Room) (s : State) (m : MethodId) (args : Array Value) (below : List Frame) (meth : Method) (c : Code) (H : Heap) (locs : List Loc) (cells slots : Nat) (Q : State → Prop) (g : JFrame) (q : Addr) : Prop :=
  ∀ T : State, T.heap = H → Stand p l e R s m args below meth c T locs cells slots → ∃ t, Steps p.tables e below ((T.setTop g).pushFrame (.throwing q)) t ∧ Q t
def vx_Run (p : Program) (l : Launch) (e : Env) (R : Room) (s : State) (m : MethodId) (args : Array Value) (below : List Frame) (meth : Method) (c : Code) (H : Heap) (locs : List Loc) (cells slots mc ms : Nat) (g : JFrame) (rest : List Value) (Qa : State → Outcome → State → Prop) (XC : String → State → State → Prop) (free : Addr → Prop) : Prop :=
  ∀ T : State, T.heap = H → Stand p l e R s m args below meth c T locs cells slots →
    (∃ (v : Option Value) (st₀ t T' : State) (L : List Loc), st₀.heap = H ∧ Stand p l e R s m args below meth c T' (locs ++ L) (cells + mc) (slots + ms) ∧ (∀ q ∈ L, free q.base) ∧ T'.heap = t.heap ∧ T'.vm = t.vm ∧ Qa st₀ (.returned v) t ∧
      Goes p e below T g T' { g with pc := g.pc + 3, stack := v.toList ++ rest }) ∨
    (∃ (q : Addr) (st₀ t T' : State) (L : List Loc) (E : String) (ce : Cell), st₀.heap = H ∧ Stand p l e R s m args below meth c T' (locs ++ L) (cells + mc) (slots + ms) ∧ (∀ z ∈ L, free z.base) ∧ T'.heap = t.heap ∧ T'.vm = t.vm ∧ XC E st₀ t ∧ t.heap[q]? = some ce ∧ ce.vm = .none ∧ s.vm.findClass E = some ce.cls ∧
      Steps p.tables e below (T.setTop g) ((T'.setTop { g with stack := rest }).pushFrame (.throwing q)))
def vx_X {S : Type} (px : S → Prop) (B : String → S → State → Prop) (A : Nat → Prop) : String → State → State → Prop := fun E st t => ∃ u : S, px u ∧ B E u t ∧ va_F A st t
section Runs
variable {p : Program} {l : Launch} {e : Env} {R : Room} {s : State} {m : MethodId} {args : Array Value} {below : List Frame} {meth : Method} {c : Code} {H : Heap} {locs : List Loc} {cells slots : Nat}
variable {y : MethodName} {bytes cc : ByteArray} {maxL nL mc ms n index : Nat} {ret : Option FieldType} {ws : List Cond} {rm : Room} {Pc : Array Value → State → Prop} {Qc : Array Value → State → Outcome → State → Prop} {XC : String → State → State → Prop} {free : Addr → Prop} {Ts : List Cond} {own C : String} {b : Addr} {As rest : List Value} {g : JFrame}
theorem vx_callBack (cb : CallB R s args own index y bytes maxL ret ws rm mc ms n) (hM : vx_Met l y ws rm Pc Qc XC mc ms free) (hbl : FrameBlind Pc) : vx_Back l R p e below s args y 3 8 (PreOf R mc ms Pc) (PostOf Qc mc ms free) (vx_Post XC mc ms free) := by
  obtain ⟨hrc, hrs, hfr, hlo, hws, hcw, -, hini, -⟩ := cb
  exact vx_back (bytes := bytes) (maxL := maxL) (ret := ret) hM hbl hrc hrs hfr hlo hws hcw (fun a' U hW => word_at hW (Or.inl (by first | rfl | simp [Cond.onTables, Cond.keeps, Cond.steady])) hini)
theorem vx_runV (S : CallFix p m c cc nL s args Ts own) (hM : vx_Met l y ws rm Pc Qc XC mc ms free) (cw : CallW R s args own C index y bytes maxL ret ws rm mc ms n) (hp : PreV s H C b Pc As)
    (hg : g.method = m) (hn : As.length = n) (hsize : g.locals.size = nL) (hstack : g.stack = As.reverse ++ .ref b :: rest) (hW : 2 * g.monitorRoom + (rest.map fun v => v.category).sum ≤ 8) (hdg : decode cc g.pc = .ok (.invokevirtual index, 3)) (hf : cells + mc ≤ R.cells ∧ slots + ms ≤ R.slots) :
    vx_Run p l e R s m args below meth c H locs cells slots mc ms g rest (Qc (Value.ref b :: As).toArray) XC free := by
  have hK : vx_Back l R p e below s args y 3 8 (PreOf R mc ms Pc) (PostOf Qc mc ms free) (vx_Post XC mc ms free) := vx_callBack cw.1 hM hp.1
  obtain ⟨⟨-, -, -, -, -, -, hcode, -, hy, hlen, hl⟩, hin, hse⟩ := cw
  obtain ⟨hx, hb, hml, ho, -⟩ := S
  obtain ⟨-, ⟨cellB, hcB, hoB, hclB⟩, hPc⟩ := hp
  intro T hT X
  rcases vx_callV X hx (C := C) (bytes := bytes) (maxL := maxL) (ret := ret) ho hl hin hse hcode hy hK (by rw [hT]; exact hcB) hoB hclB hg (hsize.trans hml.symm) (argsL := As) (rest := rest) (fun sig h => hn.trans (hlen sig h)) hstack hW (by rw [hb]; exact hdg)
    (fun vm₁ hW₁ => ⟨hf.1, hf.2, hPc (T.setVm vm₁) hT hW₁⟩) with ⟨v, vm₁, ⟨U', l2, c2, s2⟩, hW₁, X', ⟨g', mk, t, L, e1, e2, hq, h1, hL, h2, h3⟩, st⟩ | ⟨q, vm₁, ⟨U', l2, c2, s2⟩, hW₁, X', ⟨g', mk, t, L, E, ce, e1, e2, hq, hce, hcv, hcl, h1, hL, h2, h3⟩, st⟩
  · dsimp only [Pt.U, Pt.locs, Pt.cells, Pt.slots] at X' e1 e2 h1 h2 h3 st
    subst h1; subst h2; subst h3
    exact Or.inl ⟨v, (T.setVm vm₁).calling g' mk (Value.ref b :: As).toArray, t, U', L, hT, X', hL, e1, e2, hq, st⟩
  · dsimp only [Pt.U, Pt.locs, Pt.cells, Pt.slots] at X' e1 e2 h1 h2 h3 st hcl
    subst h1; subst h2; subst h3
    exact Or.inr ⟨q, (T.setVm vm₁).calling g' mk (Value.ref b :: As).toArray, t, U', L, E, ce, hT, X', hL, e1, e2, hq, hce, hcv, vx_cls hW₁ hcl, st⟩
theorem vx_runS (S : CallFix p m c cc nL s args Ts own) (hM : vx_Met l y ws rm Pc Qc XC mc ms free) (cw : CallB R s args own index y bytes maxL ret ws rm mc ms n ∧ (Cond.static y).before args s = true) (hp : PreS s H Pc As)
    (hg : g.method = m) (hn : As.length = n) (hsize : g.locals.size = nL) (hstack : g.stack = As.reverse ++ rest) (hW : 2 * g.monitorRoom + (rest.map fun v => v.category).sum ≤ 8) (hdg : decode cc g.pc = .ok (.invokestatic index, 3)) (hf : cells + mc ≤ R.cells ∧ slots + ms ≤ R.slots) :
    vx_Run p l e R s m args below meth c H locs cells slots mc ms g rest (Qc As.toArray) XC free := by
  have hK : vx_Back l R p e below s args y 3 8 (PreOf R mc ms Pc) (PostOf Qc mc ms free) (vx_Post XC mc ms free) := vx_callBack cw.1 hM hp.1
  obtain ⟨⟨-, -, -, -, -, -, hcode, hini, hy, hlen, hl⟩, hstt⟩ := cw
  obtain ⟨hx, hb, hml, ho, -⟩ := S
  intro T hT X
  rcases vx_callS X hx (bytes := bytes) (maxL := maxL) (ret := ret) ho hl hstt hini hcode hy hK hg (hsize.trans hml.symm) (argsL := As) (rest := rest) (fun sig h => hn.trans (hlen sig h)) hstack hW (by rw [hb]; exact hdg)
    (fun vm₁ hW₁ => ⟨hf.1, hf.2, hp.2 (T.setVm vm₁) hT hW₁⟩) with ⟨v, vm₁, ⟨U', l2, c2, s2⟩, hW₁, X', ⟨g', mk, t, L, e1, e2, hq, h1, hL, h2, h3⟩, st⟩ | ⟨q, vm₁, ⟨U', l2, c2, s2⟩, hW₁, X', ⟨g', mk, t, L, E, ce, e1, e2, hq, hce, hcv, hcl, h1, hL, h2, h3⟩, st⟩
  · dsimp only [Pt.U, Pt.locs, Pt.cells, Pt.slots] at X' e1 e2 h1 h2 h3 st
    subst h1; subst h2; subst h3
    exact Or.inl ⟨v, (T.setVm vm₁).calling g' mk As.toArray, t, U', L, hT, X', hL, e1, e2, hq, st⟩
  · dsimp only [Pt.U, Pt.locs, Pt.cells, Pt.slots] at X' e1 e2 h1 h2 h3 st hcl
    subst h1; subst h2; subst h3
    exact Or.inr ⟨q, (T.setVm vm₁).calling g' mk As.toArray, t, U', L, E, ce, hT, X', hL, e1, e2, hq, hce, hcv, vx_cls hW₁ hcl, st⟩
end Runs
section Rows
variable {p : Program} {l : Launch} {e : Env} {R : Room} {s : State} {m : MethodId} {args : Array Value} {below : List Frame} {meth : Method} {c : Code} {H : Heap} {locs : List Loc} {cells slots : Nat} {Q : State → Prop}
variable {mc ms : Nat} {free : Addr → Prop} {A0 A1 : Nat → Prop} {H0 : Heap} {a : Array Value} {pc : Nat} {ls : Array Slot} {st0 rest : List Value}
theorem vx_keep {st₀ t T' : State} {L : List Loc} (h0 : st₀.heap = H) (e1 : T'.heap = t.heap) (hS : va_S A0 H0 H locs) (hA : ∀ q, q < H.size → A1 q → A0 q) (hf : ∀ q, free q → A0 q) (hL : ∀ q ∈ L, free q.base) (hF : va_F A1 st₀ t) :
    H.size ≤ T'.heap.size ∧ (∀ q : Nat, q < H.size → ¬ A1 q → T'.heap[q]? = H[q]?) ∧ va_S A0 H0 T'.heap (locs ++ L) := by
  obtain ⟨hz, hk⟩ := hF
  rw [h0] at hz hk
  exact ⟨by rw [e1]; exact hz, fun q h1 h2 => by rw [e1]; exact hk q h1 h2,
    ⟨Nat.le_trans hS.1 (by rw [e1]; exact hz), fun q h1 h2 => by rw [e1, hk q (Nat.lt_of_lt_of_le h1 hS.1) (fun z => h2 (hA q (Nat.lt_of_lt_of_le h1 hS.1) z))]; exact hS.2.1 q h1 h2, fun q hq => by
      rcases List.mem_append.mp hq with h | h
      · exact hS.2.2 q h
      · exact hf _ (hL q h)⟩⟩
theorem vx_calli {S SX : Type} {post : Int32 → S → Prop} {px : SX → Prop} {B : S → State → Prop} {BX : String → SX → State → Prop} {AX : Nat → Prop} (hr : vx_Run p l e R s m args below meth c H locs cells slots mc ms (F0 m pc ls st0) rest (va_Qi post B A1 a) (vx_X px BX AX) free) (hS : va_S A0 H0 H locs) (hA : ∀ q, q < H.size → A1 q → A0 q) (hf : ∀ q, free q → A0 q) (hAX : ∀ q, q < H.size → AX q → A0 q)
    (kx : ∀ (E : String) (ce : Cell) (q9 : Addr) (u : SX) (t : State) (H1 : Heap) (locs1 : List Loc), t.heap = H1 → s.vm.Alike t.vm → px u → BX E u t → H.size ≤ H1.size → (∀ q : Nat, q < H.size → ¬ AX q → H1[q]? = H[q]?) → va_S A0 H0 H1 locs1 → H1[q9]? = some ce → ce.vm = .none → s.vm.findClass E = some ce.cls → vx_W p l e R s m args below meth c H1 locs1 (cells + mc) (slots + ms) Q (F0 m pc ls rest) q9)
    (kk : ∀ (r : Int32) (u : S) (t : State) (H1 : Heap) (locs1 : List Loc), t.heap = H1 → s.vm.Alike t.vm → post r u → B u t → H.size ≤ H1.size → (∀ q : Nat, q < H.size → ¬ A1 q → H1[q]? = H[q]?) → va_S A0 H0 H1 locs1 → W p l e R s m args below meth c H1 locs1 (cells + mc) (slots + ms) Q (F0 m (pc + 3) ls (.int r :: rest))) : W p l e R s m args below meth c H locs cells slots Q (F0 m pc ls st0) := by
  intro T hT X
  rcases hr T hT X with ⟨v, st₀, t, T', L, h0, X', hL, e1, e2, ⟨⟨r, u, hv, hp, hb⟩, hF⟩, st⟩ | ⟨q, st₀, t, T', L, E, ce, h0, X', hL, e1, e2, ⟨u, hp, hb, hF⟩, hce, hcv, hcl, st⟩
  · cases hv
    obtain ⟨k1, k2, k3⟩ := vx_keep h0 e1 hS hA hf hL hF
    obtain ⟨t2, a1, b1⟩ := kk r u t T'.heap (locs ++ L) e1.symm (by rw [← e2]; exact X'.warmed.alike) hp hb k1 k2 k3 T' rfl X'
    exact ⟨t2, st t2 a1, b1⟩
  · obtain ⟨k1, k2, k3⟩ := vx_keep h0 e1 hS hAX hf hL hF
    obtain ⟨t2, a1, b1⟩ := kx E ce q u t T'.heap (locs ++ L) e1.symm (by rw [← e2]; exact X'.warmed.alike) hp hb k1 k2 k3 (by rw [e1]; exact hce) hcv hcl T' rfl X'
    exact ⟨t2, st.trans a1, b1⟩
theorem vx_calll {S SX : Type} {post : Int64 → S → Prop} {px : SX → Prop} {B : S → State → Prop} {BX : String → SX → State → Prop} {AX : Nat → Prop} (hr : vx_Run p l e R s m args below meth c H locs cells slots mc ms (F0 m pc ls st0) rest (va_Ql post B A1 a) (vx_X px BX AX) free) (hS : va_S A0 H0 H locs) (hA : ∀ q, q < H.size → A1 q → A0 q) (hf : ∀ q, free q → A0 q) (hAX : ∀ q, q < H.size → AX q → A0 q)
    (kx : ∀ (E : String) (ce : Cell) (q9 : Addr) (u : SX) (t : State) (H1 : Heap) (locs1 : List Loc), t.heap = H1 → s.vm.Alike t.vm → px u → BX E u t → H.size ≤ H1.size → (∀ q : Nat, q < H.size → ¬ AX q → H1[q]? = H[q]?) → va_S A0 H0 H1 locs1 → H1[q9]? = some ce → ce.vm = .none → s.vm.findClass E = some ce.cls → vx_W p l e R s m args below meth c H1 locs1 (cells + mc) (slots + ms) Q (F0 m pc ls rest) q9)
    (kk : ∀ (r : Int64) (u : S) (t : State) (H1 : Heap) (locs1 : List Loc), t.heap = H1 → s.vm.Alike t.vm → post r u → B u t → H.size ≤ H1.size → (∀ q : Nat, q < H.size → ¬ A1 q → H1[q]? = H[q]?) → va_S A0 H0 H1 locs1 → W p l e R s m args below meth c H1 locs1 (cells + mc) (slots + ms) Q (F0 m (pc + 3) ls (.long r :: rest))) : W p l e R s m args below meth c H locs cells slots Q (F0 m pc ls st0) := by
  intro T hT X
  rcases hr T hT X with ⟨v, st₀, t, T', L, h0, X', hL, e1, e2, ⟨⟨r, u, hv, hp, hb⟩, hF⟩, st⟩ | ⟨q, st₀, t, T', L, E, ce, h0, X', hL, e1, e2, ⟨u, hp, hb, hF⟩, hce, hcv, hcl, st⟩
  · cases hv
    obtain ⟨k1, k2, k3⟩ := vx_keep h0 e1 hS hA hf hL hF
    obtain ⟨t2, a1, b1⟩ := kk r u t T'.heap (locs ++ L) e1.symm (by rw [← e2]; exact X'.warmed.alike) hp hb k1 k2 k3 T' rfl X'
    exact ⟨t2, st t2 a1, b1⟩
  · obtain ⟨k1, k2, k3⟩ := vx_keep h0 e1 hS hAX hf hL hF
    obtain ⟨t2, a1, b1⟩ := kx E ce q u t T'.heap (locs ++ L) e1.symm (by rw [← e2]; exact X'.warmed.alike) hp hb k1 k2 k3 (by rw [e1]; exact hce) hcv hcl T' rfl X'
    exact ⟨t2, st.trans a1, b1⟩
theorem vx_callf {S SX : Type} {post : UInt32 → S → Prop} {px : SX → Prop} {B : S → State → Prop} {BX : String → SX → State → Prop} {AX : Nat → Prop} (hr : vx_Run p l e R s m args below meth c H locs cells slots mc ms (F0 m pc ls st0) rest (va_Qf post B A1 a) (vx_X px BX AX) free) (hS : va_S A0 H0 H locs) (hA : ∀ q, q < H.size → A1 q → A0 q) (hf : ∀ q, free q → A0 q) (hAX : ∀ q, q < H.size → AX q → A0 q)
    (kx : ∀ (E : String) (ce : Cell) (q9 : Addr) (u : SX) (t : State) (H1 : Heap) (locs1 : List Loc), t.heap = H1 → s.vm.Alike t.vm → px u → BX E u t → H.size ≤ H1.size → (∀ q : Nat, q < H.size → ¬ AX q → H1[q]? = H[q]?) → va_S A0 H0 H1 locs1 → H1[q9]? = some ce → ce.vm = .none → s.vm.findClass E = some ce.cls → vx_W p l e R s m args below meth c H1 locs1 (cells + mc) (slots + ms) Q (F0 m pc ls rest) q9)
    (kk : ∀ (r : UInt32) (u : S) (t : State) (H1 : Heap) (locs1 : List Loc), t.heap = H1 → s.vm.Alike t.vm → post r u → B u t → H.size ≤ H1.size → (∀ q : Nat, q < H.size → ¬ A1 q → H1[q]? = H[q]?) → va_S A0 H0 H1 locs1 → W p l e R s m args below meth c H1 locs1 (cells + mc) (slots + ms) Q (F0 m (pc + 3) ls (.float r :: rest))) : W p l e R s m args below meth c H locs cells slots Q (F0 m pc ls st0) := by
  intro T hT X
  rcases hr T hT X with ⟨v, st₀, t, T', L, h0, X', hL, e1, e2, ⟨⟨r, u, hv, hp, hb⟩, hF⟩, st⟩ | ⟨q, st₀, t, T', L, E, ce, h0, X', hL, e1, e2, ⟨u, hp, hb, hF⟩, hce, hcv, hcl, st⟩
  · cases hv
    obtain ⟨k1, k2, k3⟩ := vx_keep h0 e1 hS hA hf hL hF
    obtain ⟨t2, a1, b1⟩ := kk r u t T'.heap (locs ++ L) e1.symm (by rw [← e2]; exact X'.warmed.alike) hp hb k1 k2 k3 T' rfl X'
    exact ⟨t2, st t2 a1, b1⟩
  · obtain ⟨k1, k2, k3⟩ := vx_keep h0 e1 hS hAX hf hL hF
    obtain ⟨t2, a1, b1⟩ := kx E ce q u t T'.heap (locs ++ L) e1.symm (by rw [← e2]; exact X'.warmed.alike) hp hb k1 k2 k3 (by rw [e1]; exact hce) hcv hcl T' rfl X'
    exact ⟨t2, st.trans a1, b1⟩
theorem vx_calld {S SX : Type} {post : UInt64 → S → Prop} {px : SX → Prop} {B : S → State → Prop} {BX : String → SX → State → Prop} {AX : Nat → Prop} (hr : vx_Run p l e R s m args below meth c H locs cells slots mc ms (F0 m pc ls st0) rest (va_Qd post B A1 a) (vx_X px BX AX) free) (hS : va_S A0 H0 H locs) (hA : ∀ q, q < H.size → A1 q → A0 q) (hf : ∀ q, free q → A0 q) (hAX : ∀ q, q < H.size → AX q → A0 q)
    (kx : ∀ (E : String) (ce : Cell) (q9 : Addr) (u : SX) (t : State) (H1 : Heap) (locs1 : List Loc), t.heap = H1 → s.vm.Alike t.vm → px u → BX E u t → H.size ≤ H1.size → (∀ q : Nat, q < H.size → ¬ AX q → H1[q]? = H[q]?) → va_S A0 H0 H1 locs1 → H1[q9]? = some ce → ce.vm = .none → s.vm.findClass E = some ce.cls → vx_W p l e R s m args below meth c H1 locs1 (cells + mc) (slots + ms) Q (F0 m pc ls rest) q9)
    (kk : ∀ (r : UInt64) (u : S) (t : State) (H1 : Heap) (locs1 : List Loc), t.heap = H1 → s.vm.Alike t.vm → post r u → B u t → H.size ≤ H1.size → (∀ q : Nat, q < H.size → ¬ A1 q → H1[q]? = H[q]?) → va_S A0 H0 H1 locs1 → W p l e R s m args below meth c H1 locs1 (cells + mc) (slots + ms) Q (F0 m (pc + 3) ls (.double r :: rest))) : W p l e R s m args below meth c H locs cells slots Q (F0 m pc ls st0) := by
  intro T hT X
  rcases hr T hT X with ⟨v, st₀, t, T', L, h0, X', hL, e1, e2, ⟨⟨r, u, hv, hp, hb⟩, hF⟩, st⟩ | ⟨q, st₀, t, T', L, E, ce, h0, X', hL, e1, e2, ⟨u, hp, hb, hF⟩, hce, hcv, hcl, st⟩
  · cases hv
    obtain ⟨k1, k2, k3⟩ := vx_keep h0 e1 hS hA hf hL hF
    obtain ⟨t2, a1, b1⟩ := kk r u t T'.heap (locs ++ L) e1.symm (by rw [← e2]; exact X'.warmed.alike) hp hb k1 k2 k3 T' rfl X'
    exact ⟨t2, st t2 a1, b1⟩
  · obtain ⟨k1, k2, k3⟩ := vx_keep h0 e1 hS hAX hf hL hF
    obtain ⟨t2, a1, b1⟩ := kx E ce q u t T'.heap (locs ++ L) e1.symm (by rw [← e2]; exact X'.warmed.alike) hp hb k1 k2 k3 (by rw [e1]; exact hce) hcv hcl T' rfl X'
    exact ⟨t2, st.trans a1, b1⟩
theorem vx_callv {S SX : Type} {post : S → Prop} {px : SX → Prop} {B : S → State → Prop} {BX : String → SX → State → Prop} {AX : Nat → Prop} (hr : vx_Run p l e R s m args below meth c H locs cells slots mc ms (F0 m pc ls st0) rest (va_Qv post B A1 a) (vx_X px BX AX) free) (hS : va_S A0 H0 H locs) (hA : ∀ q, q < H.size → A1 q → A0 q) (hf : ∀ q, free q → A0 q) (hAX : ∀ q, q < H.size → AX q → A0 q)
    (kx : ∀ (E : String) (ce : Cell) (q9 : Addr) (u : SX) (t : State) (H1 : Heap) (locs1 : List Loc), t.heap = H1 → s.vm.Alike t.vm → px u → BX E u t → H.size ≤ H1.size → (∀ q : Nat, q < H.size → ¬ AX q → H1[q]? = H[q]?) → va_S A0 H0 H1 locs1 → H1[q9]? = some ce → ce.vm = .none → s.vm.findClass E = some ce.cls → vx_W p l e R s m args below meth c H1 locs1 (cells + mc) (slots + ms) Q (F0 m pc ls rest) q9)
    (kk : ∀ (u : S) (t : State) (H1 : Heap) (locs1 : List Loc), t.heap = H1 → s.vm.Alike t.vm → post u → B u t → H.size ≤ H1.size → (∀ q : Nat, q < H.size → ¬ A1 q → H1[q]? = H[q]?) → va_S A0 H0 H1 locs1 → W p l e R s m args below meth c H1 locs1 (cells + mc) (slots + ms) Q (F0 m (pc + 3) ls (rest))) : W p l e R s m args below meth c H locs cells slots Q (F0 m pc ls st0) := by
  intro T hT X
  rcases hr T hT X with ⟨v, st₀, t, T', L, h0, X', hL, e1, e2, ⟨⟨u, hv, hp, hb⟩, hF⟩, st⟩ | ⟨q, st₀, t, T', L, E, ce, h0, X', hL, e1, e2, ⟨u, hp, hb, hF⟩, hce, hcv, hcl, st⟩
  · cases hv
    obtain ⟨k1, k2, k3⟩ := vx_keep h0 e1 hS hA hf hL hF
    obtain ⟨t2, a1, b1⟩ := kk u t T'.heap (locs ++ L) e1.symm (by rw [← e2]; exact X'.warmed.alike) hp hb k1 k2 k3 T' rfl X'
    exact ⟨t2, st t2 a1, b1⟩
  · obtain ⟨k1, k2, k3⟩ := vx_keep h0 e1 hS hAX hf hL hF
    obtain ⟨t2, a1, b1⟩ := kx E ce q u t T'.heap (locs ++ L) e1.symm (by rw [← e2]; exact X'.warmed.alike) hp hb k1 k2 k3 (by rw [e1]; exact hce) hcv hcl T' rfl X'
    exact ⟨t2, st.trans a1, b1⟩
/-- caught by the row x of this method's table; the rows ahead don't take it -/
theorem vx_catch {own name : String} {E : String} {ce : Cell} {q : Addr} (hown : s.vm.findClass own = some m.cls) (pre : List ExceptionTableEntry) (x : ExceptionTableEntry) (suf : List ExceptionTableEntry) (hsplit : c.exceptionTable.toList = pre ++ x :: suf)
    (hpass : ∀ z ∈ pre, covers z pc = false ∨ (z.catchType ≠ 0 ∧ ∃ nm : String, (Cond.classLink own z.catchType nm).before args s = true ∧ va_Nc E nm s)) (hx : covers x pc = true) (h0 : x.catchType ≠ 0)
    (hlink : (Cond.classLink own x.catchType name).before args s = true) (hcast : (Cond.castable E name).before args s = true) (hcell : H[q]? = some ce) (hv : ce.vm = .none) (hcl : s.vm.findClass E = some ce.cls)
    (kk : W p l e R s m args below meth c H locs cells slots Q (F0 m x.handlerPc ls [.ref q])) : vx_W p l e R s m args below meth c H locs cells slots Q (F0 m pc ls rest) q := by
  intro T hT X
  have hpl : e.platform.magicAccessors = ({} : Platform).magicAccessors := by rw [X.admits.platform]
  obtain ⟨c3, c4, hc3, hc4, hasg⟩ := Cond.castable_spec hcast
  cases Option.some.inj (hc3.symm.trans hcl)
  obtain ⟨c5, hc5, hcl5⟩ := Cond.classLink_spec hown hlink e.platform hpl
  cases Option.some.inj (hc4.symm.trans hc5)
  obtain ⟨vm', X', st⟩ := X.thenCaughtThrough q (g := F0 m pc ls rest) rfl (Steps.refl _) (by rw [hT]; exact hcell) (by rw [hv]; rfl) (by obtain ⟨k9, h9, -⟩ := Vm.findClass_spec hcl; exact ⟨k9, h9⟩) pre x suf hsplit
    (fun z hz => by
      rcases hpass z hz with h | ⟨hz0, nm, hl1, hn1⟩
      · exact Or.inl h
      · obtain ⟨c6, hc6, hcl6⟩ := Cond.classLink_spec hown hl1 e.platform hpl
        obtain ⟨a8, b8, h1, h2, h3⟩ := hn1
        cases Option.some.inj (h1.symm.trans hcl)
        cases Option.some.inj (h2.symm.trans hc6)
        exact Or.inr ⟨hz0, _, hcl6, h3⟩) hx (Or.inr ⟨h0, c4, hcl5, hasg⟩)
  obtain ⟨t, a1, b1⟩ := kk (T.setVm vm') hT X'
  exact ⟨t, st.trans a1, b1⟩
end Rows
section Ends
variable {p : Program} {l : Launch} {e : Env} {R : Room} {s : State} {m : MethodId} {args : Array Value} {below : List Frame} {meth : Method} {c : Code} {H : Heap} {locs : List Loc} {cells slots : Nat} {Q : State → Prop}
variable {mc ms : Nat} {free : Addr → Prop} {A0 A1 : Nat → Prop} {H0 : Heap} {a : Array Value} {ls : Array Slot} {st0 rest : List Value}
variable {Qc : Array Value → State → Outcome → State → Prop} {XC : String → State → State → Prop}
/-- what a body that may throw owes at its end -/
def vx_MQ (below : List Frame) (Qc : Array Value → State → Outcome → State → Prop) (XC : String → State → State → Prop) (a : Array Value) (s : State) (mc ms : Nat) (free : Addr → Prop) : State → Prop := fun t =>
  ∃ o, t.status = .running ∧ Ended t below o ∧ vx_Q Qc XC mc ms free a s o t
theorem vx_ret {g : JFrame} {mc ms : Nat} (k : W p l e R s m args below meth c H locs cells slots (MQ below Qc args s mc ms free) g) : W p l e R s m args below meth c H locs cells slots (vx_MQ below Qc XC args s mc ms free) g := by
  intro T hT X
  obtain ⟨t, a1, o, b1, b2, b3, b4⟩ := k T hT X
  exact ⟨t, a1, o, b1, b2, Or.inl ⟨b3, b4⟩⟩
/-- not caught here: it goes on to the caller -/
theorem vx_widen {g : JFrame} {q : Addr} {k n : Nat} (h1 : cells ≤ k) (h2 : slots ≤ n) (kk : vx_W p l e R s m args below meth c H locs k n Q g q) : vx_W p l e R s m args below meth c H locs cells slots Q g q := fun T hT X => kk T hT (stand_widen X h1 h2)
theorem vx_out {pc : Nat} {E : String} {ce : Cell} {q : Addr} {mc ms : Nat} (hout : ∀ x ∈ c.exceptionTable.toList, covers x pc = false) (hlocks : meth.locks = false) (hcell : H[q]? = some ce) (hv : ce.vm = .none) (hcl : s.vm.findClass E = some ce.cls)
    (hx : ∀ t : State, t.heap = H → s.vm.Alike t.vm → XC E s t) (hf : ∀ z ∈ locs, free z.base) (hc : cells ≤ mc) (hs : slots ≤ ms) :
    vx_W p l e R s m args below meth c H locs cells slots (vx_MQ below Qc XC args s mc ms free) (F0 m pc ls rest) q := by
  intro T hT X
  obtain ⟨st1, hrun, hend, hW, hsm⟩ := X.leaveThrown q (g := F0 m pc ls rest) rfl rfl rfl hout hlocks
  have hcell9 : (T.setFrames (.throwing q :: below)).heap[q]? = some ce := by
    show T.heap[q]? = some ce
    rw [hT]; exact hcell
  exact ⟨_, st1, .threw q, hrun, hend, Or.inr ⟨q, rfl, E, ce, locs, hx _ hT hW.alike, hcell9, hv, hcl, hW, hsm.mono hc hs, hf⟩⟩
theorem vx_frame {U : State} {k n : Nat} (h : s.sameButNew ({ U with vm := s.vm } : State) locs k n) : s.heap.size ≤ U.heap.size ∧ ∀ q : Nat, q < s.heap.size → (∀ z ∈ locs, z.base ≠ q) → U.heap[q]? = s.heap[q]? := by
  obtain ⟨-, h2, -, -, -, h6⟩ := h
  refine ⟨h2, fun q hq hz => ?_⟩
  obtain ⟨c9, e1, e2, e3, e4⟩ := h6 q _ (Array.getElem?_eq_getElem hq)
  have hs : c9.slots = (s.heap[q]).slots := Array.ext_getElem? fun i => e4 i fun hm => hz _ hm rfl
  have h9 : c9 = s.heap[q] := by
    rw [hs] at e2
    exact e2
  have e5 : U.heap[q]? = some c9 := e1
  rw [e5, h9, Array.getElem?_eq_getElem hq]
/-- the words of a throw but the four that speak of the heap -/
def vx_no (w : Cond) : Bool := decide (w ≠ .isRef (.static Bundle.tN "UNASSIGNED_STACK" Bundle.steD)) && decide (w ≠ .isRef (.static Bundle.tN "SUPPRESSED_SENTINEL" Bundle.listD)) && decide (w ≠ .laysStatic Bundle.tN "UNASSIGNED_STACK" Bundle.steD) && decide (w ≠ .laysStatic Bundle.tN "SUPPRESSED_SENTINEL" Bundle.listD)
def vx_at0 (own : String) (ic : Nat) (X : String) (names : List String) : List Cond := (Bundle.ownAtoms0 own ic X names).filter vx_no
def vx_atS (own : String) (ic : Nat) (X : String) (names : List String) : List Cond := (Bundle.ownAtoms own ic X names).filter vx_no
/-- a word that the tables alone decide, or a good one -/
def vx_ot (w : Cond) : Bool := w.onTables || goodWord w
theorem vx_ot_at {args a' : Array Value} {s U : State} {w : Cond} (hW : s.WarmedH U.vm) (hvm : s.vm = U.vm) (hg : vx_ot w = true) (h : w.before args s = true) : w.before a' U = true := by
  simp only [vx_ot, Bool.or_eq_true] at hg
  rcases hg with hg | hg
  · exact va_tabs hg hvm h
  · exact word_at hW (good_of_word hg) h
/-- a list's words: the good ones out of the method's own list, the others by premises of their own -/
theorem vx_hat {args : Array Value} {s : State} {L B : List Cond} (h1 : ∀ w ∈ L.filter goodWord, w.before args s = true) (h2 : ∀ w ∈ L.filter (fun w => !goodWord w), w ∈ B) (h3 : ∀ w ∈ B, w.before args s = true) : ∀ w ∈ L, w.before args s = true := by
  intro w hw
  by_cases g : goodWord w = true
  · exact h1 w (List.mem_filter.mpr ⟨hw, g⟩)
  · refine h3 w (h2 w (List.mem_filter.mpr ⟨hw, ?_⟩))
    show (!goodWord w) = true
    cases hgw : goodWord w
    · rfl
    · exact absurd hgw g
theorem vx_c {args : Array Value} {s : State} {w : Cond} {B : List Cond} (h : w.before args s = true) (t : ∀ w ∈ B, w.before args s = true) : ∀ w' ∈ w :: B, w'.before args s = true := fun w' h' => (List.mem_cons.mp h').elim (fun e => by rw [e]; exact h) (t w')
theorem vx_n {args : Array Value} {s : State} : ∀ w ∈ ([] : List Cond), w.before args s = true := fun _ h => nomatch h
theorem vx_own {args : Array Value} {s : State} {L : List Cond} (h1 : ∀ w ∈ L.filter vx_no, w.before args s = true)
    (hU : (Cond.isRef (.static Bundle.tN "UNASSIGNED_STACK" Bundle.steD)).before args s = true) (hN : (Cond.isRef (.static Bundle.tN "SUPPRESSED_SENTINEL" Bundle.listD)).before args s = true)
    (lU : (Cond.laysStatic Bundle.tN "UNASSIGNED_STACK" Bundle.steD).before args s = true) (lN : (Cond.laysStatic Bundle.tN "SUPPRESSED_SENTINEL" Bundle.listD).before args s = true) : ∀ w ∈ L, w.before args s = true := by
  intro w hw
  by_cases e1 : w = .isRef (.static Bundle.tN "UNASSIGNED_STACK" Bundle.steD)
  · rw [e1]; exact hU
  · by_cases e2 : w = .isRef (.static Bundle.tN "SUPPRESSED_SENTINEL" Bundle.listD)
    · rw [e2]; exact hN
    · by_cases e3 : w = .laysStatic Bundle.tN "UNASSIGNED_STACK" Bundle.steD
      · rw [e3]; exact lU
      · by_cases e4 : w = .laysStatic Bundle.tN "SUPPRESSED_SENTINEL" Bundle.listD
        · rw [e4]; exact lN
        · exact h1 w (List.mem_filter.mpr ⟨hw, by unfold vx_no; rw [decide_eq_true e1, decide_eq_true e2, decide_eq_true e3, decide_eq_true e4]; rfl⟩)
/-- where a static field lies, its class's statics cell in H -/
def vx_L (C n d : String) (A : Nat → Prop) (U : State) (H : Heap) : Prop := ∃ (c : ClassId) (k : Class) (i : Nat) (f : Field) (a : Nat) (cell : Cell), U.vm.findClass C = some c ∧ U.fieldFound? C n d = some (c, k, i, f) ∧ f.isStatic = true ∧ k.statics = some a ∧ H[a]? = some cell ∧ cell.vm.isStatics = true ∧ cell.cls = c ∧ f.slot < cell.slots.size ∧ k.staticTypes[f.slot]? = some f.type ∧ ¬ A a
theorem vx_L.moved {C n d : String} {A : Nat → Prop} {u U : State} {H : Heap} (hvm : u.vm.Alike U.vm) (h : vx_L C n d A u H) : vx_L C n d A U H := by
  obtain ⟨c, k, i, f, a, cell, h1, h2, h3, h4, h5, h6, h7, h8, h9, h10⟩ := h
  obtain ⟨k', hi', he⟩ := State.fieldFound?_setVm hvm h2
  exact ⟨c, k', i, f, a, cell, by rw [hvm.findClass]; exact h1, hi', h3, by rw [he]; exact h4, h5, h6, h7, h8, by rw [he]; exact h9, h10⟩
theorem vx_L.kept {C n d : String} {A : Nat → Prop} {U : State} {H H1 : Heap} (h : vx_L C n d A U H) (hq : ∀ a : Nat, a < H.size → ¬ A a → H1[a]? = H[a]?) : vx_L C n d A U H1 := by
  obtain ⟨c, k, i, f, a, cell, h1, h2, h3, h4, h5, h6, h7, h8, h9, h10⟩ := h
  exact ⟨c, k, i, f, a, cell, h1, h2, h3, h4, by rw [hq a (Array.getElem?_eq_some_iff.mp h5).1 h10]; exact h5, h6, h7, h8, h9, h10⟩
theorem vx_L.narrow {C n d : String} {A B : Nat → Prop} {U : State} {H : Heap} (h : vx_L C n d A U H) (hAB : ∀ q, B q → A q) : vx_L C n d B U H := by
  obtain ⟨c, k, i, f, a, cell, h1, h2, h3, h4, h5, h6, h7, h8, h9, h10⟩ := h
  exact ⟨c, k, i, f, a, cell, h1, h2, h3, h4, h5, h6, h7, h8, h9, fun z => h10 (hAB _ z)⟩
theorem vx_L.word {C n d : String} {A : Nat → Prop} {s : State} {args : Array Value} (h : vx_L C n d A s s.heap) : (Cond.laysStatic C n d).before args s = true := by
  obtain ⟨c, k, i, f, a, cell, h1, h2, h3, h4, h5, h6, h7, h8, h9, -⟩ := h
  show (Cond.laysStatic C n d).holds args s none s [] = true
  exact Cond.laysStatic_of h1 h2 h3 h4 h5 h6 h7 h8 h9
/-- .. and what it holds: null or some reference -/
def vx_Zq (C n d : String) (A : Nat → Prop) (U : State) (H : Heap) : Prop := va_Zq C n d A U H ∧ vx_L C n d A U H
theorem vx_Zq.moved {C n d : String} {A : Nat → Prop} {u U : State} {H : Heap} (hvm : u.vm.Alike U.vm) (h : vx_Zq C n d A u H) : vx_Zq C n d A U H := ⟨va_Zq.moved hvm h.1, vx_L.moved hvm h.2⟩
theorem vx_Zq.kept {C n d : String} {A : Nat → Prop} {U : State} {H H1 : Heap} (h : vx_Zq C n d A U H) (hq : ∀ a : Nat, a < H.size → ¬ A a → H1[a]? = H[a]?) : vx_Zq C n d A U H1 := ⟨va_Zq.kept h.1 hq, vx_L.kept h.2 hq⟩
theorem vx_Zq.narrow {C n d : String} {A B : Nat → Prop} {U : State} {H : Heap} (h : vx_Zq C n d A U H) (hAB : ∀ q, B q → A q) : vx_Zq C n d B U H := ⟨va_Zq.narrow h.1 hAB, vx_L.narrow h.2 hAB⟩
theorem vx_Zqof {args : Array Value} {s : State} {C n d : String} {A : Nat → Prop} (hl : (Cond.laysStatic C n d).before args s = true) (hini : (Cond.initialized C).before args s = true) (h : (Cond.isRef (.static C n d)).before args s = true) (hA : ∀ a : Nat, a < s.heap.size → ¬ A a) : vx_Zq C n d A s s.heap := by
  refine ⟨va_Zqof hl hini h hA, ?_⟩
  obtain ⟨c, k, i, f, a, cell, h1, h2, h3, h4, h5, h6, h7, h8, h9⟩ := Cond.laysStatic_spec hl
  exact ⟨c, k, i, f, a, cell, h1, h2, h3, h4, h5, h6, h7, h8, h9, hA a (Array.getElem?_eq_some_iff.mp h5).1⟩
theorem vx_isRef {C n d : String} {v : Value} {A : Nat → Prop} {s : State} {args : Array Value} (h : va_Z C n d v A s s.heap) (hv : v.isRef = true) : (Cond.isRef (.static C n d)).before args s = true := by
  obtain ⟨cf, kf, fi, f, a, cell, h1, h2, h3, h4, h5, h6, h7, -⟩ := h
  have he : (Term.static C n d).eval args s none [] s = some v := by
    simp [Term.eval, State.fieldNamed?, h1, h2, h4, h5, h6, h7]
  simp only [Cond.before, Cond.holds, Cond.value, he]
  cases v <;> simp_all [Value.isRef]
theorem vx_isRefq {C n d : String} {A : Nat → Prop} {s : State} {args : Array Value} (h : va_Zq C n d A s s.heap) : (Cond.isRef (.static C n d)).before args s = true := by
  rcases h with h | ⟨t, h⟩
  · exact vx_isRef h rfl
  · exact vx_isRef h rfl
/-- the same frame, seen from here: as if the method were called anew in this heap -/
theorem vx_rebase {T : State} (X : Stand p l e R s m args below meth c T locs cells slots) {R' : Room} (hf : R'.frames ≤ R.frames) (hl : R'.locals ≤ R.locals) (hc : cells + R'.cells ≤ R.cells) (hs : slots + R'.slots ≤ R.slots) :
    Stand p l e R' ((T.setVm s.vm).setFrames (.invoking m args :: below)) m args below meth c T [] 0 0 := by
  have htop : (T.setVm s.vm).topJava?.isSome := X.here.top
  have hF : ((T.setVm s.vm).setFrames (.invoking m args :: below)).frames = .invoking m args :: below := State.frames_setFrames _ (State.cur_lt_of_top htop)
  obtain ⟨g₀, hg0⟩ := Option.isSome_iff_exists.mp htop
  obtain ⟨r, hr⟩ := State.topJava?_eq_some.mp hg0
  have hl9 : e.platform.stackLimits (T.setVm s.vm).me = e.platform.stackLimits s.me := X.limits
  have hb9 : (T.setVm s.vm).me.stackBytes = s.me.stackBytes := X.bytes
  refine ⟨X.admits, X.cas, X.clock, hF, ?_, X.hears, X.method, X.code, X.here, X.tail, X.warmed, ?_, ?_, ?_⟩
  · have h := X.room
    have hU : ((T.setVm s.vm).setFrames (.invoking m args :: below)).localsInUse = s.localsInUse := by
      rw [State.localsInUse_invoking hF (meth := meth) (c := c) X.method X.code, State.localsInUse_invoking X.frames X.method X.code]
    simp only [State.hasRoom, Bool.and_eq_true, decide_eq_true_eq] at h ⊢
    obtain ⟨⟨⟨⟨h1, h2, h3, h4, h5, h6⟩, h7⟩, h8⟩, h9⟩ := h
    rw [X.frames, List.length_cons] at h2 h3
    have q1 := X.heapSize
    have q2 := X.used
    simp only [hF, hU, List.length_cons, State.stackLimits_setFrames, State.stackBytes_setFrames, hl9, hb9]
    refine ⟨⟨⟨⟨by omega, by omega, by omega, by omega, by omega, h6⟩, ?_⟩, ?_⟩, X.book⟩
    · show T.heap.size + R'.cells ≤ e.platform.maxCells
      omega
    · show T.slotsUsed + R'.slots ≤ e.platform.maxSlots
      omega
  · rw [State.stackLimits_setFrames]; rfl
  · rw [State.stackBytes_setFrames]; rfl
  · refine ⟨?_, Nat.le_refl _, Nat.le_refl _, ?_, ?_, fun a c9 h9 => ⟨c9, h9, rfl, rfl, fun _ _ => rfl⟩⟩
    · obtain ⟨t, ht, -⟩ := State.frames_cons hr
      show T.setVm s.vm = { ((T.setVm s.vm).setFrames (.invoking m args :: below)).setFrames (T.setVm s.vm).frames with heap := T.heap, slotsUsed := T.slotsUsed }
      rw [State.setFrames_setFrames, State.setFrames_self ht]
      rfl
    · show T.slotsUsed = T.slotsUsed + ((T.heap.toList.drop T.heap.size).map (·.slots.size)).sum
      rw [List.drop_eq_nil_of_le (Nat.le_of_eq Array.length_toList)]
      rfl
    · show ((T.heap.toList.drop T.heap.size).map (·.slots.size)).sum ≤ 0
      rw [List.drop_eq_nil_of_le (Nat.le_of_eq Array.length_toList)]
      exact Nat.le_refl _
/-- 'throw new E()': new; dup; invokespecial; athrow -/
theorem vx_throw0 {cc : ByteArray} {pc : Nat} (hexec : p.tables.exec = Jvm.exec) (hb : c.code = cc) (hl : l.stackTraces = false) {own cls : String} {names : List String} {ik ic mc ms : Nat} {A : Nat → Prop}
    (hown : s.vm.findClass own = some m.cls) (hcls : Bundle.fit cls = true) (hnames : ∀ n ∈ names, Bundle.fit n = true)
    (hk : (Cond.classLink own ik cls).before args s = true) (hini : (Cond.initialized cls).before args s = true) (hat : ∀ w ∈ vx_at0 own ic cls names, w.before args s = true)
    (hgood : ∀ w ∈ Cond.classLink own ik cls :: Cond.initialized cls :: vx_at0 own ic cls names, vx_ot w = true)
    (hU : vx_Zq Bundle.tN "UNASSIGNED_STACK" Bundle.steD A s s.heap) (hN : vx_Zq Bundle.tN "SUPPRESSED_SENTINEL" Bundle.listD A s s.heap) (hS : va_S A s.heap H locs) (hsize : ls.size = c.maxLocals)
    (d0 : decode cc pc = .ok (.new ik, 3)) (d3 : decode cc (pc + 3) = .ok (.dup, 1)) (d4 : decode cc (pc + 4) = .ok (.invokespecial ic, 3)) (d7 : decode cc (pc + 7) = .ok (.athrow, 1))
    (hout : ∀ x ∈ c.exceptionTable.toList, covers x (pc + 7) = false)
    (hRframes : names.length + 3 < R.frames) (hRlocals : (rest.map fun v => v.category).sum + (13 * (names.length + 1) + 42) ≤ R.locals) (hRcells : cells + 1 ≤ R.cells) (hRslots : slots + 6 ≤ R.slots) (hlocks : meth.locks = false)
    (hx : ∀ t : State, s.vm.Alike t.vm → H.size ≤ t.heap.size → (∀ q : Nat, q < H.size → t.heap[q]? = H[q]?) → XC cls s t)
    (hf : ∀ z ∈ locs, free z.base) (hc : cells + 1 ≤ mc) (hs : slots + 6 ≤ ms) :
    W p l e R s m args below meth c H locs cells slots (vx_MQ below Qc XC args s mc ms free) (F0 m pc ls rest) := by
  intro T hT X
  have htr : e.platform.stackTraces = false := (show e.platform.stackTraces = l.stackTraces by rw [X.admits.platform]).trans hl
  have Y := vx_rebase X (R' := { frames := R.frames, locals := R.locals, cells := 1, slots := 6 }) (Nat.le_refl _) (Nat.le_refl _) hRcells hRslots
  obtain ⟨s', hA⟩ : ∃ z, z = (T.setVm s.vm).setFrames (.invoking m args :: below) := ⟨_, rfl⟩
  rw [← hA] at Y
  have hvm : s'.vm = s.vm := by rw [hA]; rfl
  have hhp : s'.heap = H := by rw [hA]; exact hT
  have hW0 : s.WarmedH s'.vm := by rw [hvm]; exact State.WarmedH.refl s
  have hat' : ∀ w ∈ vx_at0 own ic cls names, w.before args s' = true := fun w hw => vx_ot_at hW0 hvm.symm (hgood w (List.mem_cons_of_mem _ (List.mem_cons_of_mem _ hw))) (hat w hw)
  have hk' : (Cond.classLink own ik cls).before args s' = true := vx_ot_at hW0 hvm.symm (hgood _ List.mem_cons_self) hk
  have hini' : (Cond.initialized cls).before args s' = true := vx_ot_at hW0 hvm.symm (hgood _ (List.mem_cons_of_mem _ List.mem_cons_self)) hini
  have hU' : vx_Zq Bundle.tN "UNASSIGNED_STACK" Bundle.steD A s' s'.heap := by rw [hhp]; exact vx_Zq.moved hW0.alike (hU.kept hS.2.1)
  have hN' : vx_Zq Bundle.tN "SUPPRESSED_SENTINEL" Bundle.listD A s' s'.heap := by rw [hhp]; exact vx_Zq.moved hW0.alike (hN.kept hS.2.1)
  have h : ∀ w ∈ Bundle.ownAtoms0 own ic cls names, w.before args s' = true := vx_own hat' (vx_isRefq hU'.1) (vx_isRefq hN'.1) hU'.2.word hN'.2.word
  have hown' : s'.vm.findClass own = some m.cls := by rw [hvm]; exact hown
  have hins : (Cond.instantiable cls 6).before args s' = true := h _ (by simp [Bundle.ownAtoms0])
  obtain ⟨vm₁, cX, kX, hfX, hkX, -, -, X₁, st1⟩ := Y.newCold hexec (own := own) (C := cls) (index := ik) (n := 6) hown' hk' hins hini'
    (g := F0 m pc ls rest) rfl (by rw [hb]; exact d0) (Nat.le_refl _) (Nat.le_refl _)
  generalize hT1 : (T.setVm vm₁).pushCell { cls := cX, slots := kX.instanceTypes.map defaultValue, vm := .none } = T1 at X₁ st1
  have hcat : (Value.ref T.heap.size).category = 1 := rfl
  have hcellA : T1.heap[T.heap.size]? = some (freshCell cX kX) := by rw [← hT1]; exact State.heap_pushCell_size _ _
  have d3' : decode c.code (pc + 3) = .ok (.dup, 1) := by rw [hb]; exact d3
  obtain ⟨U, hsteps, hrun, hend, hW, hsame, ce, hce, hO⟩ := X₁.ctorThrow0 hexec htr (own := own) (cls := cls) (names := names) (ic := ic) hown' hcls hnames h (fun x hx => nomatch hx) hfX hkX hcellA (by rw [hhp, hT]; exact Nat.le_refl _)
    (g := { method := m, pc := pc + 4, locals := ls, stack := .ref T.heap.size :: .ref T.heap.size :: rest, locked := none }) rfl hsize rfl rfl (rest := rest) rfl
    (by rw [hb]; exact d4) (by rw [hb]; exact d7) hout hRframes (by simp only [List.map_cons, List.sum_cons, hcat]; omega) hlocks
  obtain ⟨f1, f2⟩ := vx_frame hsame
  rw [hhp] at f1 f2
  have hWs : s.WarmedH U.vm := State.WarmedH.trans hW0 hW
  have hcl : s.vm.findClass cls = some ce.cls := by
    have h9 := hO.cls
    rw [hvm] at h9
    exact h9
  have hall : s.sameButNew ({ U with vm := s.vm } : State) locs mc ms := by
    subst hA
    obtain ⟨e1, e2⟩ := hsame
    rw [State.setFrames_setFrames] at e1
    have h2 : (T.setVm s.vm).sameButNew ({ U with vm := s.vm } : State) [] (0 + 1) (0 + 6) := ⟨e1, e2⟩
    have h3 := X.same.trans h2
    rw [List.append_nil] at h3
    exact h3.mono hc hs
  refine ⟨U, ?_, .threw T.heap.size, hrun, hend, Or.inr ⟨T.heap.size, rfl, cls, ce, locs, hx U hWs.alike f1 (fun q hq => f2 q hq (fun z hz => nomatch hz)), hce, hO.vm, hcl, hWs, hall, hf⟩⟩
  refine st1 _ ?_
  show Steps p.tables e below (T1.setTop { method := m, pc := pc + 3, locals := ls, stack := .ref T.heap.size :: rest, locked := none }) _
  jvm_step X₁.here [X₁.here.top, hexec, d3', Value.category]
  exact hsteps
/-- 'throw new E("text")': new; dup; ldc; invokespecial; athrow -/
theorem vx_throwS {cc : ByteArray} {pc : Nat} (hexec : p.tables.exec = Jvm.exec) (hb : c.code = cc) (hl : l.stackTraces = false) {own cls text : String} {names : List String} {ik is ic mc ms sa : Nat} {A : Nat → Prop}
    (hown : s.vm.findClass own = some m.cls) (hcls : Bundle.fit cls = true) (hnames : ∀ n ∈ names, Bundle.fit n = true)
    (hk : (Cond.classLink own ik cls).before args s = true) (hini : (Cond.initialized cls).before args s = true) (hstr : vk_R own is text sa s) (hat : ∀ w ∈ vx_atS own ic cls names, w.before args s = true)
    (hgood : ∀ w ∈ Cond.classLink own ik cls :: Cond.initialized cls :: vx_atS own ic cls names, vx_ot w = true)
    (hU : vx_Zq Bundle.tN "UNASSIGNED_STACK" Bundle.steD A s s.heap) (hN : vx_Zq Bundle.tN "SUPPRESSED_SENTINEL" Bundle.listD A s s.heap) (hS : va_S A s.heap H locs) (hsize : ls.size = c.maxLocals)
    (d0 : decode cc pc = .ok (.new ik, 3)) (d3 : decode cc (pc + 3) = .ok (.dup, 1)) (d4 : decode cc (pc + 4) = .ok (.ldc is, 2)) (d6 : decode cc (pc + 6) = .ok (.invokespecial ic, 3)) (d9 : decode cc (pc + 9) = .ok (.athrow, 1))
    (hout : ∀ x ∈ c.exceptionTable.toList, covers x (pc + 9) = false)
    (hRframes : names.length + 3 < R.frames) (hRlocals : (rest.map fun v => v.category).sum + (13 * (names.length + 1) + 43) ≤ R.locals) (hRcells : cells + 1 ≤ R.cells) (hRslots : slots + 6 ≤ R.slots) (hlocks : meth.locks = false)
    (hx : ∀ t : State, s.vm.Alike t.vm → H.size ≤ t.heap.size → (∀ q : Nat, q < H.size → t.heap[q]? = H[q]?) → XC cls s t)
    (hf : ∀ z ∈ locs, free z.base) (hc : cells + 1 ≤ mc) (hs : slots + 6 ≤ ms) :
    W p l e R s m args below meth c H locs cells slots (vx_MQ below Qc XC args s mc ms free) (F0 m pc ls rest) := by
  intro T hT X
  have htr : e.platform.stackTraces = false := (show e.platform.stackTraces = l.stackTraces by rw [X.admits.platform]).trans hl
  have Y := vx_rebase X (R' := { frames := R.frames, locals := R.locals, cells := 1, slots := 6 }) (Nat.le_refl _) (Nat.le_refl _) hRcells hRslots
  obtain ⟨s', hA⟩ : ∃ z, z = (T.setVm s.vm).setFrames (.invoking m args :: below) := ⟨_, rfl⟩
  rw [← hA] at Y
  have hvm : s'.vm = s.vm := by rw [hA]; rfl
  have hhp : s'.heap = H := by rw [hA]; exact hT
  have hW0 : s.WarmedH s'.vm := by rw [hvm]; exact State.WarmedH.refl s
  have hat' : ∀ w ∈ vx_atS own ic cls names, w.before args s' = true := fun w hw => vx_ot_at hW0 hvm.symm (hgood w (List.mem_cons_of_mem _ (List.mem_cons_of_mem _ hw))) (hat w hw)
  have hk' : (Cond.classLink own ik cls).before args s' = true := vx_ot_at hW0 hvm.symm (hgood _ List.mem_cons_self) hk
  have hini' : (Cond.initialized cls).before args s' = true := vx_ot_at hW0 hvm.symm (hgood _ (List.mem_cons_of_mem _ List.mem_cons_self)) hini
  have hU' : vx_Zq Bundle.tN "UNASSIGNED_STACK" Bundle.steD A s' s'.heap := by rw [hhp]; exact vx_Zq.moved hW0.alike (hU.kept hS.2.1)
  have hN' : vx_Zq Bundle.tN "SUPPRESSED_SENTINEL" Bundle.listD A s' s'.heap := by rw [hhp]; exact vx_Zq.moved hW0.alike (hN.kept hS.2.1)
  have h : ∀ w ∈ Bundle.ownAtoms own ic cls names, w.before args s' = true := vx_own hat' (vx_isRefq hU'.1) (vx_isRefq hN'.1) hU'.2.word hN'.2.word
  have hown' : s'.vm.findClass own = some m.cls := by rw [hvm]; exact hown
  have hins : (Cond.instantiable cls 6).before args s' = true := h _ (by simp [Bundle.ownAtoms])
  obtain ⟨vm₁, cX, kX, hfX, hkX, -, -, X₁, st1⟩ := Y.newCold hexec (own := own) (C := cls) (index := ik) (n := 6) hown' hk' hins hini'
    (g := F0 m pc ls rest) rfl (by rw [hb]; exact d0) (Nat.le_refl _) (Nat.le_refl _)
  generalize hT1 : (T.setVm vm₁).pushCell { cls := cX, slots := kX.instanceTypes.map defaultValue, vm := .none } = T1 at X₁ st1
  have hcat : (Value.ref T.heap.size).category = 1 := rfl
  have hcellA : T1.heap[T.heap.size]? = some (freshCell cX kX) := by rw [← hT1]; exact State.heap_pushCell_size _ _
  have d3' : decode c.code (pc + 3) = .ok (.dup, 1) := by rw [hb]; exact d3
  have d4' : decode c.code (pc + 4) = .ok (.ldc is, 2) := by rw [hb]; exact d4
  have hstr' : vk_R own is text sa s' := vk_R.warm hW0 hstr
  obtain ⟨U, hsteps, hrun, hend, hW, hsame, ce, hce, hO⟩ := X₁.ctorThrowS hexec htr (own := own) (cls := cls) (names := names) (ic := ic) hown' hcls hnames h (fun x hx => nomatch hx) hfX hkX hcellA (by rw [hhp, hT]; exact Nat.le_refl _) (msg := .ref sa) rfl
    (g := { method := m, pc := pc + 6, locals := ls, stack := .ref sa :: .ref T.heap.size :: .ref T.heap.size :: rest, locked := none }) rfl hsize rfl rfl (rest := rest) rfl
    (by rw [hb]; exact d6) (by rw [hb]; exact d9) hout hRframes (by simp only [List.map_cons, List.sum_cons, hcat]; omega) hlocks
  obtain ⟨f1, f2⟩ := vx_frame hsame
  rw [hhp] at f1 f2
  have hWs : s.WarmedH U.vm := State.WarmedH.trans hW0 hW
  have hcl : s.vm.findClass cls = some ce.cls := by
    have h9 := hO.cls
    rw [hvm] at h9
    exact h9
  have hall : s.sameButNew ({ U with vm := s.vm } : State) locs mc ms := by
    subst hA
    obtain ⟨e1, e2⟩ := hsame
    rw [State.setFrames_setFrames] at e1
    have h2 : (T.setVm s.vm).sameButNew ({ U with vm := s.vm } : State) [] (0 + 1) (0 + 6) := ⟨e1, e2⟩
    have h3 := X.same.trans h2
    rw [List.append_nil] at h3
    exact h3.mono hc hs
  refine ⟨U, ?_, .threw T.heap.size, hrun, hend, Or.inr ⟨T.heap.size, rfl, cls, ce, locs, hx U hWs.alike f1 (fun q hq => f2 q hq (fun z hz => nomatch hz)), hce, hO.vm, hcl, hWs, hall, hf⟩⟩
  refine st1 _ ?_
  show Steps p.tables e below (T1.setTop { method := m, pc := pc + 3, locals := ls, stack := .ref T.heap.size :: rest, locked := none }) _
  jvm_step X₁.here [X₁.here.top, hexec, d3', Value.category]
  exact X₁.ldcString hexec (own := own) (text := text) (index := is) (a := sa) hown' hstr'.1 hstr'.2
    (g := { method := m, pc := pc + 4, locals := ls, stack := .ref T.heap.size :: .ref T.heap.size :: rest, locked := none }) rfl d4' _ hsteps
/-- 'throw new E("text")', the text by a wide index -/
theorem vx_throwSW {cc : ByteArray} {pc : Nat} (hexec : p.tables.exec = Jvm.exec) (hb : c.code = cc) (hl : l.stackTraces = false) {own cls text : String} {names : List String} {ik is ic mc ms sa : Nat} {A : Nat → Prop}
    (hown : s.vm.findClass own = some m.cls) (hcls : Bundle.fit cls = true) (hnames : ∀ n ∈ names, Bundle.fit n = true)
    (hk : (Cond.classLink own ik cls).before args s = true) (hini : (Cond.initialized cls).before args s = true) (hstr : vk_R own is text sa s) (hat : ∀ w ∈ vx_atS own ic cls names, w.before args s = true)
    (hgood : ∀ w ∈ Cond.classLink own ik cls :: Cond.initialized cls :: vx_atS own ic cls names, vx_ot w = true)
    (hU : vx_Zq Bundle.tN "UNASSIGNED_STACK" Bundle.steD A s s.heap) (hN : vx_Zq Bundle.tN "SUPPRESSED_SENTINEL" Bundle.listD A s s.heap) (hS : va_S A s.heap H locs) (hsize : ls.size = c.maxLocals)
    (d0 : decode cc pc = .ok (.new ik, 3)) (d3 : decode cc (pc + 3) = .ok (.dup, 1)) (d4 : decode cc (pc + 4) = .ok (.ldc_w is, 3)) (d7 : decode cc (pc + 7) = .ok (.invokespecial ic, 3)) (d10 : decode cc (pc + 10) = .ok (.athrow, 1))
    (hout : ∀ x ∈ c.exceptionTable.toList, covers x (pc + 10) = false)
    (hRframes : names.length + 3 < R.frames) (hRlocals : (rest.map fun v => v.category).sum + (13 * (names.length + 1) + 43) ≤ R.locals) (hRcells : cells + 1 ≤ R.cells) (hRslots : slots + 6 ≤ R.slots) (hlocks : meth.locks = false)
    (hx : ∀ t : State, s.vm.Alike t.vm → H.size ≤ t.heap.size → (∀ q : Nat, q < H.size → t.heap[q]? = H[q]?) → XC cls s t)
    (hf : ∀ z ∈ locs, free z.base) (hc : cells + 1 ≤ mc) (hs : slots + 6 ≤ ms) :
    W p l e R s m args below meth c H locs cells slots (vx_MQ below Qc XC args s mc ms free) (F0 m pc ls rest) := by
  intro T hT X
  have htr : e.platform.stackTraces = false := (show e.platform.stackTraces = l.stackTraces by rw [X.admits.platform]).trans hl
  have Y := vx_rebase X (R' := { frames := R.frames, locals := R.locals, cells := 1, slots := 6 }) (Nat.le_refl _) (Nat.le_refl _) hRcells hRslots
  obtain ⟨s', hA⟩ : ∃ z, z = (T.setVm s.vm).setFrames (.invoking m args :: below) := ⟨_, rfl⟩
  rw [← hA] at Y
  have hvm : s'.vm = s.vm := by rw [hA]; rfl
  have hhp : s'.heap = H := by rw [hA]; exact hT
  have hW0 : s.WarmedH s'.vm := by rw [hvm]; exact State.WarmedH.refl s
  have hat' : ∀ w ∈ vx_atS own ic cls names, w.before args s' = true := fun w hw => vx_ot_at hW0 hvm.symm (hgood w (List.mem_cons_of_mem _ (List.mem_cons_of_mem _ hw))) (hat w hw)
  have hk' : (Cond.classLink own ik cls).before args s' = true := vx_ot_at hW0 hvm.symm (hgood _ List.mem_cons_self) hk
  have hini' : (Cond.initialized cls).before args s' = true := vx_ot_at hW0 hvm.symm (hgood _ (List.mem_cons_of_mem _ List.mem_cons_self)) hini
  have hU' : vx_Zq Bundle.tN "UNASSIGNED_STACK" Bundle.steD A s' s'.heap := by rw [hhp]; exact vx_Zq.moved hW0.alike (hU.kept hS.2.1)
  have hN' : vx_Zq Bundle.tN "SUPPRESSED_SENTINEL" Bundle.listD A s' s'.heap := by rw [hhp]; exact vx_Zq.moved hW0.alike (hN.kept hS.2.1)
  have h : ∀ w ∈ Bundle.ownAtoms own ic cls names, w.before args s' = true := vx_own hat' (vx_isRefq hU'.1) (vx_isRefq hN'.1) hU'.2.word hN'.2.word
  have hown' : s'.vm.findClass own = some m.cls := by rw [hvm]; exact hown
  have hins : (Cond.instantiable cls 6).before args s' = true := h _ (by simp [Bundle.ownAtoms])
  obtain ⟨vm₁, cX, kX, hfX, hkX, -, -, X₁, st1⟩ := Y.newCold hexec (own := own) (C := cls) (index := ik) (n := 6) hown' hk' hins hini'
    (g := F0 m pc ls rest) rfl (by rw [hb]; exact d0) (Nat.le_refl _) (Nat.le_refl _)
  generalize hT1 : (T.setVm vm₁).pushCell { cls := cX, slots := kX.instanceTypes.map defaultValue, vm := .none } = T1 at X₁ st1
  have hcat : (Value.ref T.heap.size).category = 1 := rfl
  have hcellA : T1.heap[T.heap.size]? = some (freshCell cX kX) := by rw [← hT1]; exact State.heap_pushCell_size _ _
  have d3' : decode c.code (pc + 3) = .ok (.dup, 1) := by rw [hb]; exact d3
  have d4' : decode c.code (pc + 4) = .ok (.ldc_w is, 3) := by rw [hb]; exact d4
  have hstr' : vk_R own is text sa s' := vk_R.warm hW0 hstr
  obtain ⟨U, hsteps, hrun, hend, hW, hsame, ce, hce, hO⟩ := X₁.ctorThrowS hexec htr (own := own) (cls := cls) (names := names) (ic := ic) hown' hcls hnames h (fun x hx => nomatch hx) hfX hkX hcellA (by rw [hhp, hT]; exact Nat.le_refl _) (msg := .ref sa) rfl
    (g := { method := m, pc := pc + 7, locals := ls, stack := .ref sa :: .ref T.heap.size :: .ref T.heap.size :: rest, locked := none }) rfl hsize rfl rfl (rest := rest) rfl
    (by rw [hb]; exact d7) (by rw [hb]; exact d10) hout hRframes (by simp only [List.map_cons, List.sum_cons, hcat]; omega) hlocks
  obtain ⟨f1, f2⟩ := vx_frame hsame
  rw [hhp] at f1 f2
  have hWs : s.WarmedH U.vm := State.WarmedH.trans hW0 hW
  have hcl : s.vm.findClass cls = some ce.cls := by
    have h9 := hO.cls
    rw [hvm] at h9
    exact h9
  have hall : s.sameButNew ({ U with vm := s.vm } : State) locs mc ms := by
    subst hA
    obtain ⟨e1, e2⟩ := hsame
    rw [State.setFrames_setFrames] at e1
    have h2 : (T.setVm s.vm).sameButNew ({ U with vm := s.vm } : State) [] (0 + 1) (0 + 6) := ⟨e1, e2⟩
    have h3 := X.same.trans h2
    rw [List.append_nil] at h3
    exact h3.mono hc hs
  refine ⟨U, ?_, .threw T.heap.size, hrun, hend, Or.inr ⟨T.heap.size, rfl, cls, ce, locs, hx U hWs.alike f1 (fun q hq => f2 q hq (fun z hz => nomatch hz)), hce, hO.vm, hcl, hWs, hall, hf⟩⟩
  refine st1 _ ?_
  show Steps p.tables e below (T1.setTop { method := m, pc := pc + 3, locals := ls, stack := .ref T.heap.size :: rest, locked := none }) _
  jvm_step X₁.here [X₁.here.top, hexec, d3', Value.category]
  exact X₁.ldcStringW hexec (own := own) (text := text) (index := is) (a := sa) hown' hstr'.1 hstr'.2
    (g := { method := m, pc := pc + 4, locals := ls, stack := .ref T.heap.size :: .ref T.heap.size :: rest, locked := none }) rfl d4' _ hsteps
end Ends
section Bodies
variable {l : Launch}
theorem vx_ofW {y : MethodName} {ws ws' : List Cond} {rm : Room} {Pc : Array Value → State → Prop} {Qc : Array Value → State → Outcome → State → Prop} {XC : String → State → State → Prop} {mc ms : Nat} {free : Addr → Prop} {cc : ByteArray} {maxL : Nat} {ret : Option FieldType}
    (hy : plainName y.cls = true) (hw : ws = Cond.code y cc maxL ret :: ws')
    (body : ∀ p e s m args below meth c s₁, BodyLoose p l y (headSpec ws rm) cc maxL ret e s m args below meth c s₁ → c.maxLocals = maxL → (∀ x ∈ c.exceptionTable.toList, False) → Pc args s →
      W p l e (headSpec ws rm).room s m args below meth c s.heap [] 0 0 (vx_MQ below Qc XC args s mc ms free) (entryFrame m args maxL)) : vx_Met l y ws rm Pc Qc XC mc ms free := by
  refine MetFree.of_bodyS (code := cc) (maxLocals := maxL) (ret := ret) hy ?_ ?_
  · intro args s m h hn
    obtain ⟨meth, c, h1, h2, h3, h4, h5, h6, -, -⟩ := Cond.code_spec hn (atoms_spec (ws := ws) h _ (by rw [hw]; exact List.mem_cons_self))
    exact ⟨meth, c, h1, h2, h3, h4, h5, h6⟩
  · intro p e s m args below meth c s₁ B hml hP _
    have hh0 : s₁.heap = s.heap := by rw [B.state]; rfl
    have ht : ∀ x ∈ c.exceptionTable.toList, False := by
      obtain ⟨meth9, c9, h1, h2, -, -, -, -, h7, -⟩ := Cond.code_spec B.named (atoms_spec (ws := ws) B.pre _ (by rw [hw]; exact List.mem_cons_self))
      cases Option.some.inj (h1.symm.trans B.method)
      cases Option.some.inj (h2.symm.trans (Stand.of_body B).code)
      intro x hx
      rw [Array.isEmpty_iff.mp h7] at hx
      cases hx
    obtain ⟨t, a1, o, b1, b2, b3⟩ := body p e s m args below meth c s₁ B hml ht hP s₁ hh0 (Stand.of_body B)
    exact ⟨t, o, a1, b1, b2, b3⟩
/-- the table of a body with handlers -/
theorem vx_table {p : Program} {x y : MethodName} {S : Spec} {cc bytes : ByteArray} {maxL maxL' : Nat} {ret ret' : Option FieldType} {e : Env} {s s₁ : State} {m : MethodId} {args : Array Value} {below : List Frame} {meth : Method} {c : Code} {hh : List (Nat × Nat × Nat × Nat)}
    (B : BodyLoose p l y S cc maxL ret e s m args below meth c s₁) (h : (Cond.codeWith y bytes maxL' ret' hh).before args s = true) : c.exceptionTable.toList = tableOf hh := by
  obtain ⟨m9, meth9, c9, hn9, h1, h2, -, -, h6, -⟩ := Cond.codeWith_spec h
  cases Option.some.inj (hn9.symm.trans B.named)
  cases Option.some.inj (h1.symm.trans B.method)
  cases Option.some.inj (h2.symm.trans (Stand.of_body B).code)
  rw [← h6, table_eq]
end Bodies
end VXA
/-! ===== END ===== -/
/-! ===== BEGIN a static call of a method with an exception table ===== -/
section VXS
variable {p : Program} {l : Launch} {e : Env} {R : Room} {s : State} {m : MethodId} {args : Array Value} {below : List Frame} {meth : Method} {c : Code} {T : State} {H : Heap} {locs : List Loc} {cells slots : Nat}
abbrev vx_CSW (R : Room) (s : State) (args : Array Value) (own : String) (index : Nat) (y : MethodName) (bytes : ByteArray) (maxL : Nat) (ret : Option FieldType) (hh : List (Nat × Nat × Nat × Nat)) (ws : List Cond) (rm : Room) (mc ms n : Nat) : Prop :=
  (rm.cells = mc ∧ rm.slots = ms ∧ rm.frames + 1 ≤ R.frames ∧ 8 + (maxL + 11) + rm.locals ≤ R.locals ∧ (∀ w ∈ ws, ∀ (a' : Array Value) (U : State), s.WarmedH U.vm → w.before a' U = true) ∧ Cond.codeWith y bytes maxL ret hh ∈ ws) ∧
  (Cond.codeWith y bytes maxL ret hh).before args s = true ∧ (Cond.initialized y.cls).before args s = true ∧ (y.cls ≠ "java/lang/invoke/MethodHandle" ∧ y.cls ≠ "java/lang/invoke/VarHandle") ∧
  (∀ sig, parseMethodDescriptor y.desc = some sig → n = sig.parameters.length) ∧ (Cond.methodLink own index y).before args s = true ∧ (Cond.static y).before args s = true
theorem vx_cwSW {own : String} {index maxL mc ms : Nat} {y : MethodName} {bytes : ByteArray} {ret : Option FieldType} {hh : List (Nat × Nat × Nat × Nat)} {Ts ws ws' : List Cond} {rm : Room} (n : Nat) (ht : ∀ w ∈ Ts, w.before args s = true) (hT : GoodIn Ts (va_wsS own index y ws)) (hw : ws = Cond.codeWith y bytes maxL ret hh :: ws') (hrc : rm.cells = mc) (hrs : rm.slots = ms)
    (hd : y.cls ≠ "java/lang/invoke/MethodHandle" ∧ y.cls ≠ "java/lang/invoke/VarHandle" ∧ (parseMethodDescriptor y.desc).map (fun d => d.parameters.length) = some n) (hR : rm.frames + 1 ≤ R.frames ∧ 8 + (maxL + 11) + rm.locals ≤ R.locals) :
    vx_CSW R s args own index y bytes maxL ret hh ws rm mc ms n := by
  have ok : ∀ w ∈ va_wsS own index y ws, w.before args s = true := fun w h => ht w (hT w h).1
  have hG : GoodIn Ts ws := fun w h => hT w (by unfold va_wsS; exact List.mem_append_right _ h)
  have hc : Cond.codeWith y bytes maxL ret hh ∈ ws := by rw [hw]; exact List.mem_cons_self
  refine ⟨⟨hrc, hrs, hR.1, hR.2, pay_in ht hG, hc⟩, ht _ (hG _ hc).1, ok _ (by simp [va_wsS]), ⟨hd.1, hd.2.1⟩, fun sig h => ?_, ok _ (by simp [va_wsS]), ok _ (by simp [va_wsS])⟩
  have h2 := hd.2.2
  rw [h] at h2
  exact (Option.some.inj h2).symm
theorem vx_callSW (X : Stand p l e R s m args below meth c T locs cells slots) (hexec : p.tables.exec = Jvm.exec) {own : String} {index : Nat} {y : MethodName} {bytes : ByteArray} {maxL : Nat} {ret : Option FieldType} {hh : List (Nat × Nat × Nat × Nat)}
    (hown : s.vm.findClass own = some m.cls) (hlink : (Cond.methodLink own index y).before args s = true) (hstat : (Cond.static y).before args s = true) (hinit : (Cond.initialized y.cls).before args s = true)
    (hcode : (Cond.codeWith y bytes maxL ret hh).before args s = true) (hy : y.cls ≠ "java/lang/invoke/MethodHandle" ∧ y.cls ≠ "java/lang/invoke/VarHandle")
    {W9 : Nat} {Pre : Pt → Array Value → Prop} {Post : Pt → Array Value → Option Value → Pt → Prop} (hK : Back l R p e below s args y 3 W9 Pre Post)
    {g : JFrame} (hg : g.method = m) (hsize : g.locals.size = c.maxLocals) {argsL rest : List Value} (hlen : ∀ sig, parseMethodDescriptor y.desc = some sig → argsL.length = sig.parameters.length)
    (hstack : g.stack = argsL.reverse ++ rest) (hW : 2 * g.monitorRoom + (rest.map fun v => v.category).sum ≤ W9) (hdg : decode c.code g.pc = .ok (.invokestatic index, 3))
    (hpre : ∀ vm₁, s.WarmedH vm₁ → Pre ⟨T.setVm vm₁, locs, cells, slots⟩ argsL.toArray) :
    ∃ (v : Option Value) (vm₁ : Vm) (B : Pt), s.WarmedH vm₁ ∧ Stand p l e R s m args below meth c B.U B.locs B.cells B.slots ∧ Post ⟨T.setVm vm₁, locs, cells, slots⟩ argsL.toArray v B ∧
      ∀ target, Steps p.tables e below (B.U.setTop { g with pc := g.pc + 3, stack := v.toList ++ rest }) target → Steps p.tables e below (T.setTop g) target := by
  obtain ⟨mk, methM, cM, hnamed, hmethM, -, -, -, -, -, -, hsigM⟩ := Cond.codeWith_spec hcode
  have hstatic : methM.isStatic = true := Cond.static_spec hnamed hmethM hstat
  obtain ⟨kP, hkP, -⟩ := className_of_methodNamed hnamed
  have hinitP : kP.init = .initialized := Cond.initialized_spec (findClass_of_methodNamed hnamed) hkP hinit
  obtain ⟨vm₁, X₁, hstep₁⟩ := X.invokestatic hexec hown hlink hnamed hmethM hstatic hkP hinitP hy (g := g) hg (argsL := argsL) (rest := rest) (hlen _ hsigM) hstack hdg
  obtain ⟨v, B, X', hpost, hsteps⟩ := hK m meth c ⟨T.setVm vm₁, locs, cells, slots⟩ { g with stack := rest } (.invokestatic index) mk argsL.toArray X₁ hg hsize hdg hW (X₁.named hnamed) (hpre vm₁ X₁.warmed)
  exact ⟨v, vm₁, B, X₁.warmed, X', hpost, fun target h => hstep₁ _ fun acts => by rw [doInvoke_state]; exact hsteps.trans h⟩
theorem vx_runSW {y : MethodName} {bytes cc : ByteArray} {maxL nL mc ms n index : Nat} {ret : Option FieldType} {hh : List (Nat × Nat × Nat × Nat)} {ws : List Cond} {rm : Room} {Pc : Array Value → State → Prop} {Qc : Array Value → State → Outcome → State → Prop} {free : Addr → Prop} {Ts : List Cond} {own : String} {As rest : List Value} {g : JFrame}
    (S : CallFix p m c cc nL s args Ts own) (hM : Met l y ws rm Pc Qc mc ms free) (cw : vx_CSW R s args own index y bytes maxL ret hh ws rm mc ms n) (hp : PreS s H Pc As)
    (hg : g.method = m) (hn : As.length = n) (hsize : g.locals.size = nL) (hstack : g.stack = As.reverse ++ rest) (hW : 2 * g.monitorRoom + (rest.map fun v => v.category).sum ≤ 8) (hdg : decode cc g.pc = .ok (.invokestatic index, 3)) (hf : cells + mc ≤ R.cells ∧ slots + ms ≤ R.slots) :
    va_Run p l e R s m args below meth c H locs cells slots mc ms g rest (Qc As.toArray) (free) := by
  obtain ⟨⟨hrc, hrs, hfr, hlo, hws, hcw⟩, hcode, hini, hy, hlen, hl, hstt⟩ := cw
  have hK : Back l R p e below s args y 3 8 (PreOf R mc ms Pc) (PostOf Qc mc ms free) := va_backW (hh := hh) (bytes := bytes) (maxL := maxL) (ret := ret) hM hp.1 hrc hrs hfr hlo hws hcw (fun a' U hW => word_at hW (Or.inl (by first | rfl | simp [Cond.onTables, Cond.keeps, Cond.steady])) hini)
  obtain ⟨hx, hb, hml, ho, -⟩ := S
  intro T hT X
  obtain ⟨v, vm₁, ⟨U', l2, c2, s2⟩, hW₁, X', ⟨g', mk, t, L, e1, e2, hq, h1, hL, h2, h3⟩, st⟩ := vx_callSW X hx (hh := hh) (bytes := bytes) (maxL := maxL) (ret := ret) ho hl hstt hini hcode hy hK hg (hsize.trans hml.symm) (argsL := As) (rest := rest) (fun sig h => hn.trans (hlen sig h)) hstack hW (by rw [hb]; exact hdg)
    (fun vm₁ hW₁ => ⟨hf.1, hf.2, hp.2 (T.setVm vm₁) hT hW₁⟩)
  dsimp only [Pt.U, Pt.locs, Pt.cells, Pt.slots] at X' e1 e2 h1 h2 h3 st
  subst h1; subst h2; subst h3
  exact ⟨v, (T.setVm vm₁).calling g' mk As.toArray, t, U', L, hT, X', hL, e1, e2, hq, st⟩
/-- not caught here, past rows that name other classes: it goes on to the caller -/
theorem vx_outP {p : Program} {l : Launch} {e : Env} {R : Room} {s : State} {m : MethodId} {args : Array Value} {below : List Frame} {meth : Method} {c : Code} {H : Heap} {locs : List Loc} {cells slots : Nat} {free : Addr → Prop} {ls : Array Slot} {rest : List Value} {Qc : Array Value → State → Outcome → State → Prop} {XC : String → State → State → Prop}
    {pc : Nat} {own E : String} {ce : Cell} {q : Addr} {mc ms : Nat} (hown : s.vm.findClass own = some m.cls) (hlocks : meth.locks = false)
    (hpass : ∀ z ∈ c.exceptionTable.toList, covers z pc = false ∨ (z.catchType ≠ 0 ∧ ∃ nm : String, (Cond.classLink own z.catchType nm).before args s = true ∧ va_Nc E nm s)) (hcell : H[q]? = some ce) (hv : ce.vm = .none) (hcl : s.vm.findClass E = some ce.cls)
    (hx : ∀ t : State, t.heap = H → s.vm.Alike t.vm → XC E s t) (hf : ∀ z ∈ locs, free z.base) (hc : cells ≤ mc) (hs : slots ≤ ms) :
    vx_W p l e R s m args below meth c H locs cells slots (vx_MQ below Qc XC args s mc ms free) (F0 m pc ls rest) q := by
  intro T hT X
  have hpl : e.platform.magicAccessors = ({} : Platform).magicAccessors := by rw [X.admits.platform]
  obtain ⟨vm', hW', X', st⟩ := X.outThrough hlocks q (g := F0 m pc ls rest) rfl rfl rfl (cell := ce) (by rw [hT]; exact hcell) (by rw [hv]; rfl)
    (by obtain ⟨k9, h9, -⟩ := Vm.findClass_spec hcl; exact ⟨k9, h9⟩) (fun z hz => by
      rcases hpass z hz with h | ⟨hz0, nm, hl1, hn1⟩
      · exact Or.inl h
      · obtain ⟨c6, hc6, hcl6⟩ := Cond.classLink_spec hown hl1 e.platform hpl
        obtain ⟨a8, b8, h1, h2, h3⟩ := hn1
        cases Option.some.inj (h1.symm.trans hcl)
        cases Option.some.inj (h2.symm.trans hc6)
        exact Or.inr ⟨hz0, _, hcl6, h3⟩)
  obtain ⟨g₀, hfr⟩ := X'.frames_eq
  have hcell9 : ((T.setVm vm').setFrames (.throwing q :: below)).heap[q]? = some ce := by
    show T.heap[q]? = some ce
    rw [hT]; exact hcell
  have hend : Ended ((T.setVm vm').setFrames (.throwing q :: below)) below (.threw q) := State.frames_setFrames _ (State.cur_lt_of_frames hfr)
  refine ⟨(T.setVm vm').setFrames (.throwing q :: below), ?_, .threw q, X'.here.running, hend, Or.inr ⟨q, rfl, E, ce, locs, hx _ hT (X'.ends _).1.alike, hcell9, hv, hcl, (X'.ends _).1, (X'.ends _).2.mono hc hs, hf⟩⟩
  rw [X.pushThrowing_eq]
  exact st
/-- a thing of a world lies in the heap -/
theorem vx_lt {D : va_G} {cl : List vw_C} {ws : va_W} {H1 : Heap} (h : va_P D cl ws H1) {k : Nat} {q : Nat × va_E} (hk : ws[k]? = some q) : q.1 < H1.size := (h k q hk).lt
end VXS
/-! ===== END ===== -/
/-! ===== BEGIN methods with a table of their own: called by a name, returning or throwing ===== -/
section VXH
/-! vx_backW, vx_callVX, vx_callSX, vx_callVW, vx_runVW, vx_runVX, vx_runSX, vx_ofWH follow the same proofs as their sisters above (Free/Laws.lean, Shelf42/LK1.lean); vx_outP calls Shelf42/NT130.lean (outThrough). -/
section
variable {l : Launch} {R : Room} {p : Program} {e : Env} {below : List Frame} {s : State} {sargs : Array Value} {y : MethodName} {len W9 : Nat}
theorem vx_backW {ws : List Cond} {rm : Room} {Pc : Array Value → State → Prop} {Qc : Array Value → State → Outcome → State → Prop} {XC : String → State → State → Prop} {mc ms : Nat} {free : Addr → Prop} {bytes : ByteArray} {maxL : Nat} {ret : Option FieldType} {hh : List (Nat × Nat × Nat × Nat)}
    (hM : vx_Met l y ws rm Pc Qc XC mc ms free) (hblind : FrameBlind Pc) (hrc : rm.cells = mc) (hrs : rm.slots = ms)
    (hframes : rm.frames + 1 ≤ R.frames) (hlocals : W9 + (maxL + 11) + rm.locals ≤ R.locals)
    (hws : ∀ w ∈ ws, ∀ a' U, s.WarmedH U.vm → w.before a' U = true) (hcode : Cond.codeWith y bytes maxL ret hh ∈ ws) (hinit : ∀ a' U, s.WarmedH U.vm → (Cond.initialized y.cls).before a' U = true) :
    vx_Back l R p e below s sargs y len W9 (PreOf R mc ms Pc) (PostOf Qc mc ms free) (vx_Post XC mc ms free) := by
  intro m meth c A g ig mk a X hg hsize hdg hW hn hp
  have h1 : (headSpec ws rm).pre.before a A.U = true := atoms_intro fun w hw => hws w hw _ _ X.warmed
  have h2 : (Cond.codeWith y bytes maxL ret hh).before a A.U = true := hws _ hcode _ _ X.warmed
  have h3 : (Cond.initialized y.cls).before a A.U = true := hinit _ _ X.warmed
  have h4 : A.cells + (headSpec ws rm).room.cells ≤ R.cells := by rw [show (headSpec ws rm).room.cells = mc from hrc]; exact hp.1
  have h5 : A.slots + (headSpec ws rm).room.slots ≤ R.slots := by rw [show (headSpec ws rm).room.slots = ms from hrs]; exact hp.2.1
  have hPc : Pc a (A.U.calling g mk a) := hblind _ _ _ _ hp.2.2
  obtain ⟨U, Ls, c0, s0⟩ := A
  dsimp only [Pt.U, Pt.locs, Pt.cells, Pt.slots] at h1 h2 h3 h4 h5 X hn hPc ⊢
  obtain ⟨m9, methY, cY, hn9, hmY, hcY, -, hlY, -⟩ := Cond.codeWith_spec h2
  cases Option.some.inj (hn9.symm.trans hn)
  obtain ⟨kY, hkY, -⟩ := className_of_methodNamed hn
  have hinitY : kY.init = .initialized := Cond.initialized_spec (findClass_of_methodNamed hn) hkY h3
  have h : At U g.method c below := by rw [hg]; exact X.here
  have hlocals9 : W9 + (maxL + 11) + (headSpec ws rm).room.locals ≤ R.locals := hlocals
  have happ : (headSpec ws rm).appliesLoose y e.platform (U.calling g mk a) = true :=
    Spec.appliesLoose_calling (g := g) h hdg hn hkY hinitY
      (X.room_calling (g := g) (R' := (headSpec ws rm).room) hsize hmY hcY hframes (by rw [hlY]; omega) h4 h5) h1
  obtain ⟨mid, hmid⟩ := h.above
  have hfr : (U.setTop g).frames = (.java g :: mid) ++ below := by rw [State.frames_setTop' g h.top, hmid]; rfl
  obtain ⟨o, s₂, hsteps, -, hend, hq⟩ := Steps.callFree hM p X.admits X.cas X.clock (acts := []) hfr happ hPc trivial
  have hq' : vx_Q Qc XC mc ms free a (U.calling g mk a) o s₂ := hq
  rw [State.frames_setTop' g h.top] at hend
  obtain ⟨g₀, hg0⟩ := Option.isSome_iff_exists.mp h.top
  obtain ⟨r, hr⟩ := State.topJava?_eq_some.mp hg0
  have hr' : (({ U with heap := s₂.heap, slotsUsed := s₂.slotsUsed } : State).setVm s₂.vm).frames = .java g₀ :: r := hr
  rcases hq' with ⟨hqc, L, hfe, hL⟩ | ⟨q, rfl, E, ce, L, hx, hce, hcv, hcl, hW₂, hsm, hL⟩
  · obtain ⟨⟨v, rfl⟩, hW₂, e2, q2, q3, q4, q5, q6⟩ := id hfe
    have e3 : s₂ = ({ (U.calling g mk a).setFrames s₂.frames with heap := s₂.heap, slotsUsed := s₂.slotsUsed } : State).setVm s₂.vm := by
      have : s₂ = ({ s₂ with vm := (U.calling g mk a).vm } : State).setVm s₂.vm := rfl
      rw [e2] at this
      exact this
    obtain ⟨c₂, i₂, len₂, hc₂, hd₂, hf₂⟩ := hend
    have hW' : U.WarmedH s₂.vm := hW₂
    have hcc : c₂ = c := by
      have h1 : s₂.code? g.method = U.code? g.method := by
        rw [State.code?_eq, State.code?_eq, hW'.alike.method?]
      exact Option.some.inj (hc₂.symm.trans (h1.trans h.code))
    subst hcc
    have hlen : len₂ = len := by rw [hdg] at hd₂; cases hd₂; rfl
    subst hlen
    have hs₂ : s₂ = (({ U with heap := s₂.heap, slotsUsed := s₂.slotsUsed } : State).setVm s₂.vm).setTop { g with pc := g.pc + len₂, stack := v.toList ++ g.stack } := by
      refine e3.trans ?_
      rw [hf₂, State.calling_eq h.top, State.setFrames_setFrames, State.setTop_of_frames _ hr', hr]
      rfl
    have hsame : U.sameButNew ({ U with heap := s₂.heap, slotsUsed := s₂.slotsUsed } : State) L mc ms := by
      refine ⟨?_, q2, q3, q4, q5, q6⟩
      obtain ⟨t, ht, -⟩ := State.frames_cons hr
      show ({ U with heap := s₂.heap, slotsUsed := s₂.slotsUsed } : State) = { U.setFrames U.frames with heap := s₂.heap, slotsUsed := s₂.slotsUsed }
      rw [State.setFrames_self ht]
    subst hg
    refine Or.inl ⟨v, ⟨(({ U with heap := s₂.heap, slotsUsed := s₂.slotsUsed } : State).setVm s₂.vm), Ls ++ L, c0 + mc, s0 + ms⟩,
      ⟨X.admits, X.cas, X.clock, X.frames, X.room, X.hears, X.method, X.code, (X.here.setHeapUsed s₂.heap s₂.slotsUsed).setVm hW'.alike, X.tail, State.WarmedH.trans X.warmed hW', X.limits, X.bytes, X.same.trans (hsame.setVm s.vm)⟩,
      ⟨g, mk, s₂, L, rfl, rfl, hqc, rfl, hL, rfl, rfl⟩, ?_⟩
    show Steps p.tables e below _ ((({ U with heap := s₂.heap, slotsUsed := s₂.slotsUsed } : State).setVm s₂.vm).setTop { g with pc := g.pc + len₂, stack := v.toList ++ g.stack })
    rw [← hs₂]
    exact hsteps
  · obtain ⟨e2, q2, q3, q4, q5, q6⟩ := id hsm
    have e3 : s₂ = ({ (U.calling g mk a).setFrames s₂.frames with heap := s₂.heap, slotsUsed := s₂.slotsUsed } : State).setVm s₂.vm := by
      have : s₂ = ({ s₂ with vm := (U.calling g mk a).vm } : State).setVm s₂.vm := rfl
      rw [e2] at this
      exact this
    have hf₂ : s₂.frames = .throwing q :: .java g :: U.frames.tail := hend
    have hW' : U.WarmedH s₂.vm := hW₂
    have hs₂ : s₂ = ((({ U with heap := s₂.heap, slotsUsed := s₂.slotsUsed } : State).setVm s₂.vm).setTop g).pushFrame (.throwing q) := by
      refine e3.trans ?_
      rw [hf₂, State.calling_eq h.top, State.setFrames_setFrames, State.pushFrame, State.frames_setTop _ hr', State.setTop_of_frames _ hr', State.setFrames_setFrames, hr]
      rfl
    have hsame : U.sameButNew ({ U with heap := s₂.heap, slotsUsed := s₂.slotsUsed } : State) L mc ms := by
      refine ⟨?_, q2, q3, q4, q5, q6⟩
      obtain ⟨t, ht, -⟩ := State.frames_cons hr
      show ({ U with heap := s₂.heap, slotsUsed := s₂.slotsUsed } : State) = { U.setFrames U.frames with heap := s₂.heap, slotsUsed := s₂.slotsUsed }
      rw [State.setFrames_self ht]
    subst hg
    refine Or.inr ⟨q, ⟨(({ U with heap := s₂.heap, slotsUsed := s₂.slotsUsed } : State).setVm s₂.vm), Ls ++ L, c0 + mc, s0 + ms⟩,
      ⟨X.admits, X.cas, X.clock, X.frames, X.room, X.hears, X.method, X.code, (X.here.setHeapUsed s₂.heap s₂.slotsUsed).setVm hW'.alike, X.tail, State.WarmedH.trans X.warmed hW', X.limits, X.bytes, X.same.trans (hsame.setVm s.vm)⟩,
      ⟨g, mk, s₂, L, E, ce, rfl, rfl, hx, hce, hcv, hcl, rfl, hL, rfl, rfl⟩, ?_⟩
    show Steps p.tables e below _ (((({ U with heap := s₂.heap, slotsUsed := s₂.slotsUsed } : State).setVm s₂.vm).setTop g).pushFrame (.throwing q))
    rw [← hs₂]
    exact hsteps
end
variable {p : Program} {l : Launch} {e : Env} {R : Room} {s : State} {m : MethodId} {args : Array Value} {below : List Frame} {meth : Method} {c : Code} {T : State} {H : Heap} {locs : List Loc} {cells slots : Nat}
theorem vx_callVX (X : Stand p l e R s m args below meth c T locs cells slots) (hexec : p.tables.exec = Jvm.exec) {own C : String} {index : Nat} {y : MethodName} {bytes : ByteArray} {maxL : Nat} {ret : Option FieldType} {hh : List (Nat × Nat × Nat × Nat)}
    (hown : s.vm.findClass own = some m.cls) (hlink : (Cond.methodLink own index y).before args s = true) (hinst : (Cond.instanceMethod y).before args s = true) (hsel : (Cond.selects C y y).before args s = true)
    (hcode : (Cond.codeWith y bytes maxL ret hh).before args s = true) (hy : y.cls ≠ "java/lang/invoke/MethodHandle" ∧ y.cls ≠ "java/lang/invoke/VarHandle")
    {W9 : Nat} {Pre : Pt → Array Value → Prop} {Post : Pt → Array Value → Option Value → Pt → Prop} {PostX : Pt → Array Value → Addr → Pt → Prop} (hK : vx_Back l R p e below s args y 3 W9 Pre Post PostX)
    {b : Addr} {cellB : Cell} (hcell : T.heap[b]? = some cellB) (hobj : cellB.vm.isStatics = false) (hcls : s.vm.findClass C = some cellB.cls)
    {g : JFrame} (hg : g.method = m) (hsize : g.locals.size = c.maxLocals) {argsL rest : List Value} (hlen : ∀ sig, parseMethodDescriptor y.desc = some sig → argsL.length = sig.parameters.length)
    (hstack : g.stack = argsL.reverse ++ .ref b :: rest) (hW : 2 * g.monitorRoom + (rest.map fun v => v.category).sum ≤ W9) (hdg : decode c.code g.pc = .ok (.invokevirtual index, 3))
    (hpre : ∀ vm₁, s.WarmedH vm₁ → Pre ⟨T.setVm vm₁, locs, cells, slots⟩ (Value.ref b :: argsL).toArray) :
    (∃ (v : Option Value) (vm₁ : Vm) (B : Pt), s.WarmedH vm₁ ∧ Stand p l e R s m args below meth c B.U B.locs B.cells B.slots ∧ Post ⟨T.setVm vm₁, locs, cells, slots⟩ (Value.ref b :: argsL).toArray v B ∧
      ∀ target, Steps p.tables e below (B.U.setTop { g with pc := g.pc + 3, stack := v.toList ++ rest }) target → Steps p.tables e below (T.setTop g) target) ∨
    (∃ (q : Addr) (vm₁ : Vm) (B : Pt), s.WarmedH vm₁ ∧ Stand p l e R s m args below meth c B.U B.locs B.cells B.slots ∧ PostX ⟨T.setVm vm₁, locs, cells, slots⟩ (Value.ref b :: argsL).toArray q B ∧
      Steps p.tables e below (T.setTop g) ((B.U.setTop { g with stack := rest }).pushFrame (.throwing q))) := by
  obtain ⟨mk, methM, hnamed, hmethM, hstM, habM⟩ := Cond.instanceMethod_spec hinst
  obtain ⟨m8, methM', cM, hn8, hmethM', -, -, -, -, -, -, hsigM⟩ := Cond.codeWith_spec hcode
  cases Option.some.inj (hn8.symm.trans hnamed)
  cases hmethM.symm.trans hmethM'
  obtain ⟨c2, r2, m2, q1, q2, q3, q4, kP, hkP, hkPi⟩ := Cond.selects_spec hsel
  cases hcls.symm.trans q1
  cases (State.methodFound?_of_named hnamed hy).symm.trans q2
  cases hnamed.symm.trans q3
  have hselP : selectMethod e.platform s.vm cellB.cls mk = .method mk := by rw [Launch.admits_selectMethod X.admits]; exact q4
  obtain ⟨vm₁, X₁, hstep₁⟩ := X.invokevirtual hexec hown hlink hnamed hmethM hstM hkP hkPi hy (a := b) (cell := cellB) hcell
    (fun z h => by rw [h] at hobj; cases hobj) hselP hmethM habM hkP hkPi (g := g) hg (argsL := argsL) (rest := rest) (hlen _ hsigM) hstack hdg
  rcases hK m meth c ⟨T.setVm vm₁, locs, cells, slots⟩ { g with stack := rest } (.invokevirtual index) mk (Value.ref b :: argsL).toArray X₁ hg hsize hdg hW (X₁.named hnamed) (hpre vm₁ X₁.warmed) with ⟨v, B, X', hpost, hsteps⟩ | ⟨q, B, X', hpost, hsteps⟩
  · exact Or.inl ⟨v, vm₁, B, X₁.warmed, X', hpost, fun target h => hstep₁ _ fun acts => by rw [doInvoke_state]; exact hsteps.trans h⟩
  · exact Or.inr ⟨q, vm₁, B, X₁.warmed, X', hpost, hstep₁ _ fun acts => by rw [doInvoke_state]; exact hsteps⟩
theorem vx_callSX (X : Stand p l e R s m args below meth c T locs cells slots) (hexec : p.tables.exec = Jvm.exec) {own : String} {index : Nat} {y : MethodName} {bytes : ByteArray} {maxL : Nat} {ret : Option FieldType} {hh : List (Nat × Nat × Nat × Nat)}
    (hown : s.vm.findClass own = some m.cls) (hlink : (Cond.methodLink own index y).before args s = true) (hstat : (Cond.static y).before args s = true) (hinit : (Cond.initialized y.cls).before args s = true)
    (hcode : (Cond.codeWith y bytes maxL ret hh).before args s = true) (hy : y.cls ≠ "java/lang/invoke/MethodHandle" ∧ y.cls ≠ "java/lang/invoke/VarHandle")
    {W9 : Nat} {Pre : Pt → Array Value → Prop} {Post : Pt → Array Value → Option Value → Pt → Prop} {PostX : Pt → Array Value → Addr → Pt → Prop} (hK : vx_Back l R p e below s args y 3 W9 Pre Post PostX)
    {g : JFrame} (hg : g.method = m) (hsize : g.locals.size = c.maxLocals) {argsL rest : List Value} (hlen : ∀ sig, parseMethodDescriptor y.desc = some sig → argsL.length = sig.parameters.length)
    (hstack : g.stack = argsL.reverse ++ rest) (hW : 2 * g.monitorRoom + (rest.map fun v => v.category).sum ≤ W9) (hdg : decode c.code g.pc = .ok (.invokestatic index, 3))
    (hpre : ∀ vm₁, s.WarmedH vm₁ → Pre ⟨T.setVm vm₁, locs, cells, slots⟩ argsL.toArray) :
    (∃ (v : Option Value) (vm₁ : Vm) (B : Pt), s.WarmedH vm₁ ∧ Stand p l e R s m args below meth c B.U B.locs B.cells B.slots ∧ Post ⟨T.setVm vm₁, locs, cells, slots⟩ argsL.toArray v B ∧
      ∀ target, Steps p.tables e below (B.U.setTop { g with pc := g.pc + 3, stack := v.toList ++ rest }) target → Steps p.tables e below (T.setTop g) target) ∨
    (∃ (q : Addr) (vm₁ : Vm) (B : Pt), s.WarmedH vm₁ ∧ Stand p l e R s m args below meth c B.U B.locs B.cells B.slots ∧ PostX ⟨T.setVm vm₁, locs, cells, slots⟩ argsL.toArray q B ∧
      Steps p.tables e below (T.setTop g) ((B.U.setTop { g with stack := rest }).pushFrame (.throwing q))) := by
  obtain ⟨mk, methM, cM, hnamed, hmethM, -, -, -, -, -, -, hsigM⟩ := Cond.codeWith_spec hcode
  have hstatic : methM.isStatic = true := Cond.static_spec hnamed hmethM hstat
  obtain ⟨kP, hkP, -⟩ := className_of_methodNamed hnamed
  have hinitP : kP.init = .initialized := Cond.initialized_spec (findClass_of_methodNamed hnamed) hkP hinit
  obtain ⟨vm₁, X₁, hstep₁⟩ := X.invokestatic hexec hown hlink hnamed hmethM hstatic hkP hinitP hy (g := g) hg (argsL := argsL) (rest := rest) (hlen _ hsigM) hstack hdg
  rcases hK m meth c ⟨T.setVm vm₁, locs, cells, slots⟩ { g with stack := rest } (.invokestatic index) mk argsL.toArray X₁ hg hsize hdg hW (X₁.named hnamed) (hpre vm₁ X₁.warmed) with ⟨v, B, X', hpost, hsteps⟩ | ⟨q, B, X', hpost, hsteps⟩
  · exact Or.inl ⟨v, vm₁, B, X₁.warmed, X', hpost, fun target h => hstep₁ _ fun acts => by rw [doInvoke_state]; exact hsteps.trans h⟩
  · exact Or.inr ⟨q, vm₁, B, X₁.warmed, X', hpost, hstep₁ _ fun acts => by rw [doInvoke_state]; exact hsteps⟩
theorem vx_callVW (X : Stand p l e R s m args below meth c T locs cells slots) (hexec : p.tables.exec = Jvm.exec) {own C : String} {index : Nat} {y : MethodName} {bytes : ByteArray} {maxL : Nat} {ret : Option FieldType} {hh : List (Nat × Nat × Nat × Nat)}
    (hown : s.vm.findClass own = some m.cls) (hlink : (Cond.methodLink own index y).before args s = true) (hinst : (Cond.instanceMethod y).before args s = true) (hsel : (Cond.selects C y y).before args s = true)
    (hcode : (Cond.codeWith y bytes maxL ret hh).before args s = true) (hy : y.cls ≠ "java/lang/invoke/MethodHandle" ∧ y.cls ≠ "java/lang/invoke/VarHandle")
    {W9 : Nat} {Pre : Pt → Array Value → Prop} {Post : Pt → Array Value → Option Value → Pt → Prop} (hK : Back l R p e below s args y 3 W9 Pre Post)
    {b : Addr} {cellB : Cell} (hcell : T.heap[b]? = some cellB) (hobj : cellB.vm.isStatics = false) (hcls : s.vm.findClass C = some cellB.cls)
    {g : JFrame} (hg : g.method = m) (hsize : g.locals.size = c.maxLocals) {argsL rest : List Value} (hlen : ∀ sig, parseMethodDescriptor y.desc = some sig → argsL.length = sig.parameters.length)
    (hstack : g.stack = argsL.reverse ++ .ref b :: rest) (hW : 2 * g.monitorRoom + (rest.map fun v => v.category).sum ≤ W9) (hdg : decode c.code g.pc = .ok (.invokevirtual index, 3))
    (hpre : ∀ vm₁, s.WarmedH vm₁ → Pre ⟨T.setVm vm₁, locs, cells, slots⟩ (Value.ref b :: argsL).toArray) :
    ∃ (v : Option Value) (vm₁ : Vm) (B : Pt), s.WarmedH vm₁ ∧ Stand p l e R s m args below meth c B.U B.locs B.cells B.slots ∧ Post ⟨T.setVm vm₁, locs, cells, slots⟩ (Value.ref b :: argsL).toArray v B ∧
      ∀ target, Steps p.tables e below (B.U.setTop { g with pc := g.pc + 3, stack := v.toList ++ rest }) target → Steps p.tables e below (T.setTop g) target := by
  obtain ⟨mk, methM, hnamed, hmethM, hstM, habM⟩ := Cond.instanceMethod_spec hinst
  obtain ⟨m8, methM', cM, hn8, hmethM', -, -, -, -, -, -, hsigM⟩ := Cond.codeWith_spec hcode
  cases Option.some.inj (hn8.symm.trans hnamed)
  cases hmethM.symm.trans hmethM'
  obtain ⟨c2, r2, m2, q1, q2, q3, q4, kP, hkP, hkPi⟩ := Cond.selects_spec hsel
  cases hcls.symm.trans q1
  cases (State.methodFound?_of_named hnamed hy).symm.trans q2
  cases hnamed.symm.trans q3
  have hselP : selectMethod e.platform s.vm cellB.cls mk = .method mk := by rw [Launch.admits_selectMethod X.admits]; exact q4
  obtain ⟨vm₁, X₁, hstep₁⟩ := X.invokevirtual hexec hown hlink hnamed hmethM hstM hkP hkPi hy (a := b) (cell := cellB) hcell
    (fun z h => by rw [h] at hobj; cases hobj) hselP hmethM habM hkP hkPi (g := g) hg (argsL := argsL) (rest := rest) (hlen _ hsigM) hstack hdg
  obtain ⟨v, B, X', hpost, hsteps⟩ := hK m meth c ⟨T.setVm vm₁, locs, cells, slots⟩ { g with stack := rest } (.invokevirtual index) mk (Value.ref b :: argsL).toArray X₁ hg hsize hdg hW (X₁.named hnamed) (hpre vm₁ X₁.warmed)
  exact ⟨v, vm₁, B, X₁.warmed, X', hpost, fun target h => hstep₁ _ fun acts => by rw [doInvoke_state]; exact hsteps.trans h⟩
abbrev vx_CVW (R : Room) (s : State) (args : Array Value) (own C : String) (index : Nat) (y : MethodName) (bytes : ByteArray) (maxL : Nat) (ret : Option FieldType) (hh : List (Nat × Nat × Nat × Nat)) (ws : List Cond) (rm : Room) (mc ms n : Nat) : Prop :=
  (rm.cells = mc ∧ rm.slots = ms ∧ rm.frames + 1 ≤ R.frames ∧ 8 + (maxL + 11) + rm.locals ≤ R.locals ∧ (∀ w ∈ ws, ∀ (a' : Array Value) (U : State), s.WarmedH U.vm → w.before a' U = true) ∧ Cond.codeWith y bytes maxL ret hh ∈ ws) ∧
  (Cond.codeWith y bytes maxL ret hh).before args s = true ∧ (Cond.initialized y.cls).before args s = true ∧ (y.cls ≠ "java/lang/invoke/MethodHandle" ∧ y.cls ≠ "java/lang/invoke/VarHandle") ∧
  (∀ sig, parseMethodDescriptor y.desc = some sig → n = sig.parameters.length) ∧ (Cond.methodLink own index y).before args s = true ∧ (Cond.instanceMethod y).before args s = true ∧ (Cond.selects C y y).before args s = true
theorem vx_cwVW {own C : String} {index maxL mc ms : Nat} {y : MethodName} {bytes : ByteArray} {ret : Option FieldType} {hh : List (Nat × Nat × Nat × Nat)} {Ts ws ws' : List Cond} {rm : Room} (n : Nat) (ht : ∀ w ∈ Ts, w.before args s = true) (hT : GoodIn Ts (wsV own index C y ws)) (hw : ws = Cond.codeWith y bytes maxL ret hh :: ws') (hrc : rm.cells = mc) (hrs : rm.slots = ms)
    (hd : y.cls = C ∧ y.cls ≠ "java/lang/invoke/MethodHandle" ∧ y.cls ≠ "java/lang/invoke/VarHandle" ∧ (parseMethodDescriptor y.desc).map (fun d => d.parameters.length) = some n) (hR : rm.frames + 1 ≤ R.frames ∧ 8 + (maxL + 11) + rm.locals ≤ R.locals) :
    vx_CVW R s args own C index y bytes maxL ret hh ws rm mc ms n := by
  obtain ⟨hC, hd⟩ := hd
  subst hC
  have ok : ∀ w ∈ wsV own index y.cls y ws, w.before args s = true := fun w h => ht w (hT w h).1
  have hG : GoodIn Ts ws := fun w h => hT w (by unfold wsV; exact List.mem_append_right _ h)
  have hc : Cond.codeWith y bytes maxL ret hh ∈ ws := by rw [hw]; exact List.mem_cons_self
  refine ⟨⟨hrc, hrs, hR.1, hR.2, pay_in ht hG, hc⟩, ht _ (hG _ hc).1, ok _ (by simp [wsV]), ⟨hd.1, hd.2.1⟩, fun sig h => ?_, ok _ (by simp [wsV]), ok _ (by simp [wsV]), ok _ (by simp [wsV])⟩
  have h2 := hd.2.2
  rw [h] at h2
  exact (Option.some.inj h2).symm
theorem vx_runVW {y : MethodName} {bytes cc : ByteArray} {maxL nL mc ms n index : Nat} {ret : Option FieldType} {hh : List (Nat × Nat × Nat × Nat)} {ws : List Cond} {rm : Room} {Pc : Array Value → State → Prop} {Qc : Array Value → State → Outcome → State → Prop} {free : Addr → Prop} {Ts : List Cond} {own C : String} {b : Addr} {As rest : List Value} {g : JFrame}
    (S : CallFix p m c cc nL s args Ts own) (hM : Met l y ws rm Pc Qc mc ms free) (cw : vx_CVW R s args own C index y bytes maxL ret hh ws rm mc ms n) (hp : PreV s H C b Pc As)
    (hg : g.method = m) (hn : As.length = n) (hsize : g.locals.size = nL) (hstack : g.stack = As.reverse ++ .ref b :: rest) (hW : 2 * g.monitorRoom + (rest.map fun v => v.category).sum ≤ 8) (hdg : decode cc g.pc = .ok (.invokevirtual index, 3)) (hf : cells + mc ≤ R.cells ∧ slots + ms ≤ R.slots) :
    va_Run p l e R s m args below meth c H locs cells slots mc ms g rest (Qc (Value.ref b :: As).toArray) free := by
  obtain ⟨⟨hrc, hrs, hfr, hlo, hws, hcw⟩, hcode, hini, hy, hlen, hl, hin, hse⟩ := cw
  have hK : Back l R p e below s args y 3 8 (PreOf R mc ms Pc) (PostOf Qc mc ms free) := va_backW (hh := hh) (bytes := bytes) (maxL := maxL) (ret := ret) hM hp.1 hrc hrs hfr hlo hws hcw (fun a' U hW => word_at hW (Or.inl (by first | rfl | simp [Cond.onTables, Cond.keeps, Cond.steady])) hini)
  obtain ⟨hx, hb, hml, ho, -⟩ := S
  obtain ⟨-, ⟨cellB, hcB, hoB, hclB⟩, hPc⟩ := hp
  intro T hT X
  obtain ⟨v, vm₁, ⟨U', l2, c2, s2⟩, hW₁, X', ⟨g', mk, t, L, e1, e2, hq, h1, hL, h2, h3⟩, st⟩ := vx_callVW X hx (C := C) (hh := hh) (bytes := bytes) (maxL := maxL) (ret := ret) ho hl hin hse hcode hy hK (by rw [hT]; exact hcB) hoB hclB hg (hsize.trans hml.symm) (argsL := As) (rest := rest) (fun sig h => hn.trans (hlen sig h)) hstack hW (by rw [hb]; exact hdg)
    (fun vm₁ hW₁ => ⟨hf.1, hf.2, hPc (T.setVm vm₁) hT hW₁⟩)
  dsimp only [Pt.U, Pt.locs, Pt.cells, Pt.slots] at X' e1 e2 h1 h2 h3 st
  subst h1; subst h2; subst h3
  exact ⟨v, (T.setVm vm₁).calling g' mk (Value.ref b :: As).toArray, t, U', L, hT, X', hL, e1, e2, hq, st⟩
section
variable {y : MethodName} {bytes cc : ByteArray} {maxL nL mc ms n index : Nat} {ret : Option FieldType} {ws : List Cond} {rm : Room} {Pc : Array Value → State → Prop} {Qc : Array Value → State → Outcome → State → Prop} {XC : String → State → State → Prop} {free : Addr → Prop} {Ts : List Cond} {own C : String} {b : Addr} {As rest : List Value} {g : JFrame}
theorem vx_runVX {hh : List (Nat × Nat × Nat × Nat)} (S : CallFix p m c cc nL s args Ts own) (hM : vx_Met l y ws rm Pc Qc XC mc ms free) (cw : vx_CVW R s args own C index y bytes maxL ret hh ws rm mc ms n) (hp : PreV s H C b Pc As)
    (hg : g.method = m) (hn : As.length = n) (hsize : g.locals.size = nL) (hstack : g.stack = As.reverse ++ .ref b :: rest) (hW : 2 * g.monitorRoom + (rest.map fun v => v.category).sum ≤ 8) (hdg : decode cc g.pc = .ok (.invokevirtual index, 3)) (hf : cells + mc ≤ R.cells ∧ slots + ms ≤ R.slots) :
    vx_Run p l e R s m args below meth c H locs cells slots mc ms g rest (Qc (Value.ref b :: As).toArray) XC free := by
  obtain ⟨⟨hrc, hrs, hfr, hlo, hws, hcw⟩, hcode, hini, hy, hlen, hl, hin, hse⟩ := cw
  have hK : vx_Back l R p e below s args y 3 8 (PreOf R mc ms Pc) (PostOf Qc mc ms free) (vx_Post XC mc ms free) := vx_backW (hh := hh) (bytes := bytes) (maxL := maxL) (ret := ret) hM hp.1 hrc hrs hfr hlo hws hcw (fun a' U hW => word_at hW (Or.inl (by first | rfl | simp [Cond.onTables, Cond.keeps, Cond.steady])) hini)
  obtain ⟨hx, hb, hml, ho, -⟩ := S
  obtain ⟨-, ⟨cellB, hcB, hoB, hclB⟩, hPc⟩ := hp
  intro T hT X
  rcases vx_callVX X hx (C := C) (hh := hh) (bytes := bytes) (maxL := maxL) (ret := ret) ho hl hin hse hcode hy hK (by rw [hT]; exact hcB) hoB hclB hg (hsize.trans hml.symm) (argsL := As) (rest := rest) (fun sig h => hn.trans (hlen sig h)) hstack hW (by rw [hb]; exact hdg)
    (fun vm₁ hW₁ => ⟨hf.1, hf.2, hPc (T.setVm vm₁) hT hW₁⟩) with ⟨v, vm₁, ⟨U', l2, c2, s2⟩, hW₁, X', ⟨g', mk, t, L, e1, e2, hq, h1, hL, h2, h3⟩, st⟩ | ⟨q, vm₁, ⟨U', l2, c2, s2⟩, hW₁, X', ⟨g', mk, t, L, E, ce, e1, e2, hq, hce, hcv, hcl, h1, hL, h2, h3⟩, st⟩
  · dsimp only [Pt.U, Pt.locs, Pt.cells, Pt.slots] at X' e1 e2 h1 h2 h3 st
    subst h1; subst h2; subst h3
    exact Or.inl ⟨v, (T.setVm vm₁).calling g' mk (Value.ref b :: As).toArray, t, U', L, hT, X', hL, e1, e2, hq, st⟩
  · dsimp only [Pt.U, Pt.locs, Pt.cells, Pt.slots] at X' e1 e2 h1 h2 h3 st hcl
    subst h1; subst h2; subst h3
    exact Or.inr ⟨q, (T.setVm vm₁).calling g' mk (Value.ref b :: As).toArray, t, U', L, E, ce, hT, X', hL, e1, e2, hq, hce, hcv, vx_cls hW₁ hcl, st⟩
theorem vx_runSX {hh : List (Nat × Nat × Nat × Nat)} (S : CallFix p m c cc nL s args Ts own) (hM : vx_Met l y ws rm Pc Qc XC mc ms free) (cw : vx_CSW R s args own index y bytes maxL ret hh ws rm mc ms n) (hp : PreS s H Pc As)
    (hg : g.method = m) (hn : As.length = n) (hsize : g.locals.size = nL) (hstack : g.stack = As.reverse ++ rest) (hW : 2 * g.monitorRoom + (rest.map fun v => v.category).sum ≤ 8) (hdg : decode cc g.pc = .ok (.invokestatic index, 3)) (hf : cells + mc ≤ R.cells ∧ slots + ms ≤ R.slots) :
    vx_Run p l e R s m args below meth c H locs cells slots mc ms g rest (Qc As.toArray) XC free := by
  obtain ⟨⟨hrc, hrs, hfr, hlo, hws, hcw⟩, hcode, hini, hy, hlen, hl, hstt⟩ := cw
  have hK : vx_Back l R p e below s args y 3 8 (PreOf R mc ms Pc) (PostOf Qc mc ms free) (vx_Post XC mc ms free) := vx_backW (hh := hh) (bytes := bytes) (maxL := maxL) (ret := ret) hM hp.1 hrc hrs hfr hlo hws hcw (fun a' U hW => word_at hW (Or.inl (by first | rfl | simp [Cond.onTables, Cond.keeps, Cond.steady])) hini)
  obtain ⟨hx, hb, hml, ho, -⟩ := S
  intro T hT X
  rcases vx_callSX X hx (hh := hh) (bytes := bytes) (maxL := maxL) (ret := ret) ho hl hstt hini hcode hy hK hg (hsize.trans hml.symm) (argsL := As) (rest := rest) (fun sig h => hn.trans (hlen sig h)) hstack hW (by rw [hb]; exact hdg)
    (fun vm₁ hW₁ => ⟨hf.1, hf.2, hp.2 (T.setVm vm₁) hT hW₁⟩) with ⟨v, vm₁, ⟨U', l2, c2, s2⟩, hW₁, X', ⟨g', mk, t, L, e1, e2, hq, h1, hL, h2, h3⟩, st⟩ | ⟨q, vm₁, ⟨U', l2, c2, s2⟩, hW₁, X', ⟨g', mk, t, L, E, ce, e1, e2, hq, hce, hcv, hcl, h1, hL, h2, h3⟩, st⟩
  · dsimp only [Pt.U, Pt.locs, Pt.cells, Pt.slots] at X' e1 e2 h1 h2 h3 st
    subst h1; subst h2; subst h3
    exact Or.inl ⟨v, (T.setVm vm₁).calling g' mk As.toArray, t, U', L, hT, X', hL, e1, e2, hq, st⟩
  · dsimp only [Pt.U, Pt.locs, Pt.cells, Pt.slots] at X' e1 e2 h1 h2 h3 st hcl
    subst h1; subst h2; subst h3
    exact Or.inr ⟨q, (T.setVm vm₁).calling g' mk As.toArray, t, U', L, E, ce, hT, X', hL, e1, e2, hq, hce, hcv, vx_cls hW₁ hcl, st⟩
end
end VXH
theorem vx_ofWH {l : Launch} {y : MethodName} {ws ws' : List Cond} {rm : Room} {Pc : Array Value → State → Prop} {Qc : Array Value → State → Outcome → State → Prop} {XC : String → State → State → Prop} {mc ms : Nat} {free : Addr → Prop} {cc : ByteArray} {maxL : Nat} {ret : Option FieldType} {hh : List (Nat × Nat × Nat × Nat)}
    (hy : plainName y.cls = true) (hw : ws = Cond.codeWith y cc maxL ret hh :: ws')
    (body : ∀ p e s m args below meth c s₁, BodyLoose p l y (headSpec ws rm) cc maxL ret e s m args below meth c s₁ → c.maxLocals = maxL → Pc args s →
      W p l e (headSpec ws rm).room s m args below meth c s.heap [] 0 0 (vx_MQ below Qc XC args s mc ms free) (entryFrame m args maxL)) : vx_Met l y ws rm Pc Qc XC mc ms free := by
  refine MetFree.of_bodyS (code := cc) (maxLocals := maxL) (ret := ret) hy ?_ ?_
  · intro args s m h hn
    obtain ⟨m9, meth, c, hn9, h1, h2, h3, h4, -, h5, h6, -⟩ := Cond.codeWith_spec (atoms_spec (ws := ws) h _ (by rw [hw]; exact List.mem_cons_self))
    cases hn.symm.trans hn9
    exact ⟨meth, c, h1, h2, h3, h4, h5, h6⟩
  · intro p e s m args below meth c s₁ B hml hP _
    have hh0 : s₁.heap = s.heap := by rw [B.state]; rfl
    obtain ⟨t, a1, o, b1, b2, b3⟩ := body p e s m args below meth c s₁ B hml hP s₁ hh0 (Stand.of_body B)
    exact ⟨t, o, a1, b1, b2, b3⟩
/-! ===== END ===== -/

def RX0 : String := "Checkdesk$Inside"
def TX0 : u_T := fun k => match k with
  | _ => ("", "", "", false)
def tyX0 : Nat → FieldType := fun k => match k with
  | _ => .int
abbrev wsX00 : List Cond := u_ws RX0 TX0 0
theorem nmX0 : ∀ a, a < 0 → ∀ b, b < 0 → a ≠ b → (TX0 a).2.1 ≠ (TX0 b).2.1 := by decide +kernel
theorem tyX0_ok : ∀ k, k < 0 → parseFieldDescriptor (TX0 k).2.2.1 = some (tyX0 k) := by decide +kernel
abbrev cX0_far : ByteArray := prog_2_method_2_code
def yX0_far : MethodName := ⟨RX0, "far", "(I)J"⟩
abbrev cX0_holdsPlace : ByteArray := prog_2_method_3_code
def yX0_holdsPlace : MethodName := ⟨RX0, "holdsPlace", "(JJ)Z"⟩
abbrev cX0_holdsSpan : ByteArray := prog_2_method_4_code
def yX0_holdsSpan : MethodName := ⟨RX0, "holdsSpan", "(JJJ)Z"⟩
abbrev cX0_holdsStretch : ByteArray := prog_2_method_5_code
def yX0_holdsStretch : MethodName := ⟨RX0, "holdsStretch", "(JJJ)Z"⟩
abbrev cX0_countPlaces : ByteArray := prog_2_method_6_code
def yX0_countPlaces : MethodName := ⟨RX0, "countPlaces", "(I)I"⟩
abbrev cX0_countSpans : ByteArray := prog_2_method_7_code
def yX0_countSpans : MethodName := ⟨RX0, "countSpans", "(I)I"⟩
abbrev cX0_countStretches : ByteArray := prog_2_method_8_code
def yX0_countStretches : MethodName := ⟨RX0, "countStretches", "(I)I"⟩
def RX1 : String := "Checkdesk$Soundness"
def TX1 : u_T := fun k => match k with
  | _ => ("", "", "", false)
def tyX1 : Nat → FieldType := fun k => match k with
  | _ => .int
abbrev wsX10 : List Cond := u_ws RX1 TX1 0
theorem nmX1 : ∀ a, a < 0 → ∀ b, b < 0 → a ≠ b → (TX1 a).2.1 ≠ (TX1 b).2.1 := by decide +kernel
theorem tyX1_ok : ∀ k, k < 0 → parseFieldDescriptor (TX1 k).2.2.1 = some (tyX1 k) := by decide +kernel
abbrev cX1_holds : ByteArray := prog_3_method_2_code
def yX1_holds : MethodName := ⟨RX1, "holds", "(LCheckdesk$Texts;)Z"⟩
abbrev cX1_isSoundAlone : ByteArray := prog_3_method_3_code
def yX1_isSoundAlone : MethodName := ⟨RX1, "isSoundAlone", "(LCheckdesk$Texts;I)Z"⟩
abbrev cX1_isSoundPlace : ByteArray := prog_3_method_4_code
def yX1_isSoundPlace : MethodName := ⟨RX1, "isSoundPlace", "(II)Z"⟩
abbrev cX1_isSoundSpan : ByteArray := prog_3_method_5_code
def yX1_isSoundSpan : MethodName := ⟨RX1, "isSoundSpan", "(LCheckdesk$Texts;III)Z"⟩
abbrev cX1_isBehindItsBeginnings : ByteArray := prog_3_method_6_code
def yX1_isBehindItsBeginnings : MethodName := ⟨RX1, "isBehindItsBeginnings", "(LCheckdesk$Texts;I)Z"⟩
abbrev cX1_isSoundPair : ByteArray := prog_3_method_7_code
def yX1_isSoundPair : MethodName := ⟨RX1, "isSoundPair", "(LCheckdesk$Texts;II)Z"⟩
abbrev cX1_isSoundPairThere : ByteArray := prog_3_method_8_code
def yX1_isSoundPairThere : MethodName := ⟨RX1, "isSoundPairThere", "(LCheckdesk$Texts;II)Z"⟩
abbrev cX1_areChainsSound : ByteArray := prog_3_method_9_code
def yX1_areChainsSound : MethodName := ⟨RX1, "areChainsSound", "(LCheckdesk$Texts;)Z"⟩
abbrev cX1_isThereAhead : ByteArray := prog_3_method_10_code
def yX1_isThereAhead : MethodName := ⟨RX1, "isThereAhead", "(LCheckdesk$Texts;II)Z"⟩
def RX2 : String := "Checkdesk$Texts"
def TX2 : u_T := fun k => match k with
  | 0 => ("Checkdesk$Texts", "sizes", "[I", true)
  | 1 => ("Checkdesk$Texts", "signs", "[I", true)
  | _ => ("Checkdesk$Texts", "laid", "[I", true)
def tyX2 : Nat → FieldType := fun k => match k with
  | 0 => .array .int
  | 1 => .array .int
  | _ => .array .int
abbrev wsX20 : List Cond := u_ws RX2 TX2 3
theorem nmX2 : ∀ a, a < 3 → ∀ b, b < 3 → a ≠ b → (TX2 a).2.1 ≠ (TX2 b).2.1 := by decide +kernel
theorem tyX2_ok : ∀ k, k < 3 → parseFieldDescriptor (TX2 k).2.2.1 = some (tyX2 k) := by decide +kernel
abbrev cX2_init : ByteArray := prog_4_method_1_code
def yX2_init : MethodName := ⟨RX2, "<init>", "()V"⟩
abbrev cX2_isAway : ByteArray := prog_4_method_2_code
def yX2_isAway : MethodName := ⟨RX2, "isAway", "(I)Z"⟩
abbrev cX2_size : ByteArray := prog_4_method_3_code
def yX2_size : MethodName := ⟨RX2, "size", "(I)I"⟩
abbrev cX2_sign : ByteArray := prog_4_method_4_code
def yX2_sign : MethodName := ⟨RX2, "sign", "(II)I"⟩
abbrev cX2_change : ByteArray := prog_4_method_5_code
def yX2_change : MethodName := ⟨RX2, "change", "(III)V"⟩
abbrev cX2_clear : ByteArray := prog_4_method_6_code
def yX2_clear : MethodName := ⟨RX2, "clear", "(I)V"⟩
abbrev cX2_remove : ByteArray := prog_4_method_7_code
def yX2_remove : MethodName := ⟨RX2, "remove", "(I)V"⟩
abbrev cX2_add : ByteArray := prog_4_method_8_code
def yX2_add : MethodName := ⟨RX2, "add", "(II)V"⟩
abbrev cX2_become : ByteArray := prog_4_method_9_code
def yX2_become : MethodName := ⟨RX2, "become", "(II)V"⟩
abbrev cX2_keep : ByteArray := prog_4_method_10_code
def yX2_keep : MethodName := ⟨RX2, "keep", "(III)I"⟩
abbrev cX2_lay : ByteArray := prog_4_method_11_code
def yX2_lay : MethodName := ⟨RX2, "lay", "(III)I"⟩
abbrev cX2_spell : ByteArray := prog_4_method_12_code
def yX2_spell : MethodName := ⟨RX2, "spell", "(III)Ljava/lang/String;"⟩
abbrev cX2_spellAll : ByteArray := prog_4_method_13_code
def yX2_spellAll : MethodName := ⟨RX2, "spellAll", "(I)Ljava/lang/String;"⟩
abbrev cX2_compared : ByteArray := prog_4_method_14_code
def yX2_compared : MethodName := ⟨RX2, "compared", "(II)I"⟩
abbrev cX2_comparedFrom : ByteArray := prog_4_method_15_code
def yX2_comparedFrom : MethodName := ⟨RX2, "comparedFrom", "(IIIII)I"⟩
abbrev cX2_ordered : ByteArray := prog_4_method_16_code
def yX2_ordered : MethodName := ⟨RX2, "ordered", "(III)I"⟩
abbrev cX2_haveSameSigns : ByteArray := prog_4_method_17_code
def yX2_haveSameSigns : MethodName := ⟨RX2, "haveSameSigns", "(II)Z"⟩
abbrev cX2_codeOf : ByteArray := prog_4_method_18_code
def yX2_codeOf : MethodName := ⟨RX2, "codeOf", "(I)I"⟩
abbrev cX2_codeOfThree : ByteArray := prog_4_method_19_code
def yX2_codeOfThree : MethodName := ⟨RX2, "codeOfThree", "(III)I"⟩
abbrev cX2_countOf : ByteArray := prog_4_method_20_code
def yX2_countOf : MethodName := ⟨RX2, "countOf", "(II)I"⟩
abbrev cX2_countSigns : ByteArray := prog_4_method_21_code
def yX2_countSigns : MethodName := ⟨RX2, "countSigns", "()I"⟩
abbrev cX2_countAway : ByteArray := prog_4_method_22_code
def yX2_countAway : MethodName := ⟨RX2, "countAway", "()I"⟩
abbrev cX2_smaller : ByteArray := prog_4_method_23_code
def yX2_smaller : MethodName := ⟨RX2, "smaller", "(II)I"⟩
def RX3 : String := "Checkdesk"
def TX3 : u_T := fun k => match k with
  | 0 => ("Checkdesk", "texts", "LCheckdesk$Texts;", true)
  | 1 => ("Checkdesk", "refusals", "I", false)
  | 2 => ("Checkdesk", "askedOrders", "I", false)
  | 3 => ("Checkdesk", "givings", "I", false)
  | _ => ("Checkdesk", "knocks", "I", false)
def tyX3 : Nat → FieldType := fun k => match k with
  | 0 => .object "Checkdesk$Texts"
  | 1 => .int
  | 2 => .int
  | 3 => .int
  | _ => .int
abbrev wsX30 : List Cond := u_ws RX3 TX3 5
theorem nmX3 : ∀ a, a < 5 → ∀ b, b < 5 → a ≠ b → (TX3 a).2.1 ≠ (TX3 b).2.1 := by decide +kernel
theorem tyX3_ok : ∀ k, k < 5 → parseFieldDescriptor (TX3 k).2.2.1 = some (tyX3 k) := by decide +kernel
abbrev cX3_init : ByteArray := prog_1_method_1_code
def yX3_init : MethodName := ⟨RX3, "<init>", "()V"⟩
abbrev cX3_write : ByteArray := prog_1_method_2_code
def yX3_write : MethodName := ⟨RX3, "write", "(IIII)I"⟩
abbrev cX3_fill : ByteArray := prog_1_method_3_code
def yX3_fill : MethodName := ⟨RX3, "fill", "(III)I"⟩
abbrev cX3_cut : ByteArray := prog_1_method_4_code
def yX3_cut : MethodName := ⟨RX3, "cut", "(III)I"⟩
abbrev cX3_take : ByteArray := prog_1_method_5_code
def yX3_take : MethodName := ⟨RX3, "take", "(III)I"⟩
abbrev cX3_put : ByteArray := prog_1_method_6_code
def yX3_put : MethodName := ⟨RX3, "put", "(III)I"⟩
abbrev cX3_copy : ByteArray := prog_1_method_7_code
def yX3_copy : MethodName := ⟨RX3, "copy", "(II)I"⟩
abbrev cX3_leave : ByteArray := prog_1_method_8_code
def yX3_leave : MethodName := ⟨RX3, "leave", "(I)I"⟩
abbrev cX3_place : ByteArray := prog_1_method_9_code
def yX3_place : MethodName := ⟨RX3, "place", "(II)I"⟩
abbrev cX3_span : ByteArray := prog_1_method_10_code
def yX3_span : MethodName := ⟨RX3, "span", "(III)I"⟩
abbrev cX3_stretch : ByteArray := prog_1_method_11_code
def yX3_stretch : MethodName := ⟨RX3, "stretch", "(III)I"⟩
abbrev cX3_isFarPlace : ByteArray := prog_1_method_12_code
def yX3_isFarPlace : MethodName := ⟨RX3, "isFarPlace", "(II)Z"⟩
abbrev cX3_isFarSpan : ByteArray := prog_1_method_13_code
def yX3_isFarSpan : MethodName := ⟨RX3, "isFarSpan", "(III)Z"⟩
abbrev cX3_isFarStretch : ByteArray := prog_1_method_14_code
def yX3_isFarStretch : MethodName := ⟨RX3, "isFarStretch", "(III)Z"⟩
abbrev cX3_insides : ByteArray := prog_1_method_15_code
def yX3_insides : MethodName := ⟨RX3, "insides", "(II)I"⟩
abbrev cX3_text : ByteArray := prog_1_method_16_code
def yX3_text : MethodName := ⟨RX3, "text", "(I)Ljava/lang/String;"⟩
abbrev cX3_length : ByteArray := prog_1_method_17_code
def yX3_length : MethodName := ⟨RX3, "length", "(I)I"⟩
abbrev cX3_signAt : ByteArray := prog_1_method_18_code
def yX3_signAt : MethodName := ⟨RX3, "signAt", "(II)I"⟩
abbrev cX3_part : ByteArray := prog_1_method_19_code
def yX3_part : MethodName := ⟨RX3, "part", "(III)Ljava/lang/String;"⟩
abbrev cX3_isEmpty : ByteArray := prog_1_method_20_code
def yX3_isEmpty : MethodName := ⟨RX3, "isEmpty", "(I)Z"⟩
abbrev cX3_compare : ByteArray := prog_1_method_21_code
def yX3_compare : MethodName := ⟨RX3, "compare", "(II)I"⟩
abbrev cX3_compareParts : ByteArray := prog_1_method_22_code
def yX3_compareParts : MethodName := ⟨RX3, "compareParts", "(IIII)I"⟩
abbrev cX3_isLike : ByteArray := prog_1_method_23_code
def yX3_isLike : MethodName := ⟨RX3, "isLike", "(II)I"⟩
abbrev cX3_order : ByteArray := prog_1_method_24_code
def yX3_order : MethodName := ⟨RX3, "order", "(III)I"⟩
abbrev cX3_ahead : ByteArray := prog_1_method_25_code
def yX3_ahead : MethodName := ⟨RX3, "ahead", "(II)I"⟩
abbrev cX3_must : ByteArray := prog_1_method_26_code
def yX3_must : MethodName := ⟨RX3, "must", "(I)I"⟩
abbrev cX3_mustSaying : ByteArray := prog_1_method_27_code
def yX3_mustSaying : MethodName := ⟨RX3, "mustSaying", "(I)I"⟩
abbrev cX3_orElse : ByteArray := prog_1_method_28_code
def yX3_orElse : MethodName := ⟨RX3, "orElse", "(II)Ljava/lang/String;"⟩
abbrev cX3_orGiven : ByteArray := prog_1_method_29_code
def yX3_orGiven : MethodName := ⟨RX3, "orGiven", "(II)Ljava/lang/String;"⟩
abbrev cX3_isMissing : ByteArray := prog_1_method_30_code
def yX3_isMissing : MethodName := ⟨RX3, "isMissing", "(I)Z"⟩
abbrev cX3_isThere : ByteArray := prog_1_method_31_code
def yX3_isThere : MethodName := ⟨RX3, "isThere", "(I)Z"⟩
abbrev cX3_areSame : ByteArray := prog_1_method_32_code
def yX3_areSame : MethodName := ⟨RX3, "areSame", "(II)Z"⟩
abbrev cX3_code : ByteArray := prog_1_method_33_code
def yX3_code : MethodName := ⟨RX3, "code", "(I)I"⟩
abbrev cX3_codes : ByteArray := prog_1_method_34_code
def yX3_codes : MethodName := ⟨RX3, "codes", "(III)I"⟩
abbrev cX3_knock : ByteArray := prog_1_method_35_code
def yX3_knock : MethodName := ⟨RX3, "knock", "()I"⟩
abbrev cX3_house : ByteArray := prog_1_method_36_code
def yX3_house : MethodName := ⟨RX3, "house", "(I)I"⟩
abbrev cX3_isSound : ByteArray := prog_1_method_37_code
def yX3_isSound : MethodName := ⟨RX3, "isSound", "()Z"⟩
abbrev cX3_digest : ByteArray := prog_1_method_38_code
def yX3_digest : MethodName := ⟨RX3, "digest", "()J"⟩
abbrev cX3_refuse : ByteArray := prog_1_method_39_code
def yX3_refuse : MethodName := ⟨RX3, "refuse", "()I"⟩
abbrev cX3_refuseText : ByteArray := prog_1_method_40_code
def yX3_refuseText : MethodName := ⟨RX3, "refuseText", "()Ljava/lang/String;"⟩
abbrev cX3_askOrder : ByteArray := prog_1_method_41_code
def yX3_askOrder : MethodName := ⟨RX3, "askOrder", "(III)I"⟩
abbrev cX3_spellEither : ByteArray := prog_1_method_42_code
def yX3_spellEither : MethodName := ⟨RX3, "spellEither", "(II)Ljava/lang/String;"⟩
abbrev cX3_tell : ByteArray := prog_1_method_43_code
def yX3_tell : MethodName := ⟨RX3, "tell", "(I)I"⟩
abbrev cX3_wantSeat : ByteArray := prog_1_method_44_code
def yX3_wantSeat : MethodName := ⟨RX3, "wantSeat", "(I)V"⟩
abbrev cX3_wantPaper : ByteArray := prog_1_method_45_code
def yX3_wantPaper : MethodName := ⟨RX3, "wantPaper", "(I)V"⟩
abbrev cX3_wantSign : ByteArray := prog_1_method_46_code
def yX3_wantSign : MethodName := ⟨RX3, "wantSign", "(I)V"⟩
abbrev cX3_wantSignOrNone : ByteArray := prog_1_method_47_code
def yX3_wantSignOrNone : MethodName := ⟨RX3, "wantSignOrNone", "(I)V"⟩
abbrev cX3_wantUpTo : ByteArray := prog_1_method_48_code
def yX3_wantUpTo : MethodName := ⟨RX3, "wantUpTo", "(II)V"⟩
abbrev cX3_wantThere : ByteArray := prog_1_method_49_code
def yX3_wantThere : MethodName := ⟨RX3, "wantThere", "(I)V"⟩
abbrev cX3_wantRoom : ByteArray := prog_1_method_50_code
def yX3_wantRoom : MethodName := ⟨RX3, "wantRoom", "(II)V"⟩
def RX4 : String := "CheckdeskLaw$Out"
def TX4 : u_T := fun k => match k with
  | 0 => ("CheckdeskLaw$Out", "n", "J", false)
  | _ => ("CheckdeskLaw$Out", "s", "Ljava/lang/String;", false)
def tyX4 : Nat → FieldType := fun k => match k with
  | 0 => .long
  | _ => .object "java/lang/String"
abbrev wsX40 : List Cond := u_ws RX4 TX4 2
theorem nmX4 : ∀ a, a < 2 → ∀ b, b < 2 → a ≠ b → (TX4 a).2.1 ≠ (TX4 b).2.1 := by decide +kernel
theorem tyX4_ok : ∀ k, k < 2 → parseFieldDescriptor (TX4 k).2.2.1 = some (tyX4 k) := by decide +kernel
abbrev cX4_init : ByteArray := prog_6_method_1_code
def yX4_init : MethodName := ⟨RX4, "<init>", "()V"⟩
def RX5 : String := "CheckdeskModel"
def TX5 : u_T := fun k => match k with
  | 0 => ("CheckdeskModel", "thrown", "I", false)
  | 1 => ("CheckdeskModel", "rows", "[[I", true)
  | 2 => ("CheckdeskModel", "refused", "I", false)
  | 3 => ("CheckdeskModel", "asked", "I", false)
  | 4 => ("CheckdeskModel", "given", "I", false)
  | _ => ("CheckdeskModel", "knocks", "I", false)
def tyX5 : Nat → FieldType := fun k => match k with
  | 0 => .int
  | 1 => .array (.array .int)
  | 2 => .int
  | 3 => .int
  | 4 => .int
  | _ => .int
abbrev wsX50 : List Cond := u_ws RX5 TX5 6
theorem nmX5 : ∀ a, a < 6 → ∀ b, b < 6 → a ≠ b → (TX5 a).2.1 ≠ (TX5 b).2.1 := by decide +kernel
theorem tyX5_ok : ∀ k, k < 6 → parseFieldDescriptor (TX5 k).2.2.1 = some (tyX5 k) := by decide +kernel
abbrev cX5_isIn : ByteArray := prog_7_method_1_code
def yX5_isIn : MethodName := ⟨RX5, "isIn", "(III)Z"⟩
abbrev cX5_one : ByteArray := prog_7_method_2_code
def yX5_one : MethodName := ⟨RX5, "one", "(Z)I"⟩
abbrev cX5_init : ByteArray := prog_7_method_3_code
def yX5_init : MethodName := ⟨RX5, "<init>", "()V"⟩
abbrev cX5_refuse : ByteArray := prog_7_method_5_code
def yX5_refuse : MethodName := ⟨RX5, "refuse", "(ZI)Z"⟩
abbrev cX5_start : ByteArray := prog_7_method_6_code
def yX5_start : MethodName := ⟨RX5, "start", "(ZI)Z"⟩
abbrev cX5_isNo : ByteArray := prog_7_method_7_code
def yX5_isNo : MethodName := ⟨RX5, "isNo", "(I)Z"⟩
abbrev cX5_isSign : ByteArray := prog_7_method_8_code
def yX5_isSign : MethodName := ⟨RX5, "isSign", "(I)Z"⟩
abbrev cX5_no : ByteArray := prog_7_method_9_code
def yX5_no : MethodName := ⟨RX5, "no", "()I"⟩
abbrev cX5_many : ByteArray := prog_7_method_10_code
def yX5_many : MethodName := ⟨RX5, "many", "(I)I"⟩
abbrev cX5_part : ByteArray := prog_7_method_11_code
def yX5_part : MethodName := ⟨RX5, "part", "([III)[I"⟩
abbrev cX5_with : ByteArray := prog_7_method_12_code
def yX5_with : MethodName := ⟨RX5, "with", "([II)[I"⟩
abbrev cX5_textOf : ByteArray := prog_7_method_13_code
def yX5_textOf : MethodName := ⟨RX5, "textOf", "([I)Ljava/lang/String;"⟩
abbrev cX5_codeOf : ByteArray := prog_7_method_14_code
def yX5_codeOf : MethodName := ⟨RX5, "codeOf", "([I)I"⟩
abbrev cX5_isSpan : ByteArray := prog_7_method_15_code
def yX5_isSpan : MethodName := ⟨RX5, "isSpan", "(JJJ)Z"⟩
abbrev cX5_isStretch : ByteArray := prog_7_method_16_code
def yX5_isStretch : MethodName := ⟨RX5, "isStretch", "(JJJ)Z"⟩
abbrev cX5_compared : ByteArray := prog_7_method_17_code
def yX5_compared : MethodName := ⟨RX5, "compared", "([I[I)I"⟩
abbrev cX5_smalls : ByteArray := prog_7_method_18_code
def yX5_smalls : MethodName := ⟨RX5, "smalls", "([I)I"⟩
abbrev cX5_before : ByteArray := prog_7_method_19_code
def yX5_before : MethodName := ⟨RX5, "before", "(II)I"⟩
abbrev cX5_ordered : ByteArray := prog_7_method_20_code
def yX5_ordered : MethodName := ⟨RX5, "ordered", "(III)I"⟩
abbrev cX5_isAsked : ByteArray := prog_7_method_21_code
def yX5_isAsked : MethodName := ⟨RX5, "isAsked", "(II)Z"⟩
abbrev cX5_write : ByteArray := prog_7_method_22_code
def yX5_write : MethodName := ⟨RX5, "write", "(IIII)I"⟩
abbrev cX5_fill : ByteArray := prog_7_method_23_code
def yX5_fill : MethodName := ⟨RX5, "fill", "(III)I"⟩
abbrev cX5_isNone : ByteArray := prog_7_method_24_code
def yX5_isNone : MethodName := ⟨RX5, "isNone", "(I)Z"⟩
abbrev cX5_cut : ByteArray := prog_7_method_25_code
def yX5_cut : MethodName := ⟨RX5, "cut", "(III)I"⟩
abbrev cX5_take : ByteArray := prog_7_method_26_code
def yX5_take : MethodName := ⟨RX5, "take", "(III)I"⟩
abbrev cX5_put : ByteArray := prog_7_method_27_code
def yX5_put : MethodName := ⟨RX5, "put", "(III)I"⟩
abbrev cX5_areNo : ByteArray := prog_7_method_28_code
def yX5_areNo : MethodName := ⟨RX5, "areNo", "(II)Z"⟩
abbrev cX5_copy : ByteArray := prog_7_method_29_code
def yX5_copy : MethodName := ⟨RX5, "copy", "(II)I"⟩
abbrev cX5_leave : ByteArray := prog_7_method_30_code
def yX5_leave : MethodName := ⟨RX5, "leave", "(I)I"⟩
abbrev cX5_told : ByteArray := prog_7_method_31_code
def yX5_told : MethodName := ⟨RX5, "told", "(ZI)I"⟩
abbrev cX5_place : ByteArray := prog_7_method_32_code
def yX5_place : MethodName := ⟨RX5, "place", "(II)I"⟩
abbrev cX5_span : ByteArray := prog_7_method_33_code
def yX5_span : MethodName := ⟨RX5, "span", "(III)I"⟩
abbrev cX5_stretch : ByteArray := prog_7_method_34_code
def yX5_stretch : MethodName := ⟨RX5, "stretch", "(III)I"⟩
abbrev cX5_is : ByteArray := prog_7_method_35_code
def yX5_is : MethodName := ⟨RX5, "is", "(Z)Z"⟩
abbrev cX5_isFarPlace : ByteArray := prog_7_method_36_code
def yX5_isFarPlace : MethodName := ⟨RX5, "isFarPlace", "(II)Z"⟩
abbrev cX5_isFarSpan : ByteArray := prog_7_method_37_code
def yX5_isFarSpan : MethodName := ⟨RX5, "isFarSpan", "(III)Z"⟩
abbrev cX5_isFarStretch : ByteArray := prog_7_method_38_code
def yX5_isFarStretch : MethodName := ⟨RX5, "isFarStretch", "(III)Z"⟩
abbrev cX5_insides : ByteArray := prog_7_method_39_code
def yX5_insides : MethodName := ⟨RX5, "insides", "(II)I"⟩
abbrev cX5_text : ByteArray := prog_7_method_40_code
def yX5_text : MethodName := ⟨RX5, "text", "(I)Ljava/lang/String;"⟩
abbrev cX5_length : ByteArray := prog_7_method_41_code
def yX5_length : MethodName := ⟨RX5, "length", "(I)I"⟩
abbrev cX5_signAt : ByteArray := prog_7_method_42_code
def yX5_signAt : MethodName := ⟨RX5, "signAt", "(II)I"⟩
abbrev cX5_noText : ByteArray := prog_7_method_43_code
def yX5_noText : MethodName := ⟨RX5, "noText", "()Ljava/lang/String;"⟩
abbrev cX5_part_ : ByteArray := prog_7_method_44_code
def yX5_part_ : MethodName := ⟨RX5, "part", "(III)Ljava/lang/String;"⟩
abbrev cX5_isEmpty : ByteArray := prog_7_method_45_code
def yX5_isEmpty : MethodName := ⟨RX5, "isEmpty", "(I)Z"⟩
abbrev cX5_compare : ByteArray := prog_7_method_46_code
def yX5_compare : MethodName := ⟨RX5, "compare", "(II)I"⟩
abbrev cX5_compareParts : ByteArray := prog_7_method_47_code
def yX5_compareParts : MethodName := ⟨RX5, "compareParts", "(IIII)I"⟩
abbrev cX5_isLike : ByteArray := prog_7_method_48_code
def yX5_isLike : MethodName := ⟨RX5, "isLike", "(II)I"⟩
abbrev cX5_order : ByteArray := prog_7_method_49_code
def yX5_order : MethodName := ⟨RX5, "order", "(III)I"⟩
abbrev cX5_ahead : ByteArray := prog_7_method_50_code
def yX5_ahead : MethodName := ⟨RX5, "ahead", "(II)I"⟩
abbrev cX5_must : ByteArray := prog_7_method_51_code
def yX5_must : MethodName := ⟨RX5, "must", "(I)I"⟩
abbrev cX5_mustSaying : ByteArray := prog_7_method_52_code
def yX5_mustSaying : MethodName := ⟨RX5, "mustSaying", "(I)I"⟩
abbrev cX5_either : ByteArray := prog_7_method_53_code
def yX5_either : MethodName := ⟨RX5, "either", "(II)Ljava/lang/String;"⟩
abbrev cX5_orElse : ByteArray := prog_7_method_54_code
def yX5_orElse : MethodName := ⟨RX5, "orElse", "(II)Ljava/lang/String;"⟩
abbrev cX5_orGiven : ByteArray := prog_7_method_55_code
def yX5_orGiven : MethodName := ⟨RX5, "orGiven", "(II)Ljava/lang/String;"⟩
abbrev cX5_isMissing : ByteArray := prog_7_method_56_code
def yX5_isMissing : MethodName := ⟨RX5, "isMissing", "(I)Z"⟩
abbrev cX5_isThere : ByteArray := prog_7_method_57_code
def yX5_isThere : MethodName := ⟨RX5, "isThere", "(I)Z"⟩
abbrev cX5_areLike : ByteArray := prog_7_method_58_code
def yX5_areLike : MethodName := ⟨RX5, "areLike", "(II)Z"⟩
abbrev cX5_areSame : ByteArray := prog_7_method_59_code
def yX5_areSame : MethodName := ⟨RX5, "areSame", "(II)Z"⟩
abbrev cX5_code : ByteArray := prog_7_method_60_code
def yX5_code : MethodName := ⟨RX5, "code", "(I)I"⟩
abbrev cX5_codesOf : ByteArray := prog_7_method_61_code
def yX5_codesOf : MethodName := ⟨RX5, "codesOf", "(III)I"⟩
abbrev cX5_codes : ByteArray := prog_7_method_62_code
def yX5_codes : MethodName := ⟨RX5, "codes", "(III)I"⟩
abbrev cX5_knock : ByteArray := prog_7_method_63_code
def yX5_knock : MethodName := ⟨RX5, "knock", "()I"⟩
abbrev cX5_houseTold : ByteArray := prog_7_method_64_code
def yX5_houseTold : MethodName := ⟨RX5, "houseTold", "(I)I"⟩
abbrev cX5_house : ByteArray := prog_7_method_65_code
def yX5_house : MethodName := ⟨RX5, "house", "(I)I"⟩
abbrev cX5_isWhole : ByteArray := prog_7_method_66_code
def yX5_isWhole : MethodName := ⟨RX5, "isWhole", "()Z"⟩
abbrev cX5_isSound : ByteArray := prog_7_method_67_code
def yX5_isSound : MethodName := ⟨RX5, "isSound", "()Z"⟩
abbrev cX5_add : ByteArray := prog_7_method_68_code
def yX5_add : MethodName := ⟨RX5, "add", "(JJ)J"⟩
abbrev cX5_digest : ByteArray := prog_7_method_69_code
def yX5_digest : MethodName := ⟨RX5, "digest", "()J"⟩
def RJ5 : String := "java/lang/AbstractStringBuilder"
def TJ5 : u_T := fun k => match k with
  | _ => ("", "", "", false)
def tyJ5 : Nat → FieldType := fun k => match k with
  | _ => .int
abbrev wsJ50 : List Cond := u_ws RJ5 TJ5 0
theorem nmJ5 : ∀ a, a < 0 → ∀ b, b < 0 → a ≠ b → (TJ5 a).2.1 ≠ (TJ5 b).2.1 := by decide +kernel
theorem tyJ5_ok : ∀ k, k < 0 → parseFieldDescriptor (TJ5 k).2.2.1 = some (tyJ5 k) := by decide +kernel
abbrev cJ5_init_d00df : ByteArray := prog_8_method_2_code
def yJ5_init_d00df : MethodName := ⟨RJ5, "<init>", "(I)V"⟩
abbrev cJ5_length_8abf5 : ByteArray := prog_8_method_6_code
def yJ5_length_8abf5 : MethodName := ⟨RJ5, "length", "()I"⟩
abbrev cJ5_ensureCapacityInternal_d00df : ByteArray := prog_8_method_9_code
def yJ5_ensureCapacityInternal_d00df : MethodName := ⟨RJ5, "ensureCapacityInternal", "(I)V"⟩
abbrev cJ5_newCapacity_0f7a4 : ByteArray := prog_8_method_10_code
def yJ5_newCapacity_0f7a4 : MethodName := ⟨RJ5, "newCapacity", "(I)I"⟩
abbrev cJ5_inflate_da8c8 : ByteArray := prog_8_method_11_code
def yJ5_inflate_da8c8 : MethodName := ⟨RJ5, "inflate", "()V"⟩
abbrev cJ5_append_cf1ce : ByteArray := prog_8_method_22_code
def yJ5_append_cf1ce : MethodName := ⟨RJ5, "append", "(Ljava/lang/String;)Ljava/lang/AbstractStringBuilder;"⟩
abbrev cJ5_appendNull_278bc : ByteArray := prog_8_method_26_code
def yJ5_appendNull_278bc : MethodName := ⟨RJ5, "appendNull", "()Ljava/lang/AbstractStringBuilder;"⟩
abbrev cJ5_append_3fe6f : ByteArray := prog_8_method_31_code
def yJ5_append_3fe6f : MethodName := ⟨RJ5, "append", "(C)Ljava/lang/AbstractStringBuilder;"⟩
abbrev cJ5_append_c97b9 : ByteArray := prog_8_method_32_code
def yJ5_append_c97b9 : MethodName := ⟨RJ5, "append", "(I)Ljava/lang/AbstractStringBuilder;"⟩
abbrev cJ5_getValue_6d5f1 : ByteArray := prog_8_method_64_code
def yJ5_getValue_6d5f1 : MethodName := ⟨RJ5, "getValue", "()[B"⟩
abbrev cJ5_isLatin1_aae02 : ByteArray := prog_8_method_68_code
def yJ5_isLatin1_aae02 : MethodName := ⟨RJ5, "isLatin1", "()Z"⟩
abbrev cJ5_inflateIfNeededFor_a7421 : ByteArray := prog_8_method_71_code
def yJ5_inflateIfNeededFor_a7421 : MethodName := ⟨RJ5, "inflateIfNeededFor", "(Ljava/lang/String;)V"⟩
abbrev cJ5_putStringAt_47b60 : ByteArray := prog_8_method_73_code
def yJ5_putStringAt_47b60 : MethodName := ⟨RJ5, "putStringAt", "(ILjava/lang/String;)V"⟩
def RJx8e188 : String := "java/lang/Cloneable"
def TJx8e188 : u_T := fun k => match k with
  | _ => ("", "", "", false)
def tyJx8e188 : Nat → FieldType := fun k => match k with
  | _ => .int
theorem nmJx8e188 : ∀ a, a < 0 → ∀ b, b < 0 → a ≠ b → (TJx8e188 a).2.1 ≠ (TJx8e188 b).2.1 := by decide +kernel
theorem tyJx8e188_ok : ∀ k, k < 0 → parseFieldDescriptor (TJx8e188 k).2.2.1 = some (tyJx8e188 k) := by decide +kernel
def RJ6 : String := "java/lang/Integer"
def TJ6 : u_T := fun k => match k with
  | _ => ("", "", "", false)
def tyJ6 : Nat → FieldType := fun k => match k with
  | _ => .int
abbrev wsJ60 : List Cond := u_ws RJ6 TJ6 0
theorem nmJ6 : ∀ a, a < 0 → ∀ b, b < 0 → a ≠ b → (TJ6 a).2.1 ≠ (TJ6 b).2.1 := by decide +kernel
theorem tyJ6_ok : ∀ k, k < 0 → parseFieldDescriptor (TJ6 k).2.2.1 = some (tyJ6 k) := by decide +kernel
abbrev cJ6_getChars_ba4f3 : ByteArray := prog_14_method_12_code
def yJ6_getChars_ba4f3 : MethodName := ⟨RJ6, "getChars", "(II[B)I"⟩
abbrev cJ6_stringSize_0f7a4 : ByteArray := prog_14_method_13_code
def yJ6_stringSize_0f7a4 : MethodName := ⟨RJ6, "stringSize", "(I)I"⟩
def RJ9 : String := "java/lang/Math"
def TJ9 : u_T := fun k => match k with
  | _ => ("", "", "", false)
def tyJ9 : Nat → FieldType := fun k => match k with
  | _ => .int
abbrev wsJ90 : List Cond := u_ws RJ9 TJ9 0
theorem nmJ9 : ∀ a, a < 0 → ∀ b, b < 0 → a ≠ b → (TJ9 a).2.1 ≠ (TJ9 b).2.1 := by decide +kernel
theorem tyJ9_ok : ∀ k, k < 0 → parseFieldDescriptor (TJ9 k).2.2.1 = some (tyJ9 k) := by decide +kernel
abbrev cJ9_max_7cf53 : ByteArray := prog_15_method_65_code
def yJ9_max_7cf53 : MethodName := ⟨RJ9, "max", "(II)I"⟩
abbrev cJ9_min_7cf53 : ByteArray := prog_15_method_69_code
def yJ9_min_7cf53 : MethodName := ⟨RJ9, "min", "(II)I"⟩
def RJ0 : String := "java/lang/String"
def TJ0 : u_T := fun k => match k with
  | 0 => ("java/lang/String", "value", "[B", true)
  | 1 => ("java/lang/String", "coder", "B", true)
  | 2 => ("java/lang/String", "hash", "I", false)
  | _ => ("java/lang/String", "hashIsZero", "Z", false)
def tyJ0 : Nat → FieldType := fun k => match k with
  | 0 => .array .byte
  | 1 => .byte
  | 2 => .int
  | _ => .boolean
abbrev wsJ00 : List Cond := u_ws RJ0 TJ0 4
theorem nmJ0 : ∀ a, a < 4 → ∀ b, b < 4 → a ≠ b → (TJ0 a).2.1 ≠ (TJ0 b).2.1 := by decide +kernel
theorem tyJ0_ok : ∀ k, k < 4 → parseFieldDescriptor (TJ0 k).2.2.1 = some (tyJ0 k) := by decide +kernel
abbrev cJ0_init_81219 : ByteArray := prog_17_method_53_code
def yJ0_init_81219 : MethodName := ⟨RJ0, "<init>", "(Ljava/lang/StringBuilder;)V"⟩
abbrev cJ0_length_8abf5 : ByteArray := prog_17_method_54_code
def yJ0_length_8abf5 : MethodName := ⟨RJ0, "length", "()I"⟩
abbrev cJ0_getBytes_840e7 : ByteArray := prog_17_method_147_code
def yJ0_getBytes_840e7 : MethodName := ⟨RJ0, "getBytes", "([BIB)V"⟩
abbrev cJ0_init_db425 : ByteArray := prog_17_method_150_code
def yJ0_init_db425 : MethodName := ⟨RJ0, "<init>", "(Ljava/lang/AbstractStringBuilder;Ljava/lang/Void;)V"⟩
abbrev cJ0_coder_7d493 : ByteArray := prog_17_method_152_code
def yJ0_coder_7d493 : MethodName := ⟨RJ0, "coder", "()B"⟩
abbrev cJ0_checkIndex_df160 : ByteArray := prog_17_method_155_code
def yJ0_checkIndex_df160 : MethodName := ⟨RJ0, "checkIndex", "(II)V"⟩
abbrev cJ0_checkBoundsOffCount_cabcc : ByteArray := prog_17_method_157_code
def yJ0_checkBoundsOffCount_cabcc : MethodName := ⟨RJ0, "checkBoundsOffCount", "(III)I"⟩
abbrev cJ0_checkBoundsBeginEnd_23922 : ByteArray := prog_17_method_158_code
def yJ0_checkBoundsBeginEnd_23922 : MethodName := ⟨RJ0, "checkBoundsBeginEnd", "(III)V"⟩
def RJ4 : String := "java/lang/StringBuilder"
def TJ4 : u_T := fun k => match k with
  | 0 => ("java/lang/AbstractStringBuilder", "value", "[B", false)
  | 1 => ("java/lang/AbstractStringBuilder", "coder", "B", false)
  | 2 => ("java/lang/AbstractStringBuilder", "maybeLatin1", "Z", false)
  | _ => ("java/lang/AbstractStringBuilder", "count", "I", false)
def tyJ4 : Nat → FieldType := fun k => match k with
  | 0 => .array .byte
  | 1 => .byte
  | 2 => .boolean
  | _ => .int
abbrev wsJ40 : List Cond := u_ws RJ4 TJ4 4
theorem nmJ4 : ∀ a, a < 4 → ∀ b, b < 4 → a ≠ b → (TJ4 a).2.1 ≠ (TJ4 b).2.1 := by decide +kernel
theorem tyJ4_ok : ∀ k, k < 4 → parseFieldDescriptor (TJ4 k).2.2.1 = some (tyJ4 k) := by decide +kernel
abbrev cJ4_init_da8c8 : ByteArray := prog_18_method_1_code
def yJ4_init_da8c8 : MethodName := ⟨RJ4, "<init>", "()V"⟩
abbrev cJ4_append_15ec4 : ByteArray := prog_18_method_7_code
def yJ4_append_15ec4 : MethodName := ⟨RJ4, "append", "(Ljava/lang/String;)Ljava/lang/StringBuilder;"⟩
abbrev cJ4_append_cf468 : ByteArray := prog_18_method_14_code
def yJ4_append_cf468 : MethodName := ⟨RJ4, "append", "(C)Ljava/lang/StringBuilder;"⟩
abbrev cJ4_append_bf812 : ByteArray := prog_18_method_15_code
def yJ4_append_bf812 : MethodName := ⟨RJ4, "append", "(I)Ljava/lang/StringBuilder;"⟩
abbrev cJ4_toString_0e30d : ByteArray := prog_18_method_42_code
def yJ4_toString_0e30d : MethodName := ⟨RJ4, "toString", "()Ljava/lang/String;"⟩
abbrev cJ4_length_8abf5 : ByteArray := prog_18_method_93_code
def yJ4_length_8abf5 : MethodName := ⟨RJ4, "length", "()I"⟩
def RJ1 : String := "java/lang/StringLatin1"
def TJ1 : u_T := fun k => match k with
  | _ => ("", "", "", false)
def tyJ1 : Nat → FieldType := fun k => match k with
  | _ => .int
abbrev wsJ10 : List Cond := u_ws RJ1 TJ1 0
theorem nmJ1 : ∀ a, a < 0 → ∀ b, b < 0 → a ≠ b → (TJ1 a).2.1 ≠ (TJ1 b).2.1 := by decide +kernel
theorem tyJ1_ok : ∀ k, k < 0 → parseFieldDescriptor (TJ1 k).2.2.1 = some (tyJ1 k) := by decide +kernel
abbrev cJ1_canEncode_fc78d : ByteArray := prog_19_method_3_code
def yJ1_canEncode_fc78d : MethodName := ⟨RJ1, "canEncode", "(C)Z"⟩
abbrev cJ1_inflate_0e8fd : ByteArray := prog_19_method_50_code
def yJ1_inflate_0e8fd : MethodName := ⟨RJ1, "inflate", "([BI[BII)V"⟩
def RJ2 : String := "java/lang/StringUTF16"
def TJ2 : u_T := fun k => match k with
  | _ => ("", "", "", false)
def tyJ2 : Nat → FieldType := fun k => match k with
  | _ => .int
abbrev wsJ20 : List Cond := u_ws RJ2 TJ2 0
theorem nmJ2 : ∀ a, a < 0 → ∀ b, b < 0 → a ≠ b → (TJ2 a).2.1 ≠ (TJ2 b).2.1 := by decide +kernel
theorem tyJ2_ok : ∀ k, k < 0 → parseFieldDescriptor (TJ2 k).2.2.1 = some (tyJ2 k) := by decide +kernel
abbrev cJ2_newBytesFor_77867 : ByteArray := prog_20_method_2_code
def yJ2_newBytesFor_77867 : MethodName := ⟨RJ2, "newBytesFor", "(I)[B"⟩
abbrev cJ2_newBytesLength_0f7a4 : ByteArray := prog_20_method_3_code
def yJ2_newBytesLength_0f7a4 : MethodName := ⟨RJ2, "newBytesLength", "(I)I"⟩
abbrev cJ2_putChar_b72d1 : ByteArray := prog_20_method_4_code
def yJ2_putChar_b72d1 : MethodName := ⟨RJ2, "putChar", "([BII)V"⟩
abbrev cJ2_getChar_3b067 : ByteArray := prog_20_method_5_code
def yJ2_getChar_3b067 : MethodName := ⟨RJ2, "getChar", "([BI)C"⟩
abbrev cJ2_length_9d52b : ByteArray := prog_20_method_6_code
def yJ2_length_9d52b : MethodName := ⟨RJ2, "length", "([B)I"⟩
abbrev cJ2_coderFromArrayLen_85cad : ByteArray := prog_20_method_15_code
def yJ2_coderFromArrayLen_85cad : MethodName := ⟨RJ2, "coderFromArrayLen", "([BI)B"⟩
abbrev cJ2_compress_39247 : ByteArray := prog_20_method_17_code
def yJ2_compress_39247 : MethodName := ⟨RJ2, "compress", "([BII)[B"⟩
abbrev cJ2_compress_5af95 : ByteArray := prog_20_method_22_code
def yJ2_compress_5af95 : MethodName := ⟨RJ2, "compress", "([BI[BII)I"⟩
abbrev cJ2_putCharSB_b72d1 : ByteArray := prog_20_method_71_code
def yJ2_putCharSB_b72d1 : MethodName := ⟨RJ2, "putCharSB", "([BII)V"⟩
abbrev cJ2_getChars_46870 : ByteArray := prog_20_method_77_code
def yJ2_getChars_46870 : MethodName := ⟨RJ2, "getChars", "(III[B)I"⟩
abbrev cJ2_putCharsAt_cd4e5 : ByteArray := prog_20_method_81_code
def yJ2_putCharsAt_cd4e5 : MethodName := ⟨RJ2, "putCharsAt", "([BICCCC)I"⟩
abbrev cJ2_inflate_0e8fd : ByteArray := prog_20_method_86_code
def yJ2_inflate_0e8fd : MethodName := ⟨RJ2, "inflate", "([BI[BII)V"⟩
abbrev cJ2_getChars_ba4f3 : ByteArray := prog_20_method_89_code
def yJ2_getChars_ba4f3 : MethodName := ⟨RJ2, "getChars", "(II[B)I"⟩
abbrev cJ2_checkIndex_2214a : ByteArray := prog_20_method_91_code
def yJ2_checkIndex_2214a : MethodName := ⟨RJ2, "checkIndex", "(I[B)V"⟩
abbrev cJ2_checkBoundsBeginEnd_d044e : ByteArray := prog_20_method_93_code
def yJ2_checkBoundsBeginEnd_d044e : MethodName := ⟨RJ2, "checkBoundsBeginEnd", "(II[B)V"⟩
abbrev cJ2_checkBoundsOffCount_d044e : ByteArray := prog_20_method_94_code
def yJ2_checkBoundsOffCount_d044e : MethodName := ⟨RJ2, "checkBoundsOffCount", "(II[B)V"⟩
def RJ10 : String := "java/lang/System"
def TJ10 : u_T := fun k => match k with
  | _ => ("", "", "", false)
def tyJ10 : Nat → FieldType := fun k => match k with
  | _ => .int
abbrev wsJ100 : List Cond := u_ws RJ10 TJ10 0
theorem nmJ10 : ∀ a, a < 0 → ∀ b, b < 0 → a ≠ b → (TJ10 a).2.1 ≠ (TJ10 b).2.1 := by decide +kernel
theorem tyJ10_ok : ∀ k, k < 0 → parseFieldDescriptor (TJ10 k).2.2.1 = some (tyJ10 k) := by decide +kernel
def RJ7 : String := "java/util/Arrays"
def TJ7 : u_T := fun k => match k with
  | _ => ("", "", "", false)
def tyJ7 : Nat → FieldType := fun k => match k with
  | _ => .int
abbrev wsJ70 : List Cond := u_ws RJ7 TJ7 0
theorem nmJ7 : ∀ a, a < 0 → ∀ b, b < 0 → a ≠ b → (TJ7 a).2.1 ≠ (TJ7 b).2.1 := by decide +kernel
theorem tyJ7_ok : ∀ k, k < 0 → parseFieldDescriptor (TJ7 k).2.2.1 = some (tyJ7 k) := by decide +kernel
abbrev cJ7_copyOf_9075b : ByteArray := prog_23_method_121_code
def yJ7_copyOf_9075b : MethodName := ⟨RJ7, "copyOf", "([BI)[B"⟩
abbrev cJ7_checkLength_df160 : ByteArray := prog_23_method_131_code
def yJ7_checkLength_df160 : MethodName := ⟨RJ7, "checkLength", "(II)V"⟩
abbrev cJ7_copyOfRange_39247 : ByteArray := prog_23_method_132_code
def yJ7_copyOfRange_39247 : MethodName := ⟨RJ7, "copyOfRange", "([BII)[B"⟩
abbrev cJ7_copyOfRangeByte_39247 : ByteArray := prog_23_method_133_code
def yJ7_copyOfRangeByte_39247 : MethodName := ⟨RJ7, "copyOfRangeByte", "([BII)[B"⟩
def RJ8 : String := "jdk/internal/util/ArraysSupport"
def TJ8 : u_T := fun k => match k with
  | _ => ("", "", "", false)
def tyJ8 : Nat → FieldType := fun k => match k with
  | _ => .int
abbrev wsJ80 : List Cond := u_ws RJ8 TJ8 0
theorem nmJ8 : ∀ a, a < 0 → ∀ b, b < 0 → a ≠ b → (TJ8 a).2.1 ≠ (TJ8 b).2.1 := by decide +kernel
theorem tyJ8_ok : ∀ k, k < 0 → parseFieldDescriptor (TJ8 k).2.2.1 = some (tyJ8 k) := by decide +kernel
abbrev cJ8_newLength_cabcc : ByteArray := prog_24_method_27_code
def yJ8_newLength_cabcc : MethodName := ⟨RJ8, "newLength", "(III)I"⟩
abbrev cJ8_hugeLength_7cf53 : ByteArray := prog_24_method_28_code
def yJ8_hugeLength_7cf53 : MethodName := ⟨RJ8, "hugeLength", "(II)I"⟩
def RJ3 : String := "jdk/internal/util/Preconditions"
def TJ3 : u_T := fun k => match k with
  | _ => ("", "", "", false)
def tyJ3 : Nat → FieldType := fun k => match k with
  | _ => .int
abbrev wsJ30 : List Cond := u_ws RJ3 TJ3 0
theorem nmJ3 : ∀ a, a < 0 → ∀ b, b < 0 → a ≠ b → (TJ3 a).2.1 ≠ (TJ3 b).2.1 := by decide +kernel
theorem tyJ3_ok : ∀ k, k < 0 → parseFieldDescriptor (TJ3 k).2.2.1 = some (tyJ3 k) := by decide +kernel
abbrev cJ3_checkIndex_8e157 : ByteArray := prog_25_method_11_code
def yJ3_checkIndex_8e157 : MethodName := ⟨RJ3, "checkIndex", "(IILjava/util/function/BiFunction;)I"⟩
abbrev cJ3_checkFromToIndex_8c36e : ByteArray := prog_25_method_12_code
def yJ3_checkFromToIndex_8c36e : MethodName := ⟨RJ3, "checkFromToIndex", "(IIILjava/util/function/BiFunction;)I"⟩
abbrev cJ3_checkFromIndexSize_8c36e : ByteArray := prog_25_method_13_code
def yJ3_checkFromIndexSize_8c36e : MethodName := ⟨RJ3, "checkFromIndexSize", "(IIILjava/util/function/BiFunction;)I"⟩
def RL : String := "CheckdeskLaw"
abbrev cL_write : ByteArray := method_2_code
def yL_write : MethodName := ⟨RL, "write", "(LCheckdesk;IIIILCheckdeskLaw$Out;)I"⟩
abbrev cL_fill : ByteArray := method_3_code
def yL_fill : MethodName := ⟨RL, "fill", "(LCheckdesk;IIILCheckdeskLaw$Out;)I"⟩
abbrev cL_cut : ByteArray := method_4_code
def yL_cut : MethodName := ⟨RL, "cut", "(LCheckdesk;IIILCheckdeskLaw$Out;)I"⟩
abbrev cL_take : ByteArray := method_5_code
def yL_take : MethodName := ⟨RL, "take", "(LCheckdesk;IIILCheckdeskLaw$Out;)I"⟩
abbrev cL_put : ByteArray := method_6_code
def yL_put : MethodName := ⟨RL, "put", "(LCheckdesk;IIILCheckdeskLaw$Out;)I"⟩
abbrev cL_copy : ByteArray := method_7_code
def yL_copy : MethodName := ⟨RL, "copy", "(LCheckdesk;IILCheckdeskLaw$Out;)I"⟩
abbrev cL_leave : ByteArray := method_8_code
def yL_leave : MethodName := ⟨RL, "leave", "(LCheckdesk;ILCheckdeskLaw$Out;)I"⟩
abbrev cL_insides : ByteArray := method_9_code
def yL_insides : MethodName := ⟨RL, "insides", "(LCheckdesk;IILCheckdeskLaw$Out;)I"⟩
abbrev cL_text : ByteArray := method_10_code
def yL_text : MethodName := ⟨RL, "text", "(LCheckdesk;ILCheckdeskLaw$Out;)I"⟩
abbrev cL_length : ByteArray := method_11_code
def yL_length : MethodName := ⟨RL, "length", "(LCheckdesk;ILCheckdeskLaw$Out;)I"⟩
abbrev cL_signAt : ByteArray := method_12_code
def yL_signAt : MethodName := ⟨RL, "signAt", "(LCheckdesk;IILCheckdeskLaw$Out;)I"⟩
abbrev cL_part : ByteArray := method_13_code
def yL_part : MethodName := ⟨RL, "part", "(LCheckdesk;IIILCheckdeskLaw$Out;)I"⟩
abbrev cL_isEmpty : ByteArray := method_14_code
def yL_isEmpty : MethodName := ⟨RL, "isEmpty", "(LCheckdesk;ILCheckdeskLaw$Out;)I"⟩
abbrev cL_compare : ByteArray := method_15_code
def yL_compare : MethodName := ⟨RL, "compare", "(LCheckdesk;IILCheckdeskLaw$Out;)I"⟩
abbrev cL_compareParts : ByteArray := method_16_code
def yL_compareParts : MethodName := ⟨RL, "compareParts", "(LCheckdesk;IIIILCheckdeskLaw$Out;)I"⟩
abbrev cL_isLike : ByteArray := method_17_code
def yL_isLike : MethodName := ⟨RL, "isLike", "(LCheckdesk;IILCheckdeskLaw$Out;)I"⟩
abbrev cL_order : ByteArray := method_18_code
def yL_order : MethodName := ⟨RL, "order", "(LCheckdesk;IIILCheckdeskLaw$Out;)I"⟩
abbrev cL_ahead : ByteArray := method_19_code
def yL_ahead : MethodName := ⟨RL, "ahead", "(LCheckdesk;IILCheckdeskLaw$Out;)I"⟩
abbrev cL_must : ByteArray := method_20_code
def yL_must : MethodName := ⟨RL, "must", "(LCheckdesk;ILCheckdeskLaw$Out;)I"⟩
abbrev cL_mustSaying : ByteArray := method_21_code
def yL_mustSaying : MethodName := ⟨RL, "mustSaying", "(LCheckdesk;ILCheckdeskLaw$Out;)I"⟩
abbrev cL_orElse : ByteArray := method_22_code
def yL_orElse : MethodName := ⟨RL, "orElse", "(LCheckdesk;IILCheckdeskLaw$Out;)I"⟩
abbrev cL_orGiven : ByteArray := method_23_code
def yL_orGiven : MethodName := ⟨RL, "orGiven", "(LCheckdesk;IILCheckdeskLaw$Out;)I"⟩
abbrev cL_isMissing : ByteArray := method_24_code
def yL_isMissing : MethodName := ⟨RL, "isMissing", "(LCheckdesk;ILCheckdeskLaw$Out;)I"⟩
abbrev cL_isThere : ByteArray := method_25_code
def yL_isThere : MethodName := ⟨RL, "isThere", "(LCheckdesk;ILCheckdeskLaw$Out;)I"⟩
abbrev cL_areSame : ByteArray := method_26_code
def yL_areSame : MethodName := ⟨RL, "areSame", "(LCheckdesk;IILCheckdeskLaw$Out;)I"⟩
abbrev cL_code : ByteArray := method_27_code
def yL_code : MethodName := ⟨RL, "code", "(LCheckdesk;ILCheckdeskLaw$Out;)I"⟩
abbrev cL_codes : ByteArray := method_28_code
def yL_codes : MethodName := ⟨RL, "codes", "(LCheckdesk;IIILCheckdeskLaw$Out;)I"⟩
abbrev cL_house : ByteArray := method_29_code
def yL_house : MethodName := ⟨RL, "house", "(LCheckdesk;ILCheckdeskLaw$Out;)I"⟩
abbrev cL_law : ByteArray := code
def yL_law : MethodName := ⟨RL, "law", "([I)Z"⟩
abbrev vwCl : List vw_C := [(RJ0, TJ0, 4), (RJ4, TJ4, 4), (RX2, TX2, 3), (RX3, TX3, 5), (RX4, TX4, 2), (RX5, TX5, 6)]
end
section
theorem dX0_far_0 : decode cX0_far 0 = .ok (.iload_n 0, 1) := by decide +kernel
theorem dX0_far_1 : decode cX0_far 1 = .ok (.i2l, 1) := by decide +kernel
theorem dX0_far_2 : decode cX0_far 2 = .ok (.ldc2_w 9, 3) := by decide +kernel
theorem dX0_far_5 : decode cX0_far 5 = .ok (.lmul, 1) := by decide +kernel
theorem dX0_far_6 : decode cX0_far 6 = .ok (.lreturn, 1) := by decide +kernel
theorem dX0_holdsPlace_0 : decode cX0_holdsPlace 0 = .ok (.lconst 0, 1) := by decide +kernel
theorem dX0_holdsPlace_1 : decode cX0_holdsPlace 1 = .ok (.lload_n 0, 1) := by decide +kernel
theorem dX0_holdsPlace_2 : decode cX0_holdsPlace 2 = .ok (.lcmp, 1) := by decide +kernel
theorem dX0_holdsPlace_3 : decode cX0_holdsPlace 3 = .ok (.ifCond .gt 13, 3) := by decide +kernel
theorem dX0_holdsPlace_6 : decode cX0_holdsPlace 6 = .ok (.lload_n 0, 1) := by decide +kernel
theorem dX0_holdsPlace_7 : decode cX0_holdsPlace 7 = .ok (.lload_n 2, 1) := by decide +kernel
theorem dX0_holdsPlace_8 : decode cX0_holdsPlace 8 = .ok (.lcmp, 1) := by decide +kernel
theorem dX0_holdsPlace_9 : decode cX0_holdsPlace 9 = .ok (.ifCond .ge 7, 3) := by decide +kernel
theorem dX0_holdsPlace_12 : decode cX0_holdsPlace 12 = .ok (.iconst 1, 1) := by decide +kernel
theorem dX0_holdsPlace_13 : decode cX0_holdsPlace 13 = .ok (.goto 4, 3) := by decide +kernel
theorem dX0_holdsPlace_16 : decode cX0_holdsPlace 16 = .ok (.iconst 0, 1) := by decide +kernel
theorem dX0_holdsPlace_17 : decode cX0_holdsPlace 17 = .ok (.ireturn, 1) := by decide +kernel
theorem dX0_holdsSpan_0 : decode cX0_holdsSpan 0 = .ok (.lconst 0, 1) := by decide +kernel
theorem dX0_holdsSpan_1 : decode cX0_holdsSpan 1 = .ok (.lload_n 0, 1) := by decide +kernel
theorem dX0_holdsSpan_2 : decode cX0_holdsSpan 2 = .ok (.lcmp, 1) := by decide +kernel
theorem dX0_holdsSpan_3 : decode cX0_holdsSpan 3 = .ok (.ifCond .gt 20, 3) := by decide +kernel
theorem dX0_holdsSpan_6 : decode cX0_holdsSpan 6 = .ok (.lload_n 0, 1) := by decide +kernel
theorem dX0_holdsSpan_7 : decode cX0_holdsSpan 7 = .ok (.lload_n 2, 1) := by decide +kernel
theorem dX0_holdsSpan_8 : decode cX0_holdsSpan 8 = .ok (.lcmp, 1) := by decide +kernel
theorem dX0_holdsSpan_9 : decode cX0_holdsSpan 9 = .ok (.ifCond .gt 14, 3) := by decide +kernel
theorem dX0_holdsSpan_12 : decode cX0_holdsSpan 12 = .ok (.lload_n 2, 1) := by decide +kernel
theorem dX0_holdsSpan_13 : decode cX0_holdsSpan 13 = .ok (.lload 4, 2) := by decide +kernel
theorem dX0_holdsSpan_15 : decode cX0_holdsSpan 15 = .ok (.lcmp, 1) := by decide +kernel
theorem dX0_holdsSpan_16 : decode cX0_holdsSpan 16 = .ok (.ifCond .gt 7, 3) := by decide +kernel
theorem dX0_holdsSpan_19 : decode cX0_holdsSpan 19 = .ok (.iconst 1, 1) := by decide +kernel
theorem dX0_holdsSpan_20 : decode cX0_holdsSpan 20 = .ok (.goto 4, 3) := by decide +kernel
theorem dX0_holdsSpan_23 : decode cX0_holdsSpan 23 = .ok (.iconst 0, 1) := by decide +kernel
theorem dX0_holdsSpan_24 : decode cX0_holdsSpan 24 = .ok (.ireturn, 1) := by decide +kernel
theorem dX0_holdsStretch_0 : decode cX0_holdsStretch 0 = .ok (.lconst 0, 1) := by decide +kernel
theorem dX0_holdsStretch_1 : decode cX0_holdsStretch 1 = .ok (.lload_n 0, 1) := by decide +kernel
theorem dX0_holdsStretch_2 : decode cX0_holdsStretch 2 = .ok (.lcmp, 1) := by decide +kernel
theorem dX0_holdsStretch_3 : decode cX0_holdsStretch 3 = .ok (.ifCond .gt 29, 3) := by decide +kernel
theorem dX0_holdsStretch_6 : decode cX0_holdsStretch 6 = .ok (.lconst 0, 1) := by decide +kernel
theorem dX0_holdsStretch_7 : decode cX0_holdsStretch 7 = .ok (.lload_n 2, 1) := by decide +kernel
theorem dX0_holdsStretch_8 : decode cX0_holdsStretch 8 = .ok (.lcmp, 1) := by decide +kernel
theorem dX0_holdsStretch_9 : decode cX0_holdsStretch 9 = .ok (.ifCond .gt 23, 3) := by decide +kernel
theorem dX0_holdsStretch_12 : decode cX0_holdsStretch 12 = .ok (.lconst 0, 1) := by decide +kernel
theorem dX0_holdsStretch_13 : decode cX0_holdsStretch 13 = .ok (.lload 4, 2) := by decide +kernel
theorem dX0_holdsStretch_15 : decode cX0_holdsStretch 15 = .ok (.lcmp, 1) := by decide +kernel
theorem dX0_holdsStretch_16 : decode cX0_holdsStretch 16 = .ok (.ifCond .gt 16, 3) := by decide +kernel
theorem dX0_holdsStretch_19 : decode cX0_holdsStretch 19 = .ok (.lload_n 0, 1) := by decide +kernel
theorem dX0_holdsStretch_20 : decode cX0_holdsStretch 20 = .ok (.lload 4, 2) := by decide +kernel
theorem dX0_holdsStretch_22 : decode cX0_holdsStretch 22 = .ok (.lload_n 2, 1) := by decide +kernel
theorem dX0_holdsStretch_23 : decode cX0_holdsStretch 23 = .ok (.lsub, 1) := by decide +kernel
theorem dX0_holdsStretch_24 : decode cX0_holdsStretch 24 = .ok (.lcmp, 1) := by decide +kernel
theorem dX0_holdsStretch_25 : decode cX0_holdsStretch 25 = .ok (.ifCond .gt 7, 3) := by decide +kernel
theorem dX0_holdsStretch_28 : decode cX0_holdsStretch 28 = .ok (.iconst 1, 1) := by decide +kernel
theorem dX0_holdsStretch_29 : decode cX0_holdsStretch 29 = .ok (.goto 4, 3) := by decide +kernel
theorem dX0_holdsStretch_32 : decode cX0_holdsStretch 32 = .ok (.iconst 0, 1) := by decide +kernel
theorem dX0_holdsStretch_33 : decode cX0_holdsStretch 33 = .ok (.ireturn, 1) := by decide +kernel
theorem dX0_countPlaces_0 : decode cX0_countPlaces 0 = .ok (.iconst 0, 1) := by decide +kernel
theorem dX0_countPlaces_1 : decode cX0_countPlaces 1 = .ok (.istore_n 1, 1) := by decide +kernel
theorem dX0_countPlaces_2 : decode cX0_countPlaces 2 = .ok (.bipush (-2), 2) := by decide +kernel
theorem dX0_countPlaces_4 : decode cX0_countPlaces 4 = .ok (.istore_n 2, 1) := by decide +kernel
theorem dX0_countPlaces_5 : decode cX0_countPlaces 5 = .ok (.iload_n 2, 1) := by decide +kernel
theorem dX0_countPlaces_6 : decode cX0_countPlaces 6 = .ok (.bipush 26, 2) := by decide +kernel
theorem dX0_countPlaces_8 : decode cX0_countPlaces 8 = .ok (.if_icmp .gt 22, 3) := by decide +kernel
theorem dX0_countPlaces_11 : decode cX0_countPlaces 11 = .ok (.iload_n 2, 1) := by decide +kernel
theorem dX0_countPlaces_12 : decode cX0_countPlaces 12 = .ok (.i2l, 1) := by decide +kernel
theorem dX0_countPlaces_13 : decode cX0_countPlaces 13 = .ok (.iload_n 0, 1) := by decide +kernel
theorem dX0_countPlaces_14 : decode cX0_countPlaces 14 = .ok (.i2l, 1) := by decide +kernel
theorem dX0_countPlaces_15 : decode cX0_countPlaces 15 = .ok (.invokestatic 13, 3) := by decide +kernel
theorem dX0_countPlaces_18 : decode cX0_countPlaces 18 = .ok (.ifCond .eq 6, 3) := by decide +kernel
theorem dX0_countPlaces_21 : decode cX0_countPlaces 21 = .ok (.iinc 1 1, 3) := by decide +kernel
theorem dX0_countPlaces_24 : decode cX0_countPlaces 24 = .ok (.iinc 2 1, 3) := by decide +kernel
theorem dX0_countPlaces_27 : decode cX0_countPlaces 27 = .ok (.goto (-22), 3) := by decide +kernel
theorem dX0_countPlaces_30 : decode cX0_countPlaces 30 = .ok (.iload_n 1, 1) := by decide +kernel
theorem dX0_countPlaces_31 : decode cX0_countPlaces 31 = .ok (.ireturn, 1) := by decide +kernel
theorem dX0_countSpans_0 : decode cX0_countSpans 0 = .ok (.iconst 0, 1) := by decide +kernel
theorem dX0_countSpans_1 : decode cX0_countSpans 1 = .ok (.istore_n 1, 1) := by decide +kernel
theorem dX0_countSpans_2 : decode cX0_countSpans 2 = .ok (.bipush (-2), 2) := by decide +kernel
theorem dX0_countSpans_4 : decode cX0_countSpans 4 = .ok (.istore_n 2, 1) := by decide +kernel
theorem dX0_countSpans_5 : decode cX0_countSpans 5 = .ok (.iload_n 2, 1) := by decide +kernel
theorem dX0_countSpans_6 : decode cX0_countSpans 6 = .ok (.bipush 26, 2) := by decide +kernel
theorem dX0_countSpans_8 : decode cX0_countSpans 8 = .ok (.if_icmp .gt 39, 3) := by decide +kernel
theorem dX0_countSpans_11 : decode cX0_countSpans 11 = .ok (.bipush (-2), 2) := by decide +kernel
theorem dX0_countSpans_13 : decode cX0_countSpans 13 = .ok (.istore_n 3, 1) := by decide +kernel
theorem dX0_countSpans_14 : decode cX0_countSpans 14 = .ok (.iload_n 3, 1) := by decide +kernel
theorem dX0_countSpans_15 : decode cX0_countSpans 15 = .ok (.bipush 26, 2) := by decide +kernel
theorem dX0_countSpans_17 : decode cX0_countSpans 17 = .ok (.if_icmp .gt 24, 3) := by decide +kernel
theorem dX0_countSpans_20 : decode cX0_countSpans 20 = .ok (.iload_n 2, 1) := by decide +kernel
theorem dX0_countSpans_21 : decode cX0_countSpans 21 = .ok (.i2l, 1) := by decide +kernel
theorem dX0_countSpans_22 : decode cX0_countSpans 22 = .ok (.iload_n 3, 1) := by decide +kernel
theorem dX0_countSpans_23 : decode cX0_countSpans 23 = .ok (.i2l, 1) := by decide +kernel
theorem dX0_countSpans_24 : decode cX0_countSpans 24 = .ok (.iload_n 0, 1) := by decide +kernel
theorem dX0_countSpans_25 : decode cX0_countSpans 25 = .ok (.i2l, 1) := by decide +kernel
theorem dX0_countSpans_26 : decode cX0_countSpans 26 = .ok (.invokestatic 17, 3) := by decide +kernel
theorem dX0_countSpans_29 : decode cX0_countSpans 29 = .ok (.ifCond .eq 6, 3) := by decide +kernel
theorem dX0_countSpans_32 : decode cX0_countSpans 32 = .ok (.iinc 1 1, 3) := by decide +kernel
theorem dX0_countSpans_35 : decode cX0_countSpans 35 = .ok (.iinc 3 1, 3) := by decide +kernel
theorem dX0_countSpans_38 : decode cX0_countSpans 38 = .ok (.goto (-24), 3) := by decide +kernel
theorem dX0_countSpans_41 : decode cX0_countSpans 41 = .ok (.iinc 2 1, 3) := by decide +kernel
theorem dX0_countSpans_44 : decode cX0_countSpans 44 = .ok (.goto (-39), 3) := by decide +kernel
theorem dX0_countSpans_47 : decode cX0_countSpans 47 = .ok (.iload_n 1, 1) := by decide +kernel
theorem dX0_countSpans_48 : decode cX0_countSpans 48 = .ok (.ireturn, 1) := by decide +kernel
theorem dX0_countStretches_0 : decode cX0_countStretches 0 = .ok (.iconst 0, 1) := by decide +kernel
theorem dX0_countStretches_1 : decode cX0_countStretches 1 = .ok (.istore_n 1, 1) := by decide +kernel
theorem dX0_countStretches_2 : decode cX0_countStretches 2 = .ok (.bipush (-2), 2) := by decide +kernel
theorem dX0_countStretches_4 : decode cX0_countStretches 4 = .ok (.istore_n 2, 1) := by decide +kernel
theorem dX0_countStretches_5 : decode cX0_countStretches 5 = .ok (.iload_n 2, 1) := by decide +kernel
theorem dX0_countStretches_6 : decode cX0_countStretches 6 = .ok (.bipush 26, 2) := by decide +kernel
theorem dX0_countStretches_8 : decode cX0_countStretches 8 = .ok (.if_icmp .gt 39, 3) := by decide +kernel
theorem dX0_countStretches_11 : decode cX0_countStretches 11 = .ok (.bipush (-2), 2) := by decide +kernel
theorem dX0_countStretches_13 : decode cX0_countStretches 13 = .ok (.istore_n 3, 1) := by decide +kernel
theorem dX0_countStretches_14 : decode cX0_countStretches 14 = .ok (.iload_n 3, 1) := by decide +kernel
theorem dX0_countStretches_15 : decode cX0_countStretches 15 = .ok (.bipush 26, 2) := by decide +kernel
theorem dX0_countStretches_17 : decode cX0_countStretches 17 = .ok (.if_icmp .gt 24, 3) := by decide +kernel
theorem dX0_countStretches_20 : decode cX0_countStretches 20 = .ok (.iload_n 2, 1) := by decide +kernel
theorem dX0_countStretches_21 : decode cX0_countStretches 21 = .ok (.i2l, 1) := by decide +kernel
theorem dX0_countStretches_22 : decode cX0_countStretches 22 = .ok (.iload_n 3, 1) := by decide +kernel
theorem dX0_countStretches_23 : decode cX0_countStretches 23 = .ok (.i2l, 1) := by decide +kernel
theorem dX0_countStretches_24 : decode cX0_countStretches 24 = .ok (.iload_n 0, 1) := by decide +kernel
theorem dX0_countStretches_25 : decode cX0_countStretches 25 = .ok (.i2l, 1) := by decide +kernel
theorem dX0_countStretches_26 : decode cX0_countStretches 26 = .ok (.invokestatic 21, 3) := by decide +kernel
theorem dX0_countStretches_29 : decode cX0_countStretches 29 = .ok (.ifCond .eq 6, 3) := by decide +kernel
theorem dX0_countStretches_32 : decode cX0_countStretches 32 = .ok (.iinc 1 1, 3) := by decide +kernel
theorem dX0_countStretches_35 : decode cX0_countStretches 35 = .ok (.iinc 3 1, 3) := by decide +kernel
theorem dX0_countStretches_38 : decode cX0_countStretches 38 = .ok (.goto (-24), 3) := by decide +kernel
theorem dX0_countStretches_41 : decode cX0_countStretches 41 = .ok (.iinc 2 1, 3) := by decide +kernel
theorem dX0_countStretches_44 : decode cX0_countStretches 44 = .ok (.goto (-39), 3) := by decide +kernel
theorem dX0_countStretches_47 : decode cX0_countStretches 47 = .ok (.iload_n 1, 1) := by decide +kernel
theorem dX0_countStretches_48 : decode cX0_countStretches 48 = .ok (.ireturn, 1) := by decide +kernel
theorem dX1_holds_0 : decode cX1_holds 0 = .ok (.iconst 0, 1) := by decide +kernel
theorem dX1_holds_1 : decode cX1_holds 1 = .ok (.istore_n 1, 1) := by decide +kernel
theorem dX1_holds_2 : decode cX1_holds 2 = .ok (.iload_n 1, 1) := by decide +kernel
theorem dX1_holds_3 : decode cX1_holds 3 = .ok (.bipush 9, 2) := by decide +kernel
theorem dX1_holds_5 : decode cX1_holds 5 = .ok (.if_icmp .ge 52, 3) := by decide +kernel
theorem dX1_holds_8 : decode cX1_holds 8 = .ok (.aload_n 0, 1) := by decide +kernel
theorem dX1_holds_9 : decode cX1_holds 9 = .ok (.iload_n 1, 1) := by decide +kernel
theorem dX1_holds_10 : decode cX1_holds 10 = .ok (.invokevirtual 9, 3) := by decide +kernel
theorem dX1_holds_13 : decode cX1_holds 13 = .ok (.ifCond .ne 13, 3) := by decide +kernel
theorem dX1_holds_16 : decode cX1_holds 16 = .ok (.aload_n 0, 1) := by decide +kernel
theorem dX1_holds_17 : decode cX1_holds 17 = .ok (.iload_n 1, 1) := by decide +kernel
theorem dX1_holds_18 : decode cX1_holds 18 = .ok (.invokestatic 15, 3) := by decide +kernel
theorem dX1_holds_21 : decode cX1_holds 21 = .ok (.ifCond .ne 5, 3) := by decide +kernel
theorem dX1_holds_24 : decode cX1_holds 24 = .ok (.iconst 0, 1) := by decide +kernel
theorem dX1_holds_25 : decode cX1_holds 25 = .ok (.ireturn, 1) := by decide +kernel
theorem dX1_holds_26 : decode cX1_holds 26 = .ok (.iconst 0, 1) := by decide +kernel
theorem dX1_holds_27 : decode cX1_holds 27 = .ok (.istore_n 2, 1) := by decide +kernel
theorem dX1_holds_28 : decode cX1_holds 28 = .ok (.iload_n 2, 1) := by decide +kernel
theorem dX1_holds_29 : decode cX1_holds 29 = .ok (.bipush 9, 2) := by decide +kernel
theorem dX1_holds_31 : decode cX1_holds 31 = .ok (.if_icmp .ge 20, 3) := by decide +kernel
theorem dX1_holds_34 : decode cX1_holds 34 = .ok (.aload_n 0, 1) := by decide +kernel
theorem dX1_holds_35 : decode cX1_holds 35 = .ok (.iload_n 1, 1) := by decide +kernel
theorem dX1_holds_36 : decode cX1_holds 36 = .ok (.iload_n 2, 1) := by decide +kernel
theorem dX1_holds_37 : decode cX1_holds 37 = .ok (.invokestatic 21, 3) := by decide +kernel
theorem dX1_holds_40 : decode cX1_holds 40 = .ok (.ifCond .ne 5, 3) := by decide +kernel
theorem dX1_holds_43 : decode cX1_holds 43 = .ok (.iconst 0, 1) := by decide +kernel
theorem dX1_holds_44 : decode cX1_holds 44 = .ok (.ireturn, 1) := by decide +kernel
theorem dX1_holds_45 : decode cX1_holds 45 = .ok (.iinc 2 1, 3) := by decide +kernel
theorem dX1_holds_48 : decode cX1_holds 48 = .ok (.goto (-20), 3) := by decide +kernel
theorem dX1_holds_51 : decode cX1_holds 51 = .ok (.iinc 1 1, 3) := by decide +kernel
theorem dX1_holds_54 : decode cX1_holds 54 = .ok (.goto (-52), 3) := by decide +kernel
theorem dX1_holds_57 : decode cX1_holds 57 = .ok (.aload_n 0, 1) := by decide +kernel
theorem dX1_holds_58 : decode cX1_holds 58 = .ok (.invokestatic 25, 3) := by decide +kernel
theorem dX1_holds_61 : decode cX1_holds 61 = .ok (.ireturn, 1) := by decide +kernel
theorem dX1_isSoundAlone_0 : decode cX1_isSoundAlone 0 = .ok (.aload_n 0, 1) := by decide +kernel
theorem dX1_isSoundAlone_1 : decode cX1_isSoundAlone 1 = .ok (.iload_n 1, 1) := by decide +kernel
theorem dX1_isSoundAlone_2 : decode cX1_isSoundAlone 2 = .ok (.invokevirtual 29, 3) := by decide +kernel
theorem dX1_isSoundAlone_5 : decode cX1_isSoundAlone 5 = .ok (.istore_n 2, 1) := by decide +kernel
theorem dX1_isSoundAlone_6 : decode cX1_isSoundAlone 6 = .ok (.bipush (-2), 2) := by decide +kernel
theorem dX1_isSoundAlone_8 : decode cX1_isSoundAlone 8 = .ok (.istore_n 3, 1) := by decide +kernel
theorem dX1_isSoundAlone_9 : decode cX1_isSoundAlone 9 = .ok (.iload_n 3, 1) := by decide +kernel
theorem dX1_isSoundAlone_10 : decode cX1_isSoundAlone 10 = .ok (.bipush 26, 2) := by decide +kernel
theorem dX1_isSoundAlone_12 : decode cX1_isSoundAlone 12 = .ok (.if_icmp .gt 49, 3) := by decide +kernel
theorem dX1_isSoundAlone_15 : decode cX1_isSoundAlone 15 = .ok (.iload_n 3, 1) := by decide +kernel
theorem dX1_isSoundAlone_16 : decode cX1_isSoundAlone 16 = .ok (.iload_n 2, 1) := by decide +kernel
theorem dX1_isSoundAlone_17 : decode cX1_isSoundAlone 17 = .ok (.invokestatic 35, 3) := by decide +kernel
theorem dX1_isSoundAlone_20 : decode cX1_isSoundAlone 20 = .ok (.ifCond .ne 5, 3) := by decide +kernel
theorem dX1_isSoundAlone_23 : decode cX1_isSoundAlone 23 = .ok (.iconst 0, 1) := by decide +kernel
theorem dX1_isSoundAlone_24 : decode cX1_isSoundAlone 24 = .ok (.ireturn, 1) := by decide +kernel
theorem dX1_isSoundAlone_25 : decode cX1_isSoundAlone 25 = .ok (.bipush (-2), 2) := by decide +kernel
theorem dX1_isSoundAlone_27 : decode cX1_isSoundAlone 27 = .ok (.istore 4, 2) := by decide +kernel
theorem dX1_isSoundAlone_29 : decode cX1_isSoundAlone 29 = .ok (.iload 4, 2) := by decide +kernel
theorem dX1_isSoundAlone_31 : decode cX1_isSoundAlone 31 = .ok (.bipush 26, 2) := by decide +kernel
theorem dX1_isSoundAlone_33 : decode cX1_isSoundAlone 33 = .ok (.if_icmp .gt 22, 3) := by decide +kernel
theorem dX1_isSoundAlone_36 : decode cX1_isSoundAlone 36 = .ok (.aload_n 0, 1) := by decide +kernel
theorem dX1_isSoundAlone_37 : decode cX1_isSoundAlone 37 = .ok (.iload_n 1, 1) := by decide +kernel
theorem dX1_isSoundAlone_38 : decode cX1_isSoundAlone 38 = .ok (.iload_n 3, 1) := by decide +kernel
theorem dX1_isSoundAlone_39 : decode cX1_isSoundAlone 39 = .ok (.iload 4, 2) := by decide +kernel
theorem dX1_isSoundAlone_41 : decode cX1_isSoundAlone 41 = .ok (.invokestatic 39, 3) := by decide +kernel
theorem dX1_isSoundAlone_44 : decode cX1_isSoundAlone 44 = .ok (.ifCond .ne 5, 3) := by decide +kernel
theorem dX1_isSoundAlone_47 : decode cX1_isSoundAlone 47 = .ok (.iconst 0, 1) := by decide +kernel
theorem dX1_isSoundAlone_48 : decode cX1_isSoundAlone 48 = .ok (.ireturn, 1) := by decide +kernel
theorem dX1_isSoundAlone_49 : decode cX1_isSoundAlone 49 = .ok (.iinc 4 1, 3) := by decide +kernel
theorem dX1_isSoundAlone_52 : decode cX1_isSoundAlone 52 = .ok (.goto (-23), 3) := by decide +kernel
theorem dX1_isSoundAlone_55 : decode cX1_isSoundAlone 55 = .ok (.iinc 3 1, 3) := by decide +kernel
theorem dX1_isSoundAlone_58 : decode cX1_isSoundAlone 58 = .ok (.goto (-49), 3) := by decide +kernel
theorem dX1_isSoundAlone_61 : decode cX1_isSoundAlone 61 = .ok (.aload_n 0, 1) := by decide +kernel
theorem dX1_isSoundAlone_62 : decode cX1_isSoundAlone 62 = .ok (.iload_n 1, 1) := by decide +kernel
theorem dX1_isSoundAlone_63 : decode cX1_isSoundAlone 63 = .ok (.invokestatic 43, 3) := by decide +kernel
theorem dX1_isSoundAlone_66 : decode cX1_isSoundAlone 66 = .ok (.ireturn, 1) := by decide +kernel
theorem dX1_isSoundPlace_0 : decode cX1_isSoundPlace 0 = .ok (.iload_n 0, 1) := by decide +kernel
theorem dX1_isSoundPlace_1 : decode cX1_isSoundPlace 1 = .ok (.i2l, 1) := by decide +kernel
theorem dX1_isSoundPlace_2 : decode cX1_isSoundPlace 2 = .ok (.iload_n 1, 1) := by decide +kernel
theorem dX1_isSoundPlace_3 : decode cX1_isSoundPlace 3 = .ok (.i2l, 1) := by decide +kernel
theorem dX1_isSoundPlace_4 : decode cX1_isSoundPlace 4 = .ok (.invokestatic 46, 3) := by decide +kernel
theorem dX1_isSoundPlace_7 : decode cX1_isSoundPlace 7 = .ok (.istore_n 2, 1) := by decide +kernel
theorem dX1_isSoundPlace_8 : decode cX1_isSoundPlace 8 = .ok (.iload_n 0, 1) := by decide +kernel
theorem dX1_isSoundPlace_9 : decode cX1_isSoundPlace 9 = .ok (.invokestatic 50, 3) := by decide +kernel
theorem dX1_isSoundPlace_12 : decode cX1_isSoundPlace 12 = .ok (.lstore_n 3, 1) := by decide +kernel
theorem dX1_isSoundPlace_13 : decode cX1_isSoundPlace 13 = .ok (.iload_n 0, 1) := by decide +kernel
theorem dX1_isSoundPlace_14 : decode cX1_isSoundPlace 14 = .ok (.iconst 1, 1) := by decide +kernel
theorem dX1_isSoundPlace_15 : decode cX1_isSoundPlace 15 = .ok (.iadd, 1) := by decide +kernel
theorem dX1_isSoundPlace_16 : decode cX1_isSoundPlace 16 = .ok (.invokestatic 50, 3) := by decide +kernel
theorem dX1_isSoundPlace_19 : decode cX1_isSoundPlace 19 = .ok (.lstore 5, 2) := by decide +kernel
theorem dX1_isSoundPlace_21 : decode cX1_isSoundPlace 21 = .ok (.iload_n 1, 1) := by decide +kernel
theorem dX1_isSoundPlace_22 : decode cX1_isSoundPlace 22 = .ok (.invokestatic 50, 3) := by decide +kernel
theorem dX1_isSoundPlace_25 : decode cX1_isSoundPlace 25 = .ok (.lstore 7, 2) := by decide +kernel
theorem dX1_isSoundPlace_27 : decode cX1_isSoundPlace 27 = .ok (.iload_n 0, 1) := by decide +kernel
theorem dX1_isSoundPlace_28 : decode cX1_isSoundPlace 28 = .ok (.i2l, 1) := by decide +kernel
theorem dX1_isSoundPlace_29 : decode cX1_isSoundPlace 29 = .ok (.iload_n 0, 1) := by decide +kernel
theorem dX1_isSoundPlace_30 : decode cX1_isSoundPlace 30 = .ok (.iconst 1, 1) := by decide +kernel
theorem dX1_isSoundPlace_31 : decode cX1_isSoundPlace 31 = .ok (.iadd, 1) := by decide +kernel
theorem dX1_isSoundPlace_32 : decode cX1_isSoundPlace 32 = .ok (.i2l, 1) := by decide +kernel
theorem dX1_isSoundPlace_33 : decode cX1_isSoundPlace 33 = .ok (.iload_n 1, 1) := by decide +kernel
theorem dX1_isSoundPlace_34 : decode cX1_isSoundPlace 34 = .ok (.i2l, 1) := by decide +kernel
theorem dX1_isSoundPlace_35 : decode cX1_isSoundPlace 35 = .ok (.invokestatic 54, 3) := by decide +kernel
theorem dX1_isSoundPlace_38 : decode cX1_isSoundPlace 38 = .ok (.iload_n 2, 1) := by decide +kernel
theorem dX1_isSoundPlace_39 : decode cX1_isSoundPlace 39 = .ok (.if_icmp .ne 55, 3) := by decide +kernel
theorem dX1_isSoundPlace_42 : decode cX1_isSoundPlace 42 = .ok (.iload_n 0, 1) := by decide +kernel
theorem dX1_isSoundPlace_43 : decode cX1_isSoundPlace 43 = .ok (.i2l, 1) := by decide +kernel
theorem dX1_isSoundPlace_44 : decode cX1_isSoundPlace 44 = .ok (.lconst 1, 1) := by decide +kernel
theorem dX1_isSoundPlace_45 : decode cX1_isSoundPlace 45 = .ok (.iload_n 1, 1) := by decide +kernel
theorem dX1_isSoundPlace_46 : decode cX1_isSoundPlace 46 = .ok (.i2l, 1) := by decide +kernel
theorem dX1_isSoundPlace_47 : decode cX1_isSoundPlace 47 = .ok (.invokestatic 58, 3) := by decide +kernel
theorem dX1_isSoundPlace_50 : decode cX1_isSoundPlace 50 = .ok (.iload_n 2, 1) := by decide +kernel
theorem dX1_isSoundPlace_51 : decode cX1_isSoundPlace 51 = .ok (.if_icmp .ne 43, 3) := by decide +kernel
theorem dX1_isSoundPlace_54 : decode cX1_isSoundPlace 54 = .ok (.lload_n 3, 1) := by decide +kernel
theorem dX1_isSoundPlace_55 : decode cX1_isSoundPlace 55 = .ok (.lload 7, 2) := by decide +kernel
theorem dX1_isSoundPlace_57 : decode cX1_isSoundPlace 57 = .ok (.invokestatic 46, 3) := by decide +kernel
theorem dX1_isSoundPlace_60 : decode cX1_isSoundPlace 60 = .ok (.iload_n 2, 1) := by decide +kernel
theorem dX1_isSoundPlace_61 : decode cX1_isSoundPlace 61 = .ok (.if_icmp .ne 33, 3) := by decide +kernel
theorem dX1_isSoundPlace_64 : decode cX1_isSoundPlace 64 = .ok (.lload_n 3, 1) := by decide +kernel
theorem dX1_isSoundPlace_65 : decode cX1_isSoundPlace 65 = .ok (.lload 5, 2) := by decide +kernel
theorem dX1_isSoundPlace_67 : decode cX1_isSoundPlace 67 = .ok (.lload 7, 2) := by decide +kernel
theorem dX1_isSoundPlace_69 : decode cX1_isSoundPlace 69 = .ok (.invokestatic 54, 3) := by decide +kernel
theorem dX1_isSoundPlace_72 : decode cX1_isSoundPlace 72 = .ok (.iload_n 2, 1) := by decide +kernel
theorem dX1_isSoundPlace_73 : decode cX1_isSoundPlace 73 = .ok (.if_icmp .ne 21, 3) := by decide +kernel
theorem dX1_isSoundPlace_76 : decode cX1_isSoundPlace 76 = .ok (.lload_n 3, 1) := by decide +kernel
theorem dX1_isSoundPlace_77 : decode cX1_isSoundPlace 77 = .ok (.iconst 1, 1) := by decide +kernel
theorem dX1_isSoundPlace_78 : decode cX1_isSoundPlace 78 = .ok (.invokestatic 50, 3) := by decide +kernel
theorem dX1_isSoundPlace_81 : decode cX1_isSoundPlace 81 = .ok (.lload 7, 2) := by decide +kernel
theorem dX1_isSoundPlace_83 : decode cX1_isSoundPlace 83 = .ok (.invokestatic 58, 3) := by decide +kernel
theorem dX1_isSoundPlace_86 : decode cX1_isSoundPlace 86 = .ok (.iload_n 2, 1) := by decide +kernel
theorem dX1_isSoundPlace_87 : decode cX1_isSoundPlace 87 = .ok (.if_icmp .ne 7, 3) := by decide +kernel
theorem dX1_isSoundPlace_90 : decode cX1_isSoundPlace 90 = .ok (.iconst 1, 1) := by decide +kernel
theorem dX1_isSoundPlace_91 : decode cX1_isSoundPlace 91 = .ok (.goto 4, 3) := by decide +kernel
theorem dX1_isSoundPlace_94 : decode cX1_isSoundPlace 94 = .ok (.iconst 0, 1) := by decide +kernel
theorem dX1_isSoundPlace_95 : decode cX1_isSoundPlace 95 = .ok (.ireturn, 1) := by decide +kernel
theorem dX1_isSoundSpan_0 : decode cX1_isSoundSpan 0 = .ok (.aload_n 0, 1) := by decide +kernel
theorem dX1_isSoundSpan_1 : decode cX1_isSoundSpan 1 = .ok (.iload_n 1, 1) := by decide +kernel
theorem dX1_isSoundSpan_2 : decode cX1_isSoundSpan 2 = .ok (.invokevirtual 29, 3) := by decide +kernel
theorem dX1_isSoundSpan_5 : decode cX1_isSoundSpan 5 = .ok (.istore 4, 2) := by decide +kernel
theorem dX1_isSoundSpan_7 : decode cX1_isSoundSpan 7 = .ok (.iload_n 2, 1) := by decide +kernel
theorem dX1_isSoundSpan_8 : decode cX1_isSoundSpan 8 = .ok (.i2l, 1) := by decide +kernel
theorem dX1_isSoundSpan_9 : decode cX1_isSoundSpan 9 = .ok (.iload_n 3, 1) := by decide +kernel
theorem dX1_isSoundSpan_10 : decode cX1_isSoundSpan 10 = .ok (.i2l, 1) := by decide +kernel
theorem dX1_isSoundSpan_11 : decode cX1_isSoundSpan 11 = .ok (.iload 4, 2) := by decide +kernel
theorem dX1_isSoundSpan_13 : decode cX1_isSoundSpan 13 = .ok (.i2l, 1) := by decide +kernel
theorem dX1_isSoundSpan_14 : decode cX1_isSoundSpan 14 = .ok (.invokestatic 54, 3) := by decide +kernel
theorem dX1_isSoundSpan_17 : decode cX1_isSoundSpan 17 = .ok (.istore 5, 2) := by decide +kernel
theorem dX1_isSoundSpan_19 : decode cX1_isSoundSpan 19 = .ok (.iload_n 2, 1) := by decide +kernel
theorem dX1_isSoundSpan_20 : decode cX1_isSoundSpan 20 = .ok (.i2l, 1) := by decide +kernel
theorem dX1_isSoundSpan_21 : decode cX1_isSoundSpan 21 = .ok (.iload_n 3, 1) := by decide +kernel
theorem dX1_isSoundSpan_22 : decode cX1_isSoundSpan 22 = .ok (.iload_n 2, 1) := by decide +kernel
theorem dX1_isSoundSpan_23 : decode cX1_isSoundSpan 23 = .ok (.isub, 1) := by decide +kernel
theorem dX1_isSoundSpan_24 : decode cX1_isSoundSpan 24 = .ok (.i2l, 1) := by decide +kernel
theorem dX1_isSoundSpan_25 : decode cX1_isSoundSpan 25 = .ok (.iload 4, 2) := by decide +kernel
theorem dX1_isSoundSpan_27 : decode cX1_isSoundSpan 27 = .ok (.i2l, 1) := by decide +kernel
theorem dX1_isSoundSpan_28 : decode cX1_isSoundSpan 28 = .ok (.invokestatic 58, 3) := by decide +kernel
theorem dX1_isSoundSpan_31 : decode cX1_isSoundSpan 31 = .ok (.iload 5, 2) := by decide +kernel
theorem dX1_isSoundSpan_33 : decode cX1_isSoundSpan 33 = .ok (.if_icmp .eq 5, 3) := by decide +kernel
theorem dX1_isSoundSpan_36 : decode cX1_isSoundSpan 36 = .ok (.iconst 0, 1) := by decide +kernel
theorem dX1_isSoundSpan_37 : decode cX1_isSoundSpan 37 = .ok (.ireturn, 1) := by decide +kernel
theorem dX1_isSoundSpan_38 : decode cX1_isSoundSpan 38 = .ok (.iload 5, 2) := by decide +kernel
theorem dX1_isSoundSpan_40 : decode cX1_isSoundSpan 40 = .ok (.ifCond .eq 16, 3) := by decide +kernel
theorem dX1_isSoundSpan_43 : decode cX1_isSoundSpan 43 = .ok (.aload_n 0, 1) := by decide +kernel
theorem dX1_isSoundSpan_44 : decode cX1_isSoundSpan 44 = .ok (.iload_n 1, 1) := by decide +kernel
theorem dX1_isSoundSpan_45 : decode cX1_isSoundSpan 45 = .ok (.iload_n 2, 1) := by decide +kernel
theorem dX1_isSoundSpan_46 : decode cX1_isSoundSpan 46 = .ok (.iload_n 3, 1) := by decide +kernel
theorem dX1_isSoundSpan_47 : decode cX1_isSoundSpan 47 = .ok (.invokevirtual 61, 3) := by decide +kernel
theorem dX1_isSoundSpan_50 : decode cX1_isSoundSpan 50 = .ok (.iload_n 3, 1) := by decide +kernel
theorem dX1_isSoundSpan_51 : decode cX1_isSoundSpan 51 = .ok (.iload_n 2, 1) := by decide +kernel
theorem dX1_isSoundSpan_52 : decode cX1_isSoundSpan 52 = .ok (.isub, 1) := by decide +kernel
theorem dX1_isSoundSpan_53 : decode cX1_isSoundSpan 53 = .ok (.if_icmp .ne 7, 3) := by decide +kernel
theorem dX1_isSoundSpan_56 : decode cX1_isSoundSpan 56 = .ok (.iconst 1, 1) := by decide +kernel
theorem dX1_isSoundSpan_57 : decode cX1_isSoundSpan 57 = .ok (.goto 4, 3) := by decide +kernel
theorem dX1_isSoundSpan_60 : decode cX1_isSoundSpan 60 = .ok (.iconst 0, 1) := by decide +kernel
theorem dX1_isSoundSpan_61 : decode cX1_isSoundSpan 61 = .ok (.ireturn, 1) := by decide +kernel
theorem dX1_isBehindItsBeginnings_0 : decode cX1_isBehindItsBeginnings 0 = .ok (.aload_n 0, 1) := by decide +kernel
theorem dX1_isBehindItsBeginnings_1 : decode cX1_isBehindItsBeginnings 1 = .ok (.iload_n 1, 1) := by decide +kernel
theorem dX1_isBehindItsBeginnings_2 : decode cX1_isBehindItsBeginnings 2 = .ok (.invokevirtual 29, 3) := by decide +kernel
theorem dX1_isBehindItsBeginnings_5 : decode cX1_isBehindItsBeginnings 5 = .ok (.istore_n 2, 1) := by decide +kernel
theorem dX1_isBehindItsBeginnings_6 : decode cX1_isBehindItsBeginnings 6 = .ok (.iconst 0, 1) := by decide +kernel
theorem dX1_isBehindItsBeginnings_7 : decode cX1_isBehindItsBeginnings 7 = .ok (.istore_n 3, 1) := by decide +kernel
theorem dX1_isBehindItsBeginnings_8 : decode cX1_isBehindItsBeginnings 8 = .ok (.iload_n 3, 1) := by decide +kernel
theorem dX1_isBehindItsBeginnings_9 : decode cX1_isBehindItsBeginnings 9 = .ok (.iload_n 2, 1) := by decide +kernel
theorem dX1_isBehindItsBeginnings_10 : decode cX1_isBehindItsBeginnings 10 = .ok (.if_icmp .ge 24, 3) := by decide +kernel
theorem dX1_isBehindItsBeginnings_13 : decode cX1_isBehindItsBeginnings 13 = .ok (.aload_n 0, 1) := by decide +kernel
theorem dX1_isBehindItsBeginnings_14 : decode cX1_isBehindItsBeginnings 14 = .ok (.iconst 0, 1) := by decide +kernel
theorem dX1_isBehindItsBeginnings_15 : decode cX1_isBehindItsBeginnings 15 = .ok (.iload_n 1, 1) := by decide +kernel
theorem dX1_isBehindItsBeginnings_16 : decode cX1_isBehindItsBeginnings 16 = .ok (.iload_n 2, 1) := by decide +kernel
theorem dX1_isBehindItsBeginnings_17 : decode cX1_isBehindItsBeginnings 17 = .ok (.iload_n 1, 1) := by decide +kernel
theorem dX1_isBehindItsBeginnings_18 : decode cX1_isBehindItsBeginnings 18 = .ok (.iload_n 3, 1) := by decide +kernel
theorem dX1_isBehindItsBeginnings_19 : decode cX1_isBehindItsBeginnings 19 = .ok (.invokevirtual 65, 3) := by decide +kernel
theorem dX1_isBehindItsBeginnings_22 : decode cX1_isBehindItsBeginnings 22 = .ok (.iconst 1, 1) := by decide +kernel
theorem dX1_isBehindItsBeginnings_23 : decode cX1_isBehindItsBeginnings 23 = .ok (.if_icmp .eq 5, 3) := by decide +kernel
theorem dX1_isBehindItsBeginnings_26 : decode cX1_isBehindItsBeginnings 26 = .ok (.iconst 0, 1) := by decide +kernel
theorem dX1_isBehindItsBeginnings_27 : decode cX1_isBehindItsBeginnings 27 = .ok (.ireturn, 1) := by decide +kernel
theorem dX1_isBehindItsBeginnings_28 : decode cX1_isBehindItsBeginnings 28 = .ok (.iinc 3 1, 3) := by decide +kernel
theorem dX1_isBehindItsBeginnings_31 : decode cX1_isBehindItsBeginnings 31 = .ok (.goto (-23), 3) := by decide +kernel
theorem dX1_isBehindItsBeginnings_34 : decode cX1_isBehindItsBeginnings 34 = .ok (.iconst 1, 1) := by decide +kernel
theorem dX1_isBehindItsBeginnings_35 : decode cX1_isBehindItsBeginnings 35 = .ok (.ireturn, 1) := by decide +kernel
theorem dX1_isSoundPair_0 : decode cX1_isSoundPair 0 = .ok (.iconst 0, 1) := by decide +kernel
theorem dX1_isSoundPair_1 : decode cX1_isSoundPair 1 = .ok (.istore_n 3, 1) := by decide +kernel
theorem dX1_isSoundPair_2 : decode cX1_isSoundPair 2 = .ok (.iload_n 3, 1) := by decide +kernel
theorem dX1_isSoundPair_3 : decode cX1_isSoundPair 3 = .ok (.iconst 3, 1) := by decide +kernel
theorem dX1_isSoundPair_4 : decode cX1_isSoundPair 4 = .ok (.if_icmp .gt 29, 3) := by decide +kernel
theorem dX1_isSoundPair_7 : decode cX1_isSoundPair 7 = .ok (.aload_n 0, 1) := by decide +kernel
theorem dX1_isSoundPair_8 : decode cX1_isSoundPair 8 = .ok (.iload_n 1, 1) := by decide +kernel
theorem dX1_isSoundPair_9 : decode cX1_isSoundPair 9 = .ok (.iload_n 2, 1) := by decide +kernel
theorem dX1_isSoundPair_10 : decode cX1_isSoundPair 10 = .ok (.iload_n 3, 1) := by decide +kernel
theorem dX1_isSoundPair_11 : decode cX1_isSoundPair 11 = .ok (.invokevirtual 69, 3) := by decide +kernel
theorem dX1_isSoundPair_14 : decode cX1_isSoundPair 14 = .ok (.aload_n 0, 1) := by decide +kernel
theorem dX1_isSoundPair_15 : decode cX1_isSoundPair 15 = .ok (.iload_n 2, 1) := by decide +kernel
theorem dX1_isSoundPair_16 : decode cX1_isSoundPair 16 = .ok (.iload_n 1, 1) := by decide +kernel
theorem dX1_isSoundPair_17 : decode cX1_isSoundPair 17 = .ok (.iload_n 3, 1) := by decide +kernel
theorem dX1_isSoundPair_18 : decode cX1_isSoundPair 18 = .ok (.invokevirtual 69, 3) := by decide +kernel
theorem dX1_isSoundPair_21 : decode cX1_isSoundPair 21 = .ok (.ineg, 1) := by decide +kernel
theorem dX1_isSoundPair_22 : decode cX1_isSoundPair 22 = .ok (.if_icmp .eq 5, 3) := by decide +kernel
theorem dX1_isSoundPair_25 : decode cX1_isSoundPair 25 = .ok (.iconst 0, 1) := by decide +kernel
theorem dX1_isSoundPair_26 : decode cX1_isSoundPair 26 = .ok (.ireturn, 1) := by decide +kernel
theorem dX1_isSoundPair_27 : decode cX1_isSoundPair 27 = .ok (.iinc 3 1, 3) := by decide +kernel
theorem dX1_isSoundPair_30 : decode cX1_isSoundPair 30 = .ok (.goto (-28), 3) := by decide +kernel
theorem dX1_isSoundPair_33 : decode cX1_isSoundPair 33 = .ok (.aload_n 0, 1) := by decide +kernel
theorem dX1_isSoundPair_34 : decode cX1_isSoundPair 34 = .ok (.iload_n 1, 1) := by decide +kernel
theorem dX1_isSoundPair_35 : decode cX1_isSoundPair 35 = .ok (.invokevirtual 9, 3) := by decide +kernel
theorem dX1_isSoundPair_38 : decode cX1_isSoundPair 38 = .ok (.ifCond .ne 20, 3) := by decide +kernel
theorem dX1_isSoundPair_41 : decode cX1_isSoundPair 41 = .ok (.aload_n 0, 1) := by decide +kernel
theorem dX1_isSoundPair_42 : decode cX1_isSoundPair 42 = .ok (.iload_n 2, 1) := by decide +kernel
theorem dX1_isSoundPair_43 : decode cX1_isSoundPair 43 = .ok (.invokevirtual 9, 3) := by decide +kernel
theorem dX1_isSoundPair_46 : decode cX1_isSoundPair 46 = .ok (.ifCond .ne 12, 3) := by decide +kernel
theorem dX1_isSoundPair_49 : decode cX1_isSoundPair 49 = .ok (.aload_n 0, 1) := by decide +kernel
theorem dX1_isSoundPair_50 : decode cX1_isSoundPair 50 = .ok (.iload_n 1, 1) := by decide +kernel
theorem dX1_isSoundPair_51 : decode cX1_isSoundPair 51 = .ok (.iload_n 2, 1) := by decide +kernel
theorem dX1_isSoundPair_52 : decode cX1_isSoundPair 52 = .ok (.invokestatic 72, 3) := by decide +kernel
theorem dX1_isSoundPair_55 : decode cX1_isSoundPair 55 = .ok (.ifCond .eq 7, 3) := by decide +kernel
theorem dX1_isSoundPair_58 : decode cX1_isSoundPair 58 = .ok (.iconst 1, 1) := by decide +kernel
theorem dX1_isSoundPair_59 : decode cX1_isSoundPair 59 = .ok (.goto 4, 3) := by decide +kernel
theorem dX1_isSoundPair_62 : decode cX1_isSoundPair 62 = .ok (.iconst 0, 1) := by decide +kernel
theorem dX1_isSoundPair_63 : decode cX1_isSoundPair 63 = .ok (.ireturn, 1) := by decide +kernel
theorem dX1_isSoundPairThere_0 : decode cX1_isSoundPairThere 0 = .ok (.aload_n 0, 1) := by decide +kernel
theorem dX1_isSoundPairThere_1 : decode cX1_isSoundPairThere 1 = .ok (.iload_n 1, 1) := by decide +kernel
theorem dX1_isSoundPairThere_2 : decode cX1_isSoundPairThere 2 = .ok (.iload_n 2, 1) := by decide +kernel
theorem dX1_isSoundPairThere_3 : decode cX1_isSoundPairThere 3 = .ok (.invokevirtual 75, 3) := by decide +kernel
theorem dX1_isSoundPairThere_6 : decode cX1_isSoundPairThere 6 = .ok (.istore_n 3, 1) := by decide +kernel
theorem dX1_isSoundPairThere_7 : decode cX1_isSoundPairThere 7 = .ok (.aload_n 0, 1) := by decide +kernel
theorem dX1_isSoundPairThere_8 : decode cX1_isSoundPairThere 8 = .ok (.iload_n 1, 1) := by decide +kernel
theorem dX1_isSoundPairThere_9 : decode cX1_isSoundPairThere 9 = .ok (.iload_n 2, 1) := by decide +kernel
theorem dX1_isSoundPairThere_10 : decode cX1_isSoundPairThere 10 = .ok (.invokevirtual 79, 3) := by decide +kernel
theorem dX1_isSoundPairThere_13 : decode cX1_isSoundPairThere 13 = .ok (.istore 4, 2) := by decide +kernel
theorem dX1_isSoundPairThere_15 : decode cX1_isSoundPairThere 15 = .ok (.iload_n 3, 1) := by decide +kernel
theorem dX1_isSoundPairThere_16 : decode cX1_isSoundPairThere 16 = .ok (.aload_n 0, 1) := by decide +kernel
theorem dX1_isSoundPairThere_17 : decode cX1_isSoundPairThere 17 = .ok (.iload_n 2, 1) := by decide +kernel
theorem dX1_isSoundPairThere_18 : decode cX1_isSoundPairThere 18 = .ok (.iload_n 1, 1) := by decide +kernel
theorem dX1_isSoundPairThere_19 : decode cX1_isSoundPairThere 19 = .ok (.invokevirtual 75, 3) := by decide +kernel
theorem dX1_isSoundPairThere_22 : decode cX1_isSoundPairThere 22 = .ok (.ineg, 1) := by decide +kernel
theorem dX1_isSoundPairThere_23 : decode cX1_isSoundPairThere 23 = .ok (.if_icmp .ne 39, 3) := by decide +kernel
theorem dX1_isSoundPairThere_26 : decode cX1_isSoundPairThere 26 = .ok (.iload_n 3, 1) := by decide +kernel
theorem dX1_isSoundPairThere_27 : decode cX1_isSoundPairThere 27 = .ok (.ifCond .ne 7, 3) := by decide +kernel
theorem dX1_isSoundPairThere_30 : decode cX1_isSoundPairThere 30 = .ok (.iconst 1, 1) := by decide +kernel
theorem dX1_isSoundPairThere_31 : decode cX1_isSoundPairThere 31 = .ok (.goto 4, 3) := by decide +kernel
theorem dX1_isSoundPairThere_34 : decode cX1_isSoundPairThere 34 = .ok (.iconst 0, 1) := by decide +kernel
theorem dX1_isSoundPairThere_35 : decode cX1_isSoundPairThere 35 = .ok (.iload 4, 2) := by decide +kernel
theorem dX1_isSoundPairThere_37 : decode cX1_isSoundPairThere 37 = .ok (.if_icmp .ne 25, 3) := by decide +kernel
theorem dX1_isSoundPairThere_40 : decode cX1_isSoundPairThere 40 = .ok (.iload 4, 2) := by decide +kernel
theorem dX1_isSoundPairThere_42 : decode cX1_isSoundPairThere 42 = .ok (.ifCond .eq 16, 3) := by decide +kernel
theorem dX1_isSoundPairThere_45 : decode cX1_isSoundPairThere 45 = .ok (.aload_n 0, 1) := by decide +kernel
theorem dX1_isSoundPairThere_46 : decode cX1_isSoundPairThere 46 = .ok (.iload_n 1, 1) := by decide +kernel
theorem dX1_isSoundPairThere_47 : decode cX1_isSoundPairThere 47 = .ok (.invokevirtual 82, 3) := by decide +kernel
theorem dX1_isSoundPairThere_50 : decode cX1_isSoundPairThere 50 = .ok (.aload_n 0, 1) := by decide +kernel
theorem dX1_isSoundPairThere_51 : decode cX1_isSoundPairThere 51 = .ok (.iload_n 2, 1) := by decide +kernel
theorem dX1_isSoundPairThere_52 : decode cX1_isSoundPairThere 52 = .ok (.invokevirtual 82, 3) := by decide +kernel
theorem dX1_isSoundPairThere_55 : decode cX1_isSoundPairThere 55 = .ok (.if_icmp .ne 7, 3) := by decide +kernel
theorem dX1_isSoundPairThere_58 : decode cX1_isSoundPairThere 58 = .ok (.iconst 1, 1) := by decide +kernel
theorem dX1_isSoundPairThere_59 : decode cX1_isSoundPairThere 59 = .ok (.goto 4, 3) := by decide +kernel
theorem dX1_isSoundPairThere_62 : decode cX1_isSoundPairThere 62 = .ok (.iconst 0, 1) := by decide +kernel
theorem dX1_isSoundPairThere_63 : decode cX1_isSoundPairThere 63 = .ok (.ireturn, 1) := by decide +kernel
theorem dX1_areChainsSound_0 : decode cX1_areChainsSound 0 = .ok (.iconst 0, 1) := by decide +kernel
theorem dX1_areChainsSound_1 : decode cX1_areChainsSound 1 = .ok (.istore_n 1, 1) := by decide +kernel
theorem dX1_areChainsSound_2 : decode cX1_areChainsSound 2 = .ok (.iload_n 1, 1) := by decide +kernel
theorem dX1_areChainsSound_3 : decode cX1_areChainsSound 3 = .ok (.bipush 9, 2) := by decide +kernel
theorem dX1_areChainsSound_5 : decode cX1_areChainsSound 5 = .ok (.if_icmp .ge 69, 3) := by decide +kernel
theorem dX1_areChainsSound_8 : decode cX1_areChainsSound 8 = .ok (.iconst 0, 1) := by decide +kernel
theorem dX1_areChainsSound_9 : decode cX1_areChainsSound 9 = .ok (.istore_n 2, 1) := by decide +kernel
theorem dX1_areChainsSound_10 : decode cX1_areChainsSound 10 = .ok (.iload_n 2, 1) := by decide +kernel
theorem dX1_areChainsSound_11 : decode cX1_areChainsSound 11 = .ok (.bipush 9, 2) := by decide +kernel
theorem dX1_areChainsSound_13 : decode cX1_areChainsSound 13 = .ok (.if_icmp .ge 55, 3) := by decide +kernel
theorem dX1_areChainsSound_16 : decode cX1_areChainsSound 16 = .ok (.aload_n 0, 1) := by decide +kernel
theorem dX1_areChainsSound_17 : decode cX1_areChainsSound 17 = .ok (.iload_n 1, 1) := by decide +kernel
theorem dX1_areChainsSound_18 : decode cX1_areChainsSound 18 = .ok (.iload_n 2, 1) := by decide +kernel
theorem dX1_areChainsSound_19 : decode cX1_areChainsSound 19 = .ok (.invokestatic 85, 3) := by decide +kernel
theorem dX1_areChainsSound_22 : decode cX1_areChainsSound 22 = .ok (.ifCond .ne 6, 3) := by decide +kernel
theorem dX1_areChainsSound_25 : decode cX1_areChainsSound 25 = .ok (.goto 37, 3) := by decide +kernel
theorem dX1_areChainsSound_28 : decode cX1_areChainsSound 28 = .ok (.iconst 0, 1) := by decide +kernel
theorem dX1_areChainsSound_29 : decode cX1_areChainsSound 29 = .ok (.istore_n 3, 1) := by decide +kernel
theorem dX1_areChainsSound_30 : decode cX1_areChainsSound 30 = .ok (.iload_n 3, 1) := by decide +kernel
theorem dX1_areChainsSound_31 : decode cX1_areChainsSound 31 = .ok (.bipush 9, 2) := by decide +kernel
theorem dX1_areChainsSound_33 : decode cX1_areChainsSound 33 = .ok (.if_icmp .ge 29, 3) := by decide +kernel
theorem dX1_areChainsSound_36 : decode cX1_areChainsSound 36 = .ok (.aload_n 0, 1) := by decide +kernel
theorem dX1_areChainsSound_37 : decode cX1_areChainsSound 37 = .ok (.iload_n 2, 1) := by decide +kernel
theorem dX1_areChainsSound_38 : decode cX1_areChainsSound 38 = .ok (.iload_n 3, 1) := by decide +kernel
theorem dX1_areChainsSound_39 : decode cX1_areChainsSound 39 = .ok (.invokestatic 85, 3) := by decide +kernel
theorem dX1_areChainsSound_42 : decode cX1_areChainsSound 42 = .ok (.ifCond .eq 14, 3) := by decide +kernel
theorem dX1_areChainsSound_45 : decode cX1_areChainsSound 45 = .ok (.aload_n 0, 1) := by decide +kernel
theorem dX1_areChainsSound_46 : decode cX1_areChainsSound 46 = .ok (.iload_n 1, 1) := by decide +kernel
theorem dX1_areChainsSound_47 : decode cX1_areChainsSound 47 = .ok (.iload_n 3, 1) := by decide +kernel
theorem dX1_areChainsSound_48 : decode cX1_areChainsSound 48 = .ok (.invokestatic 85, 3) := by decide +kernel
theorem dX1_areChainsSound_51 : decode cX1_areChainsSound 51 = .ok (.ifCond .ne 5, 3) := by decide +kernel
theorem dX1_areChainsSound_54 : decode cX1_areChainsSound 54 = .ok (.iconst 0, 1) := by decide +kernel
theorem dX1_areChainsSound_55 : decode cX1_areChainsSound 55 = .ok (.ireturn, 1) := by decide +kernel
theorem dX1_areChainsSound_56 : decode cX1_areChainsSound 56 = .ok (.iinc 3 1, 3) := by decide +kernel
theorem dX1_areChainsSound_59 : decode cX1_areChainsSound 59 = .ok (.goto (-29), 3) := by decide +kernel
theorem dX1_areChainsSound_62 : decode cX1_areChainsSound 62 = .ok (.iinc 2 1, 3) := by decide +kernel
theorem dX1_areChainsSound_65 : decode cX1_areChainsSound 65 = .ok (.goto (-55), 3) := by decide +kernel
theorem dX1_areChainsSound_68 : decode cX1_areChainsSound 68 = .ok (.iinc 1 1, 3) := by decide +kernel
theorem dX1_areChainsSound_71 : decode cX1_areChainsSound 71 = .ok (.goto (-69), 3) := by decide +kernel
theorem dX1_areChainsSound_74 : decode cX1_areChainsSound 74 = .ok (.iconst 1, 1) := by decide +kernel
theorem dX1_areChainsSound_75 : decode cX1_areChainsSound 75 = .ok (.ireturn, 1) := by decide +kernel
theorem dX1_isThereAhead_0 : decode cX1_isThereAhead 0 = .ok (.aload_n 0, 1) := by decide +kernel
theorem dX1_isThereAhead_1 : decode cX1_isThereAhead 1 = .ok (.iload_n 1, 1) := by decide +kernel
theorem dX1_isThereAhead_2 : decode cX1_isThereAhead 2 = .ok (.invokevirtual 9, 3) := by decide +kernel
theorem dX1_isThereAhead_5 : decode cX1_isThereAhead 5 = .ok (.ifCond .ne 24, 3) := by decide +kernel
theorem dX1_isThereAhead_8 : decode cX1_isThereAhead 8 = .ok (.aload_n 0, 1) := by decide +kernel
theorem dX1_isThereAhead_9 : decode cX1_isThereAhead 9 = .ok (.iload_n 2, 1) := by decide +kernel
theorem dX1_isThereAhead_10 : decode cX1_isThereAhead 10 = .ok (.invokevirtual 9, 3) := by decide +kernel
theorem dX1_isThereAhead_13 : decode cX1_isThereAhead 13 = .ok (.ifCond .ne 16, 3) := by decide +kernel
theorem dX1_isThereAhead_16 : decode cX1_isThereAhead 16 = .ok (.aload_n 0, 1) := by decide +kernel
theorem dX1_isThereAhead_17 : decode cX1_isThereAhead 17 = .ok (.iload_n 1, 1) := by decide +kernel
theorem dX1_isThereAhead_18 : decode cX1_isThereAhead 18 = .ok (.iload_n 2, 1) := by decide +kernel
theorem dX1_isThereAhead_19 : decode cX1_isThereAhead 19 = .ok (.invokevirtual 75, 3) := by decide +kernel
theorem dX1_isThereAhead_22 : decode cX1_isThereAhead 22 = .ok (.ifCond .ge 7, 3) := by decide +kernel
theorem dX1_isThereAhead_25 : decode cX1_isThereAhead 25 = .ok (.iconst 1, 1) := by decide +kernel
theorem dX1_isThereAhead_26 : decode cX1_isThereAhead 26 = .ok (.goto 4, 3) := by decide +kernel
theorem dX1_isThereAhead_29 : decode cX1_isThereAhead 29 = .ok (.iconst 0, 1) := by decide +kernel
theorem dX1_isThereAhead_30 : decode cX1_isThereAhead 30 = .ok (.ireturn, 1) := by decide +kernel
theorem dX2_init_0 : decode cX2_init 0 = .ok (.aload_n 0, 1) := by decide +kernel
theorem dX2_init_1 : decode cX2_init 1 = .ok (.invokespecial 3, 3) := by decide +kernel
theorem dX2_init_4 : decode cX2_init 4 = .ok (.aload_n 0, 1) := by decide +kernel
theorem dX2_init_5 : decode cX2_init 5 = .ok (.bipush 9, 2) := by decide +kernel
theorem dX2_init_7 : decode cX2_init 7 = .ok (.newarray .int, 2) := by decide +kernel
theorem dX2_init_9 : decode cX2_init 9 = .ok (.putfield 9, 3) := by decide +kernel
theorem dX2_init_12 : decode cX2_init 12 = .ok (.aload_n 0, 1) := by decide +kernel
theorem dX2_init_13 : decode cX2_init 13 = .ok (.sipush 216, 3) := by decide +kernel
theorem dX2_init_16 : decode cX2_init 16 = .ok (.newarray .int, 2) := by decide +kernel
theorem dX2_init_18 : decode cX2_init 18 = .ok (.putfield 15, 3) := by decide +kernel
theorem dX2_init_21 : decode cX2_init 21 = .ok (.aload_n 0, 1) := by decide +kernel
theorem dX2_init_22 : decode cX2_init 22 = .ok (.bipush 24, 2) := by decide +kernel
theorem dX2_init_24 : decode cX2_init 24 = .ok (.newarray .int, 2) := by decide +kernel
theorem dX2_init_26 : decode cX2_init 26 = .ok (.putfield 18, 3) := by decide +kernel
theorem dX2_init_29 : decode cX2_init 29 = .ok (.return_, 1) := by decide +kernel
theorem dX2_isAway_0 : decode cX2_isAway 0 = .ok (.aload_n 0, 1) := by decide +kernel
theorem dX2_isAway_1 : decode cX2_isAway 1 = .ok (.getfield 9, 3) := by decide +kernel
theorem dX2_isAway_4 : decode cX2_isAway 4 = .ok (.iload_n 1, 1) := by decide +kernel
theorem dX2_isAway_5 : decode cX2_isAway 5 = .ok (.iaload, 1) := by decide +kernel
theorem dX2_isAway_6 : decode cX2_isAway 6 = .ok (.iconst (-1), 1) := by decide +kernel
theorem dX2_isAway_7 : decode cX2_isAway 7 = .ok (.if_icmp .ne 7, 3) := by decide +kernel
theorem dX2_isAway_10 : decode cX2_isAway 10 = .ok (.iconst 1, 1) := by decide +kernel
theorem dX2_isAway_11 : decode cX2_isAway 11 = .ok (.goto 4, 3) := by decide +kernel
theorem dX2_isAway_14 : decode cX2_isAway 14 = .ok (.iconst 0, 1) := by decide +kernel
theorem dX2_isAway_15 : decode cX2_isAway 15 = .ok (.ireturn, 1) := by decide +kernel
theorem dX2_size_0 : decode cX2_size 0 = .ok (.aload_n 0, 1) := by decide +kernel
theorem dX2_size_1 : decode cX2_size 1 = .ok (.getfield 9, 3) := by decide +kernel
theorem dX2_size_4 : decode cX2_size 4 = .ok (.iload_n 1, 1) := by decide +kernel
theorem dX2_size_5 : decode cX2_size 5 = .ok (.iaload, 1) := by decide +kernel
theorem dX2_size_6 : decode cX2_size 6 = .ok (.ireturn, 1) := by decide +kernel
theorem dX2_sign_0 : decode cX2_sign 0 = .ok (.aload_n 0, 1) := by decide +kernel
theorem dX2_sign_1 : decode cX2_sign 1 = .ok (.getfield 15, 3) := by decide +kernel
theorem dX2_sign_4 : decode cX2_sign 4 = .ok (.iload_n 1, 1) := by decide +kernel
theorem dX2_sign_5 : decode cX2_sign 5 = .ok (.bipush 24, 2) := by decide +kernel
theorem dX2_sign_7 : decode cX2_sign 7 = .ok (.imul, 1) := by decide +kernel
theorem dX2_sign_8 : decode cX2_sign 8 = .ok (.iload_n 2, 1) := by decide +kernel
theorem dX2_sign_9 : decode cX2_sign 9 = .ok (.iadd, 1) := by decide +kernel
theorem dX2_sign_10 : decode cX2_sign 10 = .ok (.iaload, 1) := by decide +kernel
theorem dX2_sign_11 : decode cX2_sign 11 = .ok (.ireturn, 1) := by decide +kernel
theorem dX2_change_0 : decode cX2_change 0 = .ok (.aload_n 0, 1) := by decide +kernel
theorem dX2_change_1 : decode cX2_change 1 = .ok (.getfield 15, 3) := by decide +kernel
theorem dX2_change_4 : decode cX2_change 4 = .ok (.iload_n 1, 1) := by decide +kernel
theorem dX2_change_5 : decode cX2_change 5 = .ok (.bipush 24, 2) := by decide +kernel
theorem dX2_change_7 : decode cX2_change 7 = .ok (.imul, 1) := by decide +kernel
theorem dX2_change_8 : decode cX2_change 8 = .ok (.iload_n 2, 1) := by decide +kernel
theorem dX2_change_9 : decode cX2_change 9 = .ok (.iadd, 1) := by decide +kernel
theorem dX2_change_10 : decode cX2_change 10 = .ok (.iload_n 3, 1) := by decide +kernel
theorem dX2_change_11 : decode cX2_change 11 = .ok (.iastore, 1) := by decide +kernel
theorem dX2_change_12 : decode cX2_change 12 = .ok (.return_, 1) := by decide +kernel
theorem dX2_clear_0 : decode cX2_clear 0 = .ok (.aload_n 0, 1) := by decide +kernel
theorem dX2_clear_1 : decode cX2_clear 1 = .ok (.getfield 9, 3) := by decide +kernel
theorem dX2_clear_4 : decode cX2_clear 4 = .ok (.iload_n 1, 1) := by decide +kernel
theorem dX2_clear_5 : decode cX2_clear 5 = .ok (.iconst 0, 1) := by decide +kernel
theorem dX2_clear_6 : decode cX2_clear 6 = .ok (.iastore, 1) := by decide +kernel
theorem dX2_clear_7 : decode cX2_clear 7 = .ok (.return_, 1) := by decide +kernel
theorem dX2_remove_0 : decode cX2_remove 0 = .ok (.aload_n 0, 1) := by decide +kernel
theorem dX2_remove_1 : decode cX2_remove 1 = .ok (.getfield 9, 3) := by decide +kernel
theorem dX2_remove_4 : decode cX2_remove 4 = .ok (.iload_n 1, 1) := by decide +kernel
theorem dX2_remove_5 : decode cX2_remove 5 = .ok (.iconst (-1), 1) := by decide +kernel
theorem dX2_remove_6 : decode cX2_remove 6 = .ok (.iastore, 1) := by decide +kernel
theorem dX2_remove_7 : decode cX2_remove 7 = .ok (.return_, 1) := by decide +kernel
theorem dX2_add_0 : decode cX2_add 0 = .ok (.aload_n 0, 1) := by decide +kernel
theorem dX2_add_1 : decode cX2_add 1 = .ok (.iload_n 1, 1) := by decide +kernel
theorem dX2_add_2 : decode cX2_add 2 = .ok (.aload_n 0, 1) := by decide +kernel
theorem dX2_add_3 : decode cX2_add 3 = .ok (.getfield 9, 3) := by decide +kernel
theorem dX2_add_6 : decode cX2_add 6 = .ok (.iload_n 1, 1) := by decide +kernel
theorem dX2_add_7 : decode cX2_add 7 = .ok (.iaload, 1) := by decide +kernel
theorem dX2_add_8 : decode cX2_add 8 = .ok (.iload_n 2, 1) := by decide +kernel
theorem dX2_add_9 : decode cX2_add 9 = .ok (.invokevirtual 21, 3) := by decide +kernel
theorem dX2_add_12 : decode cX2_add 12 = .ok (.aload_n 0, 1) := by decide +kernel
theorem dX2_add_13 : decode cX2_add 13 = .ok (.getfield 9, 3) := by decide +kernel
theorem dX2_add_16 : decode cX2_add 16 = .ok (.iload_n 1, 1) := by decide +kernel
theorem dX2_add_17 : decode cX2_add 17 = .ok (.dup2, 1) := by decide +kernel
theorem dX2_add_18 : decode cX2_add 18 = .ok (.iaload, 1) := by decide +kernel
theorem dX2_add_19 : decode cX2_add 19 = .ok (.iconst 1, 1) := by decide +kernel
theorem dX2_add_20 : decode cX2_add 20 = .ok (.iadd, 1) := by decide +kernel
theorem dX2_add_21 : decode cX2_add 21 = .ok (.iastore, 1) := by decide +kernel
theorem dX2_add_22 : decode cX2_add 22 = .ok (.return_, 1) := by decide +kernel
theorem dX2_become_0 : decode cX2_become 0 = .ok (.iconst 0, 1) := by decide +kernel
theorem dX2_become_1 : decode cX2_become 1 = .ok (.istore_n 3, 1) := by decide +kernel
theorem dX2_become_2 : decode cX2_become 2 = .ok (.iload_n 3, 1) := by decide +kernel
theorem dX2_become_3 : decode cX2_become 3 = .ok (.aload_n 0, 1) := by decide +kernel
theorem dX2_become_4 : decode cX2_become 4 = .ok (.getfield 9, 3) := by decide +kernel
theorem dX2_become_7 : decode cX2_become 7 = .ok (.iload_n 2, 1) := by decide +kernel
theorem dX2_become_8 : decode cX2_become 8 = .ok (.iaload, 1) := by decide +kernel
theorem dX2_become_9 : decode cX2_become 9 = .ok (.if_icmp .ge 21, 3) := by decide +kernel
theorem dX2_become_12 : decode cX2_become 12 = .ok (.aload_n 0, 1) := by decide +kernel
theorem dX2_become_13 : decode cX2_become 13 = .ok (.iload_n 1, 1) := by decide +kernel
theorem dX2_become_14 : decode cX2_become 14 = .ok (.iload_n 3, 1) := by decide +kernel
theorem dX2_become_15 : decode cX2_become 15 = .ok (.aload_n 0, 1) := by decide +kernel
theorem dX2_become_16 : decode cX2_become 16 = .ok (.iload_n 2, 1) := by decide +kernel
theorem dX2_become_17 : decode cX2_become 17 = .ok (.iload_n 3, 1) := by decide +kernel
theorem dX2_become_18 : decode cX2_become 18 = .ok (.invokevirtual 25, 3) := by decide +kernel
theorem dX2_become_21 : decode cX2_become 21 = .ok (.invokevirtual 21, 3) := by decide +kernel
theorem dX2_become_24 : decode cX2_become 24 = .ok (.iinc 3 1, 3) := by decide +kernel
theorem dX2_become_27 : decode cX2_become 27 = .ok (.goto (-25), 3) := by decide +kernel
theorem dX2_become_30 : decode cX2_become 30 = .ok (.aload_n 0, 1) := by decide +kernel
theorem dX2_become_31 : decode cX2_become 31 = .ok (.getfield 9, 3) := by decide +kernel
theorem dX2_become_34 : decode cX2_become 34 = .ok (.iload_n 1, 1) := by decide +kernel
theorem dX2_become_35 : decode cX2_become 35 = .ok (.aload_n 0, 1) := by decide +kernel
theorem dX2_become_36 : decode cX2_become 36 = .ok (.getfield 9, 3) := by decide +kernel
theorem dX2_become_39 : decode cX2_become 39 = .ok (.iload_n 2, 1) := by decide +kernel
theorem dX2_become_40 : decode cX2_become 40 = .ok (.iaload, 1) := by decide +kernel
theorem dX2_become_41 : decode cX2_become 41 = .ok (.iastore, 1) := by decide +kernel
theorem dX2_become_42 : decode cX2_become 42 = .ok (.return_, 1) := by decide +kernel
theorem dX2_keep_0 : decode cX2_keep 0 = .ok (.aload_n 0, 1) := by decide +kernel
theorem dX2_keep_1 : decode cX2_keep 1 = .ok (.iload_n 1, 1) := by decide +kernel
theorem dX2_keep_2 : decode cX2_keep 2 = .ok (.iload_n 2, 1) := by decide +kernel
theorem dX2_keep_3 : decode cX2_keep 3 = .ok (.iload_n 3, 1) := by decide +kernel
theorem dX2_keep_4 : decode cX2_keep 4 = .ok (.invokevirtual 29, 3) := by decide +kernel
theorem dX2_keep_7 : decode cX2_keep 7 = .ok (.istore 4, 2) := by decide +kernel
theorem dX2_keep_9 : decode cX2_keep 9 = .ok (.iconst 0, 1) := by decide +kernel
theorem dX2_keep_10 : decode cX2_keep 10 = .ok (.istore 5, 2) := by decide +kernel
theorem dX2_keep_12 : decode cX2_keep 12 = .ok (.iload 5, 2) := by decide +kernel
theorem dX2_keep_14 : decode cX2_keep 14 = .ok (.iload 4, 2) := by decide +kernel
theorem dX2_keep_16 : decode cX2_keep 16 = .ok (.if_icmp .ge 23, 3) := by decide +kernel
theorem dX2_keep_19 : decode cX2_keep 19 = .ok (.aload_n 0, 1) := by decide +kernel
theorem dX2_keep_20 : decode cX2_keep 20 = .ok (.iload_n 1, 1) := by decide +kernel
theorem dX2_keep_21 : decode cX2_keep 21 = .ok (.iload 5, 2) := by decide +kernel
theorem dX2_keep_23 : decode cX2_keep 23 = .ok (.aload_n 0, 1) := by decide +kernel
theorem dX2_keep_24 : decode cX2_keep 24 = .ok (.getfield 18, 3) := by decide +kernel
theorem dX2_keep_27 : decode cX2_keep 27 = .ok (.iload 5, 2) := by decide +kernel
theorem dX2_keep_29 : decode cX2_keep 29 = .ok (.iaload, 1) := by decide +kernel
theorem dX2_keep_30 : decode cX2_keep 30 = .ok (.invokevirtual 21, 3) := by decide +kernel
theorem dX2_keep_33 : decode cX2_keep 33 = .ok (.iinc 5 1, 3) := by decide +kernel
theorem dX2_keep_36 : decode cX2_keep 36 = .ok (.goto (-24), 3) := by decide +kernel
theorem dX2_keep_39 : decode cX2_keep 39 = .ok (.aload_n 0, 1) := by decide +kernel
theorem dX2_keep_40 : decode cX2_keep 40 = .ok (.getfield 9, 3) := by decide +kernel
theorem dX2_keep_43 : decode cX2_keep 43 = .ok (.iload_n 1, 1) := by decide +kernel
theorem dX2_keep_44 : decode cX2_keep 44 = .ok (.iload 4, 2) := by decide +kernel
theorem dX2_keep_46 : decode cX2_keep 46 = .ok (.iastore, 1) := by decide +kernel
theorem dX2_keep_47 : decode cX2_keep 47 = .ok (.iload 4, 2) := by decide +kernel
theorem dX2_keep_49 : decode cX2_keep 49 = .ok (.ireturn, 1) := by decide +kernel
theorem dX2_lay_0 : decode cX2_lay 0 = .ok (.iconst 0, 1) := by decide +kernel
theorem dX2_lay_1 : decode cX2_lay 1 = .ok (.istore 4, 2) := by decide +kernel
theorem dX2_lay_3 : decode cX2_lay 3 = .ok (.iload_n 2, 1) := by decide +kernel
theorem dX2_lay_4 : decode cX2_lay 4 = .ok (.istore 5, 2) := by decide +kernel
theorem dX2_lay_6 : decode cX2_lay 6 = .ok (.iload 5, 2) := by decide +kernel
theorem dX2_lay_8 : decode cX2_lay 8 = .ok (.iload_n 3, 1) := by decide +kernel
theorem dX2_lay_9 : decode cX2_lay 9 = .ok (.if_icmp .ge 26, 3) := by decide +kernel
theorem dX2_lay_12 : decode cX2_lay 12 = .ok (.aload_n 0, 1) := by decide +kernel
theorem dX2_lay_13 : decode cX2_lay 13 = .ok (.getfield 18, 3) := by decide +kernel
theorem dX2_lay_16 : decode cX2_lay 16 = .ok (.iload 4, 2) := by decide +kernel
theorem dX2_lay_18 : decode cX2_lay 18 = .ok (.aload_n 0, 1) := by decide +kernel
theorem dX2_lay_19 : decode cX2_lay 19 = .ok (.iload_n 1, 1) := by decide +kernel
theorem dX2_lay_20 : decode cX2_lay 20 = .ok (.iload 5, 2) := by decide +kernel
theorem dX2_lay_22 : decode cX2_lay 22 = .ok (.invokevirtual 25, 3) := by decide +kernel
theorem dX2_lay_25 : decode cX2_lay 25 = .ok (.iastore, 1) := by decide +kernel
theorem dX2_lay_26 : decode cX2_lay 26 = .ok (.iinc 4 1, 3) := by decide +kernel
theorem dX2_lay_29 : decode cX2_lay 29 = .ok (.iinc 5 1, 3) := by decide +kernel
theorem dX2_lay_32 : decode cX2_lay 32 = .ok (.goto (-26), 3) := by decide +kernel
theorem dX2_lay_35 : decode cX2_lay 35 = .ok (.iload 4, 2) := by decide +kernel
theorem dX2_lay_37 : decode cX2_lay 37 = .ok (.ireturn, 1) := by decide +kernel
theorem dX2_spell_0 : decode cX2_spell 0 = .ok (.aload_n 0, 1) := by decide +kernel
theorem dX2_spell_1 : decode cX2_spell 1 = .ok (.iload_n 1, 1) := by decide +kernel
theorem dX2_spell_2 : decode cX2_spell 2 = .ok (.iload_n 2, 1) := by decide +kernel
theorem dX2_spell_3 : decode cX2_spell 3 = .ok (.iload_n 3, 1) := by decide +kernel
theorem dX2_spell_4 : decode cX2_spell 4 = .ok (.invokevirtual 29, 3) := by decide +kernel
theorem dX2_spell_7 : decode cX2_spell 7 = .ok (.istore 4, 2) := by decide +kernel
theorem dX2_spell_9 : decode cX2_spell 9 = .ok (.new 33, 3) := by decide +kernel
theorem dX2_spell_12 : decode cX2_spell 12 = .ok (.dup, 1) := by decide +kernel
theorem dX2_spell_13 : decode cX2_spell 13 = .ok (.invokespecial 35, 3) := by decide +kernel
theorem dX2_spell_16 : decode cX2_spell 16 = .ok (.astore 5, 2) := by decide +kernel
theorem dX2_spell_18 : decode cX2_spell 18 = .ok (.iconst 0, 1) := by decide +kernel
theorem dX2_spell_19 : decode cX2_spell 19 = .ok (.istore 6, 2) := by decide +kernel
theorem dX2_spell_21 : decode cX2_spell 21 = .ok (.iload 6, 2) := by decide +kernel
theorem dX2_spell_23 : decode cX2_spell 23 = .ok (.iload 4, 2) := by decide +kernel
theorem dX2_spell_25 : decode cX2_spell 25 = .ok (.if_icmp .ge 27, 3) := by decide +kernel
theorem dX2_spell_28 : decode cX2_spell 28 = .ok (.aload 5, 2) := by decide +kernel
theorem dX2_spell_30 : decode cX2_spell 30 = .ok (.getstatic 36, 3) := by decide +kernel
theorem dX2_spell_33 : decode cX2_spell 33 = .ok (.aload_n 0, 1) := by decide +kernel
theorem dX2_spell_34 : decode cX2_spell 34 = .ok (.getfield 18, 3) := by decide +kernel
theorem dX2_spell_37 : decode cX2_spell 37 = .ok (.iload 6, 2) := by decide +kernel
theorem dX2_spell_39 : decode cX2_spell 39 = .ok (.iaload, 1) := by decide +kernel
theorem dX2_spell_40 : decode cX2_spell 40 = .ok (.iaload, 1) := by decide +kernel
theorem dX2_spell_41 : decode cX2_spell 41 = .ok (.i2c, 1) := by decide +kernel
theorem dX2_spell_42 : decode cX2_spell 42 = .ok (.invokevirtual 39, 3) := by decide +kernel
theorem dX2_spell_45 : decode cX2_spell 45 = .ok (.pop, 1) := by decide +kernel
theorem dX2_spell_46 : decode cX2_spell 46 = .ok (.iinc 6 1, 3) := by decide +kernel
theorem dX2_spell_49 : decode cX2_spell 49 = .ok (.goto (-28), 3) := by decide +kernel
theorem dX2_spell_52 : decode cX2_spell 52 = .ok (.aload 5, 2) := by decide +kernel
theorem dX2_spell_54 : decode cX2_spell 54 = .ok (.invokevirtual 43, 3) := by decide +kernel
theorem dX2_spell_57 : decode cX2_spell 57 = .ok (.areturn, 1) := by decide +kernel
theorem dX2_spellAll_0 : decode cX2_spellAll 0 = .ok (.aload_n 0, 1) := by decide +kernel
theorem dX2_spellAll_1 : decode cX2_spellAll 1 = .ok (.iload_n 1, 1) := by decide +kernel
theorem dX2_spellAll_2 : decode cX2_spellAll 2 = .ok (.iconst 0, 1) := by decide +kernel
theorem dX2_spellAll_3 : decode cX2_spellAll 3 = .ok (.aload_n 0, 1) := by decide +kernel
theorem dX2_spellAll_4 : decode cX2_spellAll 4 = .ok (.getfield 9, 3) := by decide +kernel
theorem dX2_spellAll_7 : decode cX2_spellAll 7 = .ok (.iload_n 1, 1) := by decide +kernel
theorem dX2_spellAll_8 : decode cX2_spellAll 8 = .ok (.iaload, 1) := by decide +kernel
theorem dX2_spellAll_9 : decode cX2_spellAll 9 = .ok (.invokevirtual 47, 3) := by decide +kernel
theorem dX2_spellAll_12 : decode cX2_spellAll 12 = .ok (.areturn, 1) := by decide +kernel
theorem dX2_compared_0 : decode cX2_compared 0 = .ok (.aload_n 0, 1) := by decide +kernel
theorem dX2_compared_1 : decode cX2_compared 1 = .ok (.iconst 0, 1) := by decide +kernel
theorem dX2_compared_2 : decode cX2_compared 2 = .ok (.iload_n 1, 1) := by decide +kernel
theorem dX2_compared_3 : decode cX2_compared 3 = .ok (.aload_n 0, 1) := by decide +kernel
theorem dX2_compared_4 : decode cX2_compared 4 = .ok (.getfield 9, 3) := by decide +kernel
theorem dX2_compared_7 : decode cX2_compared 7 = .ok (.iload_n 1, 1) := by decide +kernel
theorem dX2_compared_8 : decode cX2_compared 8 = .ok (.iaload, 1) := by decide +kernel
theorem dX2_compared_9 : decode cX2_compared 9 = .ok (.iload_n 2, 1) := by decide +kernel
theorem dX2_compared_10 : decode cX2_compared 10 = .ok (.aload_n 0, 1) := by decide +kernel
theorem dX2_compared_11 : decode cX2_compared 11 = .ok (.getfield 9, 3) := by decide +kernel
theorem dX2_compared_14 : decode cX2_compared 14 = .ok (.iload_n 2, 1) := by decide +kernel
theorem dX2_compared_15 : decode cX2_compared 15 = .ok (.iaload, 1) := by decide +kernel
theorem dX2_compared_16 : decode cX2_compared 16 = .ok (.invokevirtual 51, 3) := by decide +kernel
theorem dX2_compared_19 : decode cX2_compared 19 = .ok (.ireturn, 1) := by decide +kernel
theorem dX2_comparedFrom_0 : decode cX2_comparedFrom 0 = .ok (.iload_n 3, 1) := by decide +kernel
theorem dX2_comparedFrom_1 : decode cX2_comparedFrom 1 = .ok (.iload 5, 2) := by decide +kernel
theorem dX2_comparedFrom_3 : decode cX2_comparedFrom 3 = .ok (.invokestatic 55, 3) := by decide +kernel
theorem dX2_comparedFrom_6 : decode cX2_comparedFrom 6 = .ok (.istore 6, 2) := by decide +kernel
theorem dX2_comparedFrom_8 : decode cX2_comparedFrom 8 = .ok (.iload_n 1, 1) := by decide +kernel
theorem dX2_comparedFrom_9 : decode cX2_comparedFrom 9 = .ok (.istore 7, 2) := by decide +kernel
theorem dX2_comparedFrom_11 : decode cX2_comparedFrom 11 = .ok (.iload 7, 2) := by decide +kernel
theorem dX2_comparedFrom_13 : decode cX2_comparedFrom 13 = .ok (.iload 6, 2) := by decide +kernel
theorem dX2_comparedFrom_15 : decode cX2_comparedFrom 15 = .ok (.if_icmp .ge 37, 3) := by decide +kernel
theorem dX2_comparedFrom_18 : decode cX2_comparedFrom 18 = .ok (.aload_n 0, 1) := by decide +kernel
theorem dX2_comparedFrom_19 : decode cX2_comparedFrom 19 = .ok (.iload_n 2, 1) := by decide +kernel
theorem dX2_comparedFrom_20 : decode cX2_comparedFrom 20 = .ok (.iload 7, 2) := by decide +kernel
theorem dX2_comparedFrom_22 : decode cX2_comparedFrom 22 = .ok (.invokevirtual 25, 3) := by decide +kernel
theorem dX2_comparedFrom_25 : decode cX2_comparedFrom 25 = .ok (.aload_n 0, 1) := by decide +kernel
theorem dX2_comparedFrom_26 : decode cX2_comparedFrom 26 = .ok (.iload 4, 2) := by decide +kernel
theorem dX2_comparedFrom_28 : decode cX2_comparedFrom 28 = .ok (.iload 7, 2) := by decide +kernel
theorem dX2_comparedFrom_30 : decode cX2_comparedFrom 30 = .ok (.invokevirtual 25, 3) := by decide +kernel
theorem dX2_comparedFrom_33 : decode cX2_comparedFrom 33 = .ok (.invokestatic 60, 3) := by decide +kernel
theorem dX2_comparedFrom_36 : decode cX2_comparedFrom 36 = .ok (.istore 8, 2) := by decide +kernel
theorem dX2_comparedFrom_38 : decode cX2_comparedFrom 38 = .ok (.iload 8, 2) := by decide +kernel
theorem dX2_comparedFrom_40 : decode cX2_comparedFrom 40 = .ok (.ifCond .eq 6, 3) := by decide +kernel
theorem dX2_comparedFrom_43 : decode cX2_comparedFrom 43 = .ok (.iload 8, 2) := by decide +kernel
theorem dX2_comparedFrom_45 : decode cX2_comparedFrom 45 = .ok (.ireturn, 1) := by decide +kernel
theorem dX2_comparedFrom_46 : decode cX2_comparedFrom 46 = .ok (.iinc 7 1, 3) := by decide +kernel
theorem dX2_comparedFrom_49 : decode cX2_comparedFrom 49 = .ok (.goto (-38), 3) := by decide +kernel
theorem dX2_comparedFrom_52 : decode cX2_comparedFrom 52 = .ok (.iload_n 3, 1) := by decide +kernel
theorem dX2_comparedFrom_53 : decode cX2_comparedFrom 53 = .ok (.iload 5, 2) := by decide +kernel
theorem dX2_comparedFrom_55 : decode cX2_comparedFrom 55 = .ok (.invokestatic 60, 3) := by decide +kernel
theorem dX2_comparedFrom_58 : decode cX2_comparedFrom 58 = .ok (.ireturn, 1) := by decide +kernel
theorem dX2_ordered_0 : decode cX2_ordered 0 = .ok (.aload_n 0, 1) := by decide +kernel
theorem dX2_ordered_1 : decode cX2_ordered 1 = .ok (.iload_n 1, 1) := by decide +kernel
theorem dX2_ordered_2 : decode cX2_ordered 2 = .ok (.invokevirtual 63, 3) := by decide +kernel
theorem dX2_ordered_5 : decode cX2_ordered 5 = .ok (.ifCond .ne 11, 3) := by decide +kernel
theorem dX2_ordered_8 : decode cX2_ordered 8 = .ok (.aload_n 0, 1) := by decide +kernel
theorem dX2_ordered_9 : decode cX2_ordered 9 = .ok (.iload_n 2, 1) := by decide +kernel
theorem dX2_ordered_10 : decode cX2_ordered 10 = .ok (.invokevirtual 63, 3) := by decide +kernel
theorem dX2_ordered_13 : decode cX2_ordered 13 = .ok (.ifCond .eq 33, 3) := by decide +kernel
theorem dX2_ordered_16 : decode cX2_ordered 16 = .ok (.aload_n 0, 1) := by decide +kernel
theorem dX2_ordered_17 : decode cX2_ordered 17 = .ok (.iload_n 1, 1) := by decide +kernel
theorem dX2_ordered_18 : decode cX2_ordered 18 = .ok (.invokevirtual 63, 3) := by decide +kernel
theorem dX2_ordered_21 : decode cX2_ordered 21 = .ok (.ifCond .eq 7, 3) := by decide +kernel
theorem dX2_ordered_24 : decode cX2_ordered 24 = .ok (.iconst 0, 1) := by decide +kernel
theorem dX2_ordered_25 : decode cX2_ordered 25 = .ok (.goto 4, 3) := by decide +kernel
theorem dX2_ordered_28 : decode cX2_ordered 28 = .ok (.iconst 1, 1) := by decide +kernel
theorem dX2_ordered_29 : decode cX2_ordered 29 = .ok (.aload_n 0, 1) := by decide +kernel
theorem dX2_ordered_30 : decode cX2_ordered 30 = .ok (.iload_n 2, 1) := by decide +kernel
theorem dX2_ordered_31 : decode cX2_ordered 31 = .ok (.invokevirtual 63, 3) := by decide +kernel
theorem dX2_ordered_34 : decode cX2_ordered 34 = .ok (.ifCond .eq 7, 3) := by decide +kernel
theorem dX2_ordered_37 : decode cX2_ordered 37 = .ok (.iconst 0, 1) := by decide +kernel
theorem dX2_ordered_38 : decode cX2_ordered 38 = .ok (.goto 4, 3) := by decide +kernel
theorem dX2_ordered_41 : decode cX2_ordered 41 = .ok (.iconst 1, 1) := by decide +kernel
theorem dX2_ordered_42 : decode cX2_ordered 42 = .ok (.invokestatic 60, 3) := by decide +kernel
theorem dX2_ordered_45 : decode cX2_ordered 45 = .ok (.ireturn, 1) := by decide +kernel
theorem dX2_ordered_46 : decode cX2_ordered 46 = .ok (.iload_n 3, 1) := by decide +kernel
theorem dX2_ordered_47 : decode cX2_ordered 47 = .ok (.tableswitch 79 0 2 #[25, 32, 39], 25) := by decide +kernel
theorem dX2_ordered_72 : decode cX2_ordered 72 = .ok (.aload_n 0, 1) := by decide +kernel
theorem dX2_ordered_73 : decode cX2_ordered 73 = .ok (.iload_n 1, 1) := by decide +kernel
theorem dX2_ordered_74 : decode cX2_ordered 74 = .ok (.iload_n 2, 1) := by decide +kernel
theorem dX2_ordered_75 : decode cX2_ordered 75 = .ok (.invokevirtual 67, 3) := by decide +kernel
theorem dX2_ordered_78 : decode cX2_ordered 78 = .ok (.ireturn, 1) := by decide +kernel
theorem dX2_ordered_79 : decode cX2_ordered 79 = .ok (.aload_n 0, 1) := by decide +kernel
theorem dX2_ordered_80 : decode cX2_ordered 80 = .ok (.iload_n 2, 1) := by decide +kernel
theorem dX2_ordered_81 : decode cX2_ordered 81 = .ok (.iload_n 1, 1) := by decide +kernel
theorem dX2_ordered_82 : decode cX2_ordered 82 = .ok (.invokevirtual 67, 3) := by decide +kernel
theorem dX2_ordered_85 : decode cX2_ordered 85 = .ok (.ireturn, 1) := by decide +kernel
theorem dX2_ordered_86 : decode cX2_ordered 86 = .ok (.aload_n 0, 1) := by decide +kernel
theorem dX2_ordered_87 : decode cX2_ordered 87 = .ok (.getfield 9, 3) := by decide +kernel
theorem dX2_ordered_90 : decode cX2_ordered 90 = .ok (.iload_n 1, 1) := by decide +kernel
theorem dX2_ordered_91 : decode cX2_ordered 91 = .ok (.iaload, 1) := by decide +kernel
theorem dX2_ordered_92 : decode cX2_ordered 92 = .ok (.aload_n 0, 1) := by decide +kernel
theorem dX2_ordered_93 : decode cX2_ordered 93 = .ok (.getfield 9, 3) := by decide +kernel
theorem dX2_ordered_96 : decode cX2_ordered 96 = .ok (.iload_n 2, 1) := by decide +kernel
theorem dX2_ordered_97 : decode cX2_ordered 97 = .ok (.iaload, 1) := by decide +kernel
theorem dX2_ordered_98 : decode cX2_ordered 98 = .ok (.if_icmp .ne 12, 3) := by decide +kernel
theorem dX2_ordered_101 : decode cX2_ordered 101 = .ok (.aload_n 0, 1) := by decide +kernel
theorem dX2_ordered_102 : decode cX2_ordered 102 = .ok (.iload_n 1, 1) := by decide +kernel
theorem dX2_ordered_103 : decode cX2_ordered 103 = .ok (.iload_n 2, 1) := by decide +kernel
theorem dX2_ordered_104 : decode cX2_ordered 104 = .ok (.invokevirtual 67, 3) := by decide +kernel
theorem dX2_ordered_107 : decode cX2_ordered 107 = .ok (.goto 18, 3) := by decide +kernel
theorem dX2_ordered_110 : decode cX2_ordered 110 = .ok (.aload_n 0, 1) := by decide +kernel
theorem dX2_ordered_111 : decode cX2_ordered 111 = .ok (.getfield 9, 3) := by decide +kernel
theorem dX2_ordered_114 : decode cX2_ordered 114 = .ok (.iload_n 1, 1) := by decide +kernel
theorem dX2_ordered_115 : decode cX2_ordered 115 = .ok (.iaload, 1) := by decide +kernel
theorem dX2_ordered_116 : decode cX2_ordered 116 = .ok (.aload_n 0, 1) := by decide +kernel
theorem dX2_ordered_117 : decode cX2_ordered 117 = .ok (.getfield 9, 3) := by decide +kernel
theorem dX2_ordered_120 : decode cX2_ordered 120 = .ok (.iload_n 2, 1) := by decide +kernel
theorem dX2_ordered_121 : decode cX2_ordered 121 = .ok (.iaload, 1) := by decide +kernel
theorem dX2_ordered_122 : decode cX2_ordered 122 = .ok (.invokestatic 60, 3) := by decide +kernel
theorem dX2_ordered_125 : decode cX2_ordered 125 = .ok (.ireturn, 1) := by decide +kernel
theorem dX2_ordered_126 : decode cX2_ordered 126 = .ok (.aload_n 0, 1) := by decide +kernel
theorem dX2_ordered_127 : decode cX2_ordered 127 = .ok (.iload_n 1, 1) := by decide +kernel
theorem dX2_ordered_128 : decode cX2_ordered 128 = .ok (.bipush 6, 2) := by decide +kernel
theorem dX2_ordered_130 : decode cX2_ordered 130 = .ok (.invokevirtual 70, 3) := by decide +kernel
theorem dX2_ordered_133 : decode cX2_ordered 133 = .ok (.aload_n 0, 1) := by decide +kernel
theorem dX2_ordered_134 : decode cX2_ordered 134 = .ok (.iload_n 2, 1) := by decide +kernel
theorem dX2_ordered_135 : decode cX2_ordered 135 = .ok (.bipush 6, 2) := by decide +kernel
theorem dX2_ordered_137 : decode cX2_ordered 137 = .ok (.invokevirtual 70, 3) := by decide +kernel
theorem dX2_ordered_140 : decode cX2_ordered 140 = .ok (.invokestatic 60, 3) := by decide +kernel
theorem dX2_ordered_143 : decode cX2_ordered 143 = .ok (.ireturn, 1) := by decide +kernel
theorem dX2_haveSameSigns_0 : decode cX2_haveSameSigns 0 = .ok (.aload_n 0, 1) := by decide +kernel
theorem dX2_haveSameSigns_1 : decode cX2_haveSameSigns 1 = .ok (.getfield 9, 3) := by decide +kernel
theorem dX2_haveSameSigns_4 : decode cX2_haveSameSigns 4 = .ok (.iload_n 1, 1) := by decide +kernel
theorem dX2_haveSameSigns_5 : decode cX2_haveSameSigns 5 = .ok (.iaload, 1) := by decide +kernel
theorem dX2_haveSameSigns_6 : decode cX2_haveSameSigns 6 = .ok (.aload_n 0, 1) := by decide +kernel
theorem dX2_haveSameSigns_7 : decode cX2_haveSameSigns 7 = .ok (.getfield 9, 3) := by decide +kernel
theorem dX2_haveSameSigns_10 : decode cX2_haveSameSigns 10 = .ok (.iload_n 2, 1) := by decide +kernel
theorem dX2_haveSameSigns_11 : decode cX2_haveSameSigns 11 = .ok (.iaload, 1) := by decide +kernel
theorem dX2_haveSameSigns_12 : decode cX2_haveSameSigns 12 = .ok (.if_icmp .eq 5, 3) := by decide +kernel
theorem dX2_haveSameSigns_15 : decode cX2_haveSameSigns 15 = .ok (.iconst 0, 1) := by decide +kernel
theorem dX2_haveSameSigns_16 : decode cX2_haveSameSigns 16 = .ok (.ireturn, 1) := by decide +kernel
theorem dX2_haveSameSigns_17 : decode cX2_haveSameSigns 17 = .ok (.iconst 0, 1) := by decide +kernel
theorem dX2_haveSameSigns_18 : decode cX2_haveSameSigns 18 = .ok (.istore_n 3, 1) := by decide +kernel
theorem dX2_haveSameSigns_19 : decode cX2_haveSameSigns 19 = .ok (.iload_n 3, 1) := by decide +kernel
theorem dX2_haveSameSigns_20 : decode cX2_haveSameSigns 20 = .ok (.aload_n 0, 1) := by decide +kernel
theorem dX2_haveSameSigns_21 : decode cX2_haveSameSigns 21 = .ok (.getfield 9, 3) := by decide +kernel
theorem dX2_haveSameSigns_24 : decode cX2_haveSameSigns 24 = .ok (.iload_n 1, 1) := by decide +kernel
theorem dX2_haveSameSigns_25 : decode cX2_haveSameSigns 25 = .ok (.iaload, 1) := by decide +kernel
theorem dX2_haveSameSigns_26 : decode cX2_haveSameSigns 26 = .ok (.if_icmp .ge 26, 3) := by decide +kernel
theorem dX2_haveSameSigns_29 : decode cX2_haveSameSigns 29 = .ok (.aload_n 0, 1) := by decide +kernel
theorem dX2_haveSameSigns_30 : decode cX2_haveSameSigns 30 = .ok (.iload_n 1, 1) := by decide +kernel
theorem dX2_haveSameSigns_31 : decode cX2_haveSameSigns 31 = .ok (.iload_n 3, 1) := by decide +kernel
theorem dX2_haveSameSigns_32 : decode cX2_haveSameSigns 32 = .ok (.invokevirtual 25, 3) := by decide +kernel
theorem dX2_haveSameSigns_35 : decode cX2_haveSameSigns 35 = .ok (.aload_n 0, 1) := by decide +kernel
theorem dX2_haveSameSigns_36 : decode cX2_haveSameSigns 36 = .ok (.iload_n 2, 1) := by decide +kernel
theorem dX2_haveSameSigns_37 : decode cX2_haveSameSigns 37 = .ok (.iload_n 3, 1) := by decide +kernel
theorem dX2_haveSameSigns_38 : decode cX2_haveSameSigns 38 = .ok (.invokevirtual 25, 3) := by decide +kernel
theorem dX2_haveSameSigns_41 : decode cX2_haveSameSigns 41 = .ok (.if_icmp .eq 5, 3) := by decide +kernel
theorem dX2_haveSameSigns_44 : decode cX2_haveSameSigns 44 = .ok (.iconst 0, 1) := by decide +kernel
theorem dX2_haveSameSigns_45 : decode cX2_haveSameSigns 45 = .ok (.ireturn, 1) := by decide +kernel
theorem dX2_haveSameSigns_46 : decode cX2_haveSameSigns 46 = .ok (.iinc 3 1, 3) := by decide +kernel
theorem dX2_haveSameSigns_49 : decode cX2_haveSameSigns 49 = .ok (.goto (-30), 3) := by decide +kernel
theorem dX2_haveSameSigns_52 : decode cX2_haveSameSigns 52 = .ok (.iconst 1, 1) := by decide +kernel
theorem dX2_haveSameSigns_53 : decode cX2_haveSameSigns 53 = .ok (.ireturn, 1) := by decide +kernel
theorem dX2_codeOf_0 : decode cX2_codeOf 0 = .ok (.iconst 0, 1) := by decide +kernel
theorem dX2_codeOf_1 : decode cX2_codeOf 1 = .ok (.istore_n 2, 1) := by decide +kernel
theorem dX2_codeOf_2 : decode cX2_codeOf 2 = .ok (.iconst 0, 1) := by decide +kernel
theorem dX2_codeOf_3 : decode cX2_codeOf 3 = .ok (.istore_n 3, 1) := by decide +kernel
theorem dX2_codeOf_4 : decode cX2_codeOf 4 = .ok (.iload_n 3, 1) := by decide +kernel
theorem dX2_codeOf_5 : decode cX2_codeOf 5 = .ok (.aload_n 0, 1) := by decide +kernel
theorem dX2_codeOf_6 : decode cX2_codeOf 6 = .ok (.getfield 9, 3) := by decide +kernel
theorem dX2_codeOf_9 : decode cX2_codeOf 9 = .ok (.iload_n 1, 1) := by decide +kernel
theorem dX2_codeOf_10 : decode cX2_codeOf 10 = .ok (.iaload, 1) := by decide +kernel
theorem dX2_codeOf_11 : decode cX2_codeOf 11 = .ok (.if_icmp .ge 25, 3) := by decide +kernel
theorem dX2_codeOf_14 : decode cX2_codeOf 14 = .ok (.iload_n 2, 1) := by decide +kernel
theorem dX2_codeOf_15 : decode cX2_codeOf 15 = .ok (.bipush 31, 2) := by decide +kernel
theorem dX2_codeOf_17 : decode cX2_codeOf 17 = .ok (.imul, 1) := by decide +kernel
theorem dX2_codeOf_18 : decode cX2_codeOf 18 = .ok (.getstatic 36, 3) := by decide +kernel
theorem dX2_codeOf_21 : decode cX2_codeOf 21 = .ok (.aload_n 0, 1) := by decide +kernel
theorem dX2_codeOf_22 : decode cX2_codeOf 22 = .ok (.iload_n 1, 1) := by decide +kernel
theorem dX2_codeOf_23 : decode cX2_codeOf 23 = .ok (.iload_n 3, 1) := by decide +kernel
theorem dX2_codeOf_24 : decode cX2_codeOf 24 = .ok (.invokevirtual 25, 3) := by decide +kernel
theorem dX2_codeOf_27 : decode cX2_codeOf 27 = .ok (.iaload, 1) := by decide +kernel
theorem dX2_codeOf_28 : decode cX2_codeOf 28 = .ok (.iadd, 1) := by decide +kernel
theorem dX2_codeOf_29 : decode cX2_codeOf 29 = .ok (.istore_n 2, 1) := by decide +kernel
theorem dX2_codeOf_30 : decode cX2_codeOf 30 = .ok (.iinc 3 1, 3) := by decide +kernel
theorem dX2_codeOf_33 : decode cX2_codeOf 33 = .ok (.goto (-29), 3) := by decide +kernel
theorem dX2_codeOf_36 : decode cX2_codeOf 36 = .ok (.iload_n 2, 1) := by decide +kernel
theorem dX2_codeOf_37 : decode cX2_codeOf 37 = .ok (.ireturn, 1) := by decide +kernel
theorem dX2_codeOfThree_0 : decode cX2_codeOfThree 0 = .ok (.bipush 31, 2) := by decide +kernel
theorem dX2_codeOfThree_2 : decode cX2_codeOfThree 2 = .ok (.aload_n 0, 1) := by decide +kernel
theorem dX2_codeOfThree_3 : decode cX2_codeOfThree 3 = .ok (.iload_n 1, 1) := by decide +kernel
theorem dX2_codeOfThree_4 : decode cX2_codeOfThree 4 = .ok (.invokevirtual 73, 3) := by decide +kernel
theorem dX2_codeOfThree_7 : decode cX2_codeOfThree 7 = .ok (.iadd, 1) := by decide +kernel
theorem dX2_codeOfThree_8 : decode cX2_codeOfThree 8 = .ok (.istore 4, 2) := by decide +kernel
theorem dX2_codeOfThree_10 : decode cX2_codeOfThree 10 = .ok (.iload 4, 2) := by decide +kernel
theorem dX2_codeOfThree_12 : decode cX2_codeOfThree 12 = .ok (.bipush 31, 2) := by decide +kernel
theorem dX2_codeOfThree_14 : decode cX2_codeOfThree 14 = .ok (.imul, 1) := by decide +kernel
theorem dX2_codeOfThree_15 : decode cX2_codeOfThree 15 = .ok (.aload_n 0, 1) := by decide +kernel
theorem dX2_codeOfThree_16 : decode cX2_codeOfThree 16 = .ok (.iload_n 2, 1) := by decide +kernel
theorem dX2_codeOfThree_17 : decode cX2_codeOfThree 17 = .ok (.invokevirtual 73, 3) := by decide +kernel
theorem dX2_codeOfThree_20 : decode cX2_codeOfThree 20 = .ok (.iadd, 1) := by decide +kernel
theorem dX2_codeOfThree_21 : decode cX2_codeOfThree 21 = .ok (.istore 4, 2) := by decide +kernel
theorem dX2_codeOfThree_23 : decode cX2_codeOfThree 23 = .ok (.iload 4, 2) := by decide +kernel
theorem dX2_codeOfThree_25 : decode cX2_codeOfThree 25 = .ok (.bipush 31, 2) := by decide +kernel
theorem dX2_codeOfThree_27 : decode cX2_codeOfThree 27 = .ok (.imul, 1) := by decide +kernel
theorem dX2_codeOfThree_28 : decode cX2_codeOfThree 28 = .ok (.aload_n 0, 1) := by decide +kernel
theorem dX2_codeOfThree_29 : decode cX2_codeOfThree 29 = .ok (.iload_n 3, 1) := by decide +kernel
theorem dX2_codeOfThree_30 : decode cX2_codeOfThree 30 = .ok (.invokevirtual 73, 3) := by decide +kernel
theorem dX2_codeOfThree_33 : decode cX2_codeOfThree 33 = .ok (.iadd, 1) := by decide +kernel
theorem dX2_codeOfThree_34 : decode cX2_codeOfThree 34 = .ok (.ireturn, 1) := by decide +kernel
theorem dX2_countOf_0 : decode cX2_countOf 0 = .ok (.iconst 0, 1) := by decide +kernel
theorem dX2_countOf_1 : decode cX2_countOf 1 = .ok (.istore_n 3, 1) := by decide +kernel
theorem dX2_countOf_2 : decode cX2_countOf 2 = .ok (.iconst 0, 1) := by decide +kernel
theorem dX2_countOf_3 : decode cX2_countOf 3 = .ok (.istore 4, 2) := by decide +kernel
theorem dX2_countOf_5 : decode cX2_countOf 5 = .ok (.iload 4, 2) := by decide +kernel
theorem dX2_countOf_7 : decode cX2_countOf 7 = .ok (.aload_n 0, 1) := by decide +kernel
theorem dX2_countOf_8 : decode cX2_countOf 8 = .ok (.getfield 9, 3) := by decide +kernel
theorem dX2_countOf_11 : decode cX2_countOf 11 = .ok (.iload_n 1, 1) := by decide +kernel
theorem dX2_countOf_12 : decode cX2_countOf 12 = .ok (.iaload, 1) := by decide +kernel
theorem dX2_countOf_13 : decode cX2_countOf 13 = .ok (.if_icmp .ge 23, 3) := by decide +kernel
theorem dX2_countOf_16 : decode cX2_countOf 16 = .ok (.aload_n 0, 1) := by decide +kernel
theorem dX2_countOf_17 : decode cX2_countOf 17 = .ok (.iload_n 1, 1) := by decide +kernel
theorem dX2_countOf_18 : decode cX2_countOf 18 = .ok (.iload 4, 2) := by decide +kernel
theorem dX2_countOf_20 : decode cX2_countOf 20 = .ok (.invokevirtual 25, 3) := by decide +kernel
theorem dX2_countOf_23 : decode cX2_countOf 23 = .ok (.iload_n 2, 1) := by decide +kernel
theorem dX2_countOf_24 : decode cX2_countOf 24 = .ok (.if_icmp .ne 6, 3) := by decide +kernel
theorem dX2_countOf_27 : decode cX2_countOf 27 = .ok (.iinc 3 1, 3) := by decide +kernel
theorem dX2_countOf_30 : decode cX2_countOf 30 = .ok (.iinc 4 1, 3) := by decide +kernel
theorem dX2_countOf_33 : decode cX2_countOf 33 = .ok (.goto (-28), 3) := by decide +kernel
theorem dX2_countOf_36 : decode cX2_countOf 36 = .ok (.iload_n 3, 1) := by decide +kernel
theorem dX2_countOf_37 : decode cX2_countOf 37 = .ok (.ireturn, 1) := by decide +kernel
theorem dX2_countSigns_0 : decode cX2_countSigns 0 = .ok (.iconst 0, 1) := by decide +kernel
theorem dX2_countSigns_1 : decode cX2_countSigns 1 = .ok (.istore_n 1, 1) := by decide +kernel
theorem dX2_countSigns_2 : decode cX2_countSigns 2 = .ok (.iconst 0, 1) := by decide +kernel
theorem dX2_countSigns_3 : decode cX2_countSigns 3 = .ok (.istore_n 2, 1) := by decide +kernel
theorem dX2_countSigns_4 : decode cX2_countSigns 4 = .ok (.iload_n 2, 1) := by decide +kernel
theorem dX2_countSigns_5 : decode cX2_countSigns 5 = .ok (.bipush 9, 2) := by decide +kernel
theorem dX2_countSigns_7 : decode cX2_countSigns 7 = .ok (.if_icmp .ge 22, 3) := by decide +kernel
theorem dX2_countSigns_10 : decode cX2_countSigns 10 = .ok (.iload_n 1, 1) := by decide +kernel
theorem dX2_countSigns_11 : decode cX2_countSigns 11 = .ok (.aload_n 0, 1) := by decide +kernel
theorem dX2_countSigns_12 : decode cX2_countSigns 12 = .ok (.getfield 9, 3) := by decide +kernel
theorem dX2_countSigns_15 : decode cX2_countSigns 15 = .ok (.iload_n 2, 1) := by decide +kernel
theorem dX2_countSigns_16 : decode cX2_countSigns 16 = .ok (.iaload, 1) := by decide +kernel
theorem dX2_countSigns_17 : decode cX2_countSigns 17 = .ok (.iconst 0, 1) := by decide +kernel
theorem dX2_countSigns_18 : decode cX2_countSigns 18 = .ok (.invokestatic 77, 3) := by decide +kernel
theorem dX2_countSigns_21 : decode cX2_countSigns 21 = .ok (.iadd, 1) := by decide +kernel
theorem dX2_countSigns_22 : decode cX2_countSigns 22 = .ok (.istore_n 1, 1) := by decide +kernel
theorem dX2_countSigns_23 : decode cX2_countSigns 23 = .ok (.iinc 2 1, 3) := by decide +kernel
theorem dX2_countSigns_26 : decode cX2_countSigns 26 = .ok (.goto (-22), 3) := by decide +kernel
theorem dX2_countSigns_29 : decode cX2_countSigns 29 = .ok (.iload_n 1, 1) := by decide +kernel
theorem dX2_countSigns_30 : decode cX2_countSigns 30 = .ok (.ireturn, 1) := by decide +kernel
theorem dX2_countAway_0 : decode cX2_countAway 0 = .ok (.iconst 0, 1) := by decide +kernel
theorem dX2_countAway_1 : decode cX2_countAway 1 = .ok (.istore_n 1, 1) := by decide +kernel
theorem dX2_countAway_2 : decode cX2_countAway 2 = .ok (.iconst 0, 1) := by decide +kernel
theorem dX2_countAway_3 : decode cX2_countAway 3 = .ok (.istore_n 2, 1) := by decide +kernel
theorem dX2_countAway_4 : decode cX2_countAway 4 = .ok (.iload_n 2, 1) := by decide +kernel
theorem dX2_countAway_5 : decode cX2_countAway 5 = .ok (.bipush 9, 2) := by decide +kernel
theorem dX2_countAway_7 : decode cX2_countAway 7 = .ok (.if_icmp .ge 20, 3) := by decide +kernel
theorem dX2_countAway_10 : decode cX2_countAway 10 = .ok (.aload_n 0, 1) := by decide +kernel
theorem dX2_countAway_11 : decode cX2_countAway 11 = .ok (.iload_n 2, 1) := by decide +kernel
theorem dX2_countAway_12 : decode cX2_countAway 12 = .ok (.invokevirtual 63, 3) := by decide +kernel
theorem dX2_countAway_15 : decode cX2_countAway 15 = .ok (.ifCond .eq 6, 3) := by decide +kernel
theorem dX2_countAway_18 : decode cX2_countAway 18 = .ok (.iinc 1 1, 3) := by decide +kernel
theorem dX2_countAway_21 : decode cX2_countAway 21 = .ok (.iinc 2 1, 3) := by decide +kernel
theorem dX2_countAway_24 : decode cX2_countAway 24 = .ok (.goto (-20), 3) := by decide +kernel
theorem dX2_countAway_27 : decode cX2_countAway 27 = .ok (.iload_n 1, 1) := by decide +kernel
theorem dX2_countAway_28 : decode cX2_countAway 28 = .ok (.ireturn, 1) := by decide +kernel
theorem dX2_smaller_0 : decode cX2_smaller 0 = .ok (.iload_n 0, 1) := by decide +kernel
theorem dX2_smaller_1 : decode cX2_smaller 1 = .ok (.iload_n 1, 1) := by decide +kernel
theorem dX2_smaller_2 : decode cX2_smaller 2 = .ok (.if_icmp .ge 7, 3) := by decide +kernel
theorem dX2_smaller_5 : decode cX2_smaller 5 = .ok (.iconst (-1), 1) := by decide +kernel
theorem dX2_smaller_6 : decode cX2_smaller 6 = .ok (.goto 13, 3) := by decide +kernel
theorem dX2_smaller_9 : decode cX2_smaller 9 = .ok (.iload_n 0, 1) := by decide +kernel
theorem dX2_smaller_10 : decode cX2_smaller 10 = .ok (.iload_n 1, 1) := by decide +kernel
theorem dX2_smaller_11 : decode cX2_smaller 11 = .ok (.if_icmp .le 7, 3) := by decide +kernel
theorem dX2_smaller_14 : decode cX2_smaller 14 = .ok (.iconst 1, 1) := by decide +kernel
theorem dX2_smaller_15 : decode cX2_smaller 15 = .ok (.goto 4, 3) := by decide +kernel
theorem dX2_smaller_18 : decode cX2_smaller 18 = .ok (.iconst 0, 1) := by decide +kernel
theorem dX2_smaller_19 : decode cX2_smaller 19 = .ok (.ireturn, 1) := by decide +kernel
theorem dX3_init_0 : decode cX3_init 0 = .ok (.aload_n 0, 1) := by decide +kernel
theorem dX3_init_1 : decode cX3_init 1 = .ok (.invokespecial 1, 3) := by decide +kernel
theorem dX3_init_4 : decode cX3_init 4 = .ok (.aload_n 0, 1) := by decide +kernel
theorem dX3_init_5 : decode cX3_init 5 = .ok (.new 7, 3) := by decide +kernel
theorem dX3_init_8 : decode cX3_init 8 = .ok (.dup, 1) := by decide +kernel
theorem dX3_init_9 : decode cX3_init 9 = .ok (.invokespecial 9, 3) := by decide +kernel
theorem dX3_init_12 : decode cX3_init 12 = .ok (.putfield 10, 3) := by decide +kernel
theorem dX3_init_15 : decode cX3_init 15 = .ok (.return_, 1) := by decide +kernel
theorem dX3_write_0 : decode cX3_write 0 = .ok (.iload_n 1, 1) := by decide +kernel
theorem dX3_write_1 : decode cX3_write 1 = .ok (.invokestatic 16, 3) := by decide +kernel
theorem dX3_write_4 : decode cX3_write 4 = .ok (.iload_n 2, 1) := by decide +kernel
theorem dX3_write_5 : decode cX3_write 5 = .ok (.invokestatic 20, 3) := by decide +kernel
theorem dX3_write_8 : decode cX3_write 8 = .ok (.iload_n 3, 1) := by decide +kernel
theorem dX3_write_9 : decode cX3_write 9 = .ok (.invokestatic 20, 3) := by decide +kernel
theorem dX3_write_12 : decode cX3_write 12 = .ok (.iload 4, 2) := by decide +kernel
theorem dX3_write_14 : decode cX3_write 14 = .ok (.invokestatic 20, 3) := by decide +kernel
theorem dX3_write_17 : decode cX3_write 17 = .ok (.aload_n 0, 1) := by decide +kernel
theorem dX3_write_18 : decode cX3_write 18 = .ok (.iload_n 1, 1) := by decide +kernel
theorem dX3_write_19 : decode cX3_write 19 = .ok (.invokevirtual 23, 3) := by decide +kernel
theorem dX3_write_22 : decode cX3_write 22 = .ok (.iload_n 2, 1) := by decide +kernel
theorem dX3_write_23 : decode cX3_write 23 = .ok (.iconst (-1), 1) := by decide +kernel
theorem dX3_write_24 : decode cX3_write 24 = .ok (.if_icmp .ne 7, 3) := by decide +kernel
theorem dX3_write_27 : decode cX3_write 27 = .ok (.iconst 0, 1) := by decide +kernel
theorem dX3_write_28 : decode cX3_write 28 = .ok (.goto 23, 3) := by decide +kernel
theorem dX3_write_31 : decode cX3_write 31 = .ok (.iload_n 3, 1) := by decide +kernel
theorem dX3_write_32 : decode cX3_write 32 = .ok (.iconst (-1), 1) := by decide +kernel
theorem dX3_write_33 : decode cX3_write 33 = .ok (.if_icmp .ne 7, 3) := by decide +kernel
theorem dX3_write_36 : decode cX3_write 36 = .ok (.iconst 1, 1) := by decide +kernel
theorem dX3_write_37 : decode cX3_write 37 = .ok (.goto 14, 3) := by decide +kernel
theorem dX3_write_40 : decode cX3_write 40 = .ok (.iload 4, 2) := by decide +kernel
theorem dX3_write_42 : decode cX3_write 42 = .ok (.iconst (-1), 1) := by decide +kernel
theorem dX3_write_43 : decode cX3_write 43 = .ok (.if_icmp .ne 7, 3) := by decide +kernel
theorem dX3_write_46 : decode cX3_write 46 = .ok (.iconst 2, 1) := by decide +kernel
theorem dX3_write_47 : decode cX3_write 47 = .ok (.goto 4, 3) := by decide +kernel
theorem dX3_write_50 : decode cX3_write 50 = .ok (.iconst 3, 1) := by decide +kernel
theorem dX3_write_51 : decode cX3_write 51 = .ok (.istore 5, 2) := by decide +kernel
theorem dX3_write_53 : decode cX3_write 53 = .ok (.aload_n 0, 1) := by decide +kernel
theorem dX3_write_54 : decode cX3_write 54 = .ok (.iload_n 1, 1) := by decide +kernel
theorem dX3_write_55 : decode cX3_write 55 = .ok (.iload 5, 2) := by decide +kernel
theorem dX3_write_57 : decode cX3_write 57 = .ok (.invokevirtual 26, 3) := by decide +kernel
theorem dX3_write_60 : decode cX3_write 60 = .ok (.iload 5, 2) := by decide +kernel
theorem dX3_write_62 : decode cX3_write 62 = .ok (.ifCond .le 12, 3) := by decide +kernel
theorem dX3_write_65 : decode cX3_write 65 = .ok (.aload_n 0, 1) := by decide +kernel
theorem dX3_write_66 : decode cX3_write 66 = .ok (.getfield 10, 3) := by decide +kernel
theorem dX3_write_69 : decode cX3_write 69 = .ok (.iload_n 1, 1) := by decide +kernel
theorem dX3_write_70 : decode cX3_write 70 = .ok (.iload_n 2, 1) := by decide +kernel
theorem dX3_write_71 : decode cX3_write 71 = .ok (.invokevirtual 30, 3) := by decide +kernel
theorem dX3_write_74 : decode cX3_write 74 = .ok (.iload 5, 2) := by decide +kernel
theorem dX3_write_76 : decode cX3_write 76 = .ok (.iconst 1, 1) := by decide +kernel
theorem dX3_write_77 : decode cX3_write 77 = .ok (.if_icmp .le 12, 3) := by decide +kernel
theorem dX3_write_80 : decode cX3_write 80 = .ok (.aload_n 0, 1) := by decide +kernel
theorem dX3_write_81 : decode cX3_write 81 = .ok (.getfield 10, 3) := by decide +kernel
theorem dX3_write_84 : decode cX3_write 84 = .ok (.iload_n 1, 1) := by decide +kernel
theorem dX3_write_85 : decode cX3_write 85 = .ok (.iload_n 3, 1) := by decide +kernel
theorem dX3_write_86 : decode cX3_write 86 = .ok (.invokevirtual 30, 3) := by decide +kernel
theorem dX3_write_89 : decode cX3_write 89 = .ok (.iload 5, 2) := by decide +kernel
theorem dX3_write_91 : decode cX3_write 91 = .ok (.iconst 2, 1) := by decide +kernel
theorem dX3_write_92 : decode cX3_write 92 = .ok (.if_icmp .le 13, 3) := by decide +kernel
theorem dX3_write_95 : decode cX3_write 95 = .ok (.aload_n 0, 1) := by decide +kernel
theorem dX3_write_96 : decode cX3_write 96 = .ok (.getfield 10, 3) := by decide +kernel
theorem dX3_write_99 : decode cX3_write 99 = .ok (.iload_n 1, 1) := by decide +kernel
theorem dX3_write_100 : decode cX3_write 100 = .ok (.iload 4, 2) := by decide +kernel
theorem dX3_write_102 : decode cX3_write 102 = .ok (.invokevirtual 30, 3) := by decide +kernel
theorem dX3_write_105 : decode cX3_write 105 = .ok (.aload_n 0, 1) := by decide +kernel
theorem dX3_write_106 : decode cX3_write 106 = .ok (.getfield 10, 3) := by decide +kernel
theorem dX3_write_109 : decode cX3_write 109 = .ok (.iload_n 1, 1) := by decide +kernel
theorem dX3_write_110 : decode cX3_write 110 = .ok (.invokevirtual 33, 3) := by decide +kernel
theorem dX3_write_113 : decode cX3_write 113 = .ok (.ireturn, 1) := by decide +kernel
theorem dX3_fill_0 : decode cX3_fill 0 = .ok (.iload_n 1, 1) := by decide +kernel
theorem dX3_fill_1 : decode cX3_fill 1 = .ok (.invokestatic 16, 3) := by decide +kernel
theorem dX3_fill_4 : decode cX3_fill 4 = .ok (.iload_n 2, 1) := by decide +kernel
theorem dX3_fill_5 : decode cX3_fill 5 = .ok (.invokestatic 37, 3) := by decide +kernel
theorem dX3_fill_8 : decode cX3_fill 8 = .ok (.iload_n 3, 1) := by decide +kernel
theorem dX3_fill_9 : decode cX3_fill 9 = .ok (.bipush 24, 2) := by decide +kernel
theorem dX3_fill_11 : decode cX3_fill 11 = .ok (.invokestatic 40, 3) := by decide +kernel
theorem dX3_fill_14 : decode cX3_fill 14 = .ok (.aload_n 0, 1) := by decide +kernel
theorem dX3_fill_15 : decode cX3_fill 15 = .ok (.getfield 10, 3) := by decide +kernel
theorem dX3_fill_18 : decode cX3_fill 18 = .ok (.iload_n 1, 1) := by decide +kernel
theorem dX3_fill_19 : decode cX3_fill 19 = .ok (.invokevirtual 33, 3) := by decide +kernel
theorem dX3_fill_22 : decode cX3_fill 22 = .ok (.istore 4, 2) := by decide +kernel
theorem dX3_fill_24 : decode cX3_fill 24 = .ok (.aload_n 0, 1) := by decide +kernel
theorem dX3_fill_25 : decode cX3_fill 25 = .ok (.getfield 10, 3) := by decide +kernel
theorem dX3_fill_28 : decode cX3_fill 28 = .ok (.iload_n 1, 1) := by decide +kernel
theorem dX3_fill_29 : decode cX3_fill 29 = .ok (.invokevirtual 43, 3) := by decide +kernel
theorem dX3_fill_32 : decode cX3_fill 32 = .ok (.iconst 0, 1) := by decide +kernel
theorem dX3_fill_33 : decode cX3_fill 33 = .ok (.istore 5, 2) := by decide +kernel
theorem dX3_fill_35 : decode cX3_fill 35 = .ok (.iload 5, 2) := by decide +kernel
theorem dX3_fill_37 : decode cX3_fill 37 = .ok (.iload_n 3, 1) := by decide +kernel
theorem dX3_fill_38 : decode cX3_fill 38 = .ok (.if_icmp .ge 18, 3) := by decide +kernel
theorem dX3_fill_41 : decode cX3_fill 41 = .ok (.aload_n 0, 1) := by decide +kernel
theorem dX3_fill_42 : decode cX3_fill 42 = .ok (.getfield 10, 3) := by decide +kernel
theorem dX3_fill_45 : decode cX3_fill 45 = .ok (.iload_n 1, 1) := by decide +kernel
theorem dX3_fill_46 : decode cX3_fill 46 = .ok (.iload_n 2, 1) := by decide +kernel
theorem dX3_fill_47 : decode cX3_fill 47 = .ok (.invokevirtual 30, 3) := by decide +kernel
theorem dX3_fill_50 : decode cX3_fill 50 = .ok (.iinc 5 1, 3) := by decide +kernel
theorem dX3_fill_53 : decode cX3_fill 53 = .ok (.goto (-18), 3) := by decide +kernel
theorem dX3_fill_56 : decode cX3_fill 56 = .ok (.iload 4, 2) := by decide +kernel
theorem dX3_fill_58 : decode cX3_fill 58 = .ok (.ireturn, 1) := by decide +kernel
theorem dX3_cut_0 : decode cX3_cut 0 = .ok (.iload_n 1, 1) := by decide +kernel
theorem dX3_cut_1 : decode cX3_cut 1 = .ok (.invokestatic 16, 3) := by decide +kernel
theorem dX3_cut_4 : decode cX3_cut 4 = .ok (.aload_n 0, 1) := by decide +kernel
theorem dX3_cut_5 : decode cX3_cut 5 = .ok (.iload_n 1, 1) := by decide +kernel
theorem dX3_cut_6 : decode cX3_cut 6 = .ok (.invokevirtual 23, 3) := by decide +kernel
theorem dX3_cut_9 : decode cX3_cut 9 = .ok (.iload_n 2, 1) := by decide +kernel
theorem dX3_cut_10 : decode cX3_cut 10 = .ok (.i2l, 1) := by decide +kernel
theorem dX3_cut_11 : decode cX3_cut 11 = .ok (.iload_n 3, 1) := by decide +kernel
theorem dX3_cut_12 : decode cX3_cut 12 = .ok (.i2l, 1) := by decide +kernel
theorem dX3_cut_13 : decode cX3_cut 13 = .ok (.aload_n 0, 1) := by decide +kernel
theorem dX3_cut_14 : decode cX3_cut 14 = .ok (.getfield 10, 3) := by decide +kernel
theorem dX3_cut_17 : decode cX3_cut 17 = .ok (.iload_n 1, 1) := by decide +kernel
theorem dX3_cut_18 : decode cX3_cut 18 = .ok (.invokevirtual 33, 3) := by decide +kernel
theorem dX3_cut_21 : decode cX3_cut 21 = .ok (.i2l, 1) := by decide +kernel
theorem dX3_cut_22 : decode cX3_cut 22 = .ok (.invokestatic 46, 3) := by decide +kernel
theorem dX3_cut_25 : decode cX3_cut 25 = .ok (.ifCond .ne 8, 3) := by decide +kernel
theorem dX3_cut_28 : decode cX3_cut 28 = .ok (.aload_n 0, 1) := by decide +kernel
theorem dX3_cut_29 : decode cX3_cut 29 = .ok (.invokevirtual 52, 3) := by decide +kernel
theorem dX3_cut_32 : decode cX3_cut 32 = .ok (.ireturn, 1) := by decide +kernel
theorem dX3_cut_33 : decode cX3_cut 33 = .ok (.aload_n 0, 1) := by decide +kernel
theorem dX3_cut_34 : decode cX3_cut 34 = .ok (.getfield 10, 3) := by decide +kernel
theorem dX3_cut_37 : decode cX3_cut 37 = .ok (.iload_n 1, 1) := by decide +kernel
theorem dX3_cut_38 : decode cX3_cut 38 = .ok (.iload_n 2, 1) := by decide +kernel
theorem dX3_cut_39 : decode cX3_cut 39 = .ok (.iload_n 3, 1) := by decide +kernel
theorem dX3_cut_40 : decode cX3_cut 40 = .ok (.invokevirtual 56, 3) := by decide +kernel
theorem dX3_cut_43 : decode cX3_cut 43 = .ok (.ireturn, 1) := by decide +kernel
theorem dX3_take_0 : decode cX3_take 0 = .ok (.iload_n 1, 1) := by decide +kernel
theorem dX3_take_1 : decode cX3_take 1 = .ok (.invokestatic 16, 3) := by decide +kernel
theorem dX3_take_4 : decode cX3_take 4 = .ok (.aload_n 0, 1) := by decide +kernel
theorem dX3_take_5 : decode cX3_take 5 = .ok (.iload_n 1, 1) := by decide +kernel
theorem dX3_take_6 : decode cX3_take 6 = .ok (.invokevirtual 23, 3) := by decide +kernel
theorem dX3_take_9 : decode cX3_take 9 = .ok (.iload_n 2, 1) := by decide +kernel
theorem dX3_take_10 : decode cX3_take 10 = .ok (.i2l, 1) := by decide +kernel
theorem dX3_take_11 : decode cX3_take 11 = .ok (.iload_n 3, 1) := by decide +kernel
theorem dX3_take_12 : decode cX3_take 12 = .ok (.i2l, 1) := by decide +kernel
theorem dX3_take_13 : decode cX3_take 13 = .ok (.aload_n 0, 1) := by decide +kernel
theorem dX3_take_14 : decode cX3_take 14 = .ok (.getfield 10, 3) := by decide +kernel
theorem dX3_take_17 : decode cX3_take 17 = .ok (.iload_n 1, 1) := by decide +kernel
theorem dX3_take_18 : decode cX3_take 18 = .ok (.invokevirtual 33, 3) := by decide +kernel
theorem dX3_take_21 : decode cX3_take 21 = .ok (.i2l, 1) := by decide +kernel
theorem dX3_take_22 : decode cX3_take 22 = .ok (.invokestatic 60, 3) := by decide +kernel
theorem dX3_take_25 : decode cX3_take 25 = .ok (.ifCond .ne 8, 3) := by decide +kernel
theorem dX3_take_28 : decode cX3_take 28 = .ok (.aload_n 0, 1) := by decide +kernel
theorem dX3_take_29 : decode cX3_take 29 = .ok (.invokevirtual 52, 3) := by decide +kernel
theorem dX3_take_32 : decode cX3_take 32 = .ok (.ireturn, 1) := by decide +kernel
theorem dX3_take_33 : decode cX3_take 33 = .ok (.aload_n 0, 1) := by decide +kernel
theorem dX3_take_34 : decode cX3_take 34 = .ok (.getfield 10, 3) := by decide +kernel
theorem dX3_take_37 : decode cX3_take 37 = .ok (.iload_n 1, 1) := by decide +kernel
theorem dX3_take_38 : decode cX3_take 38 = .ok (.iload_n 2, 1) := by decide +kernel
theorem dX3_take_39 : decode cX3_take 39 = .ok (.iload_n 2, 1) := by decide +kernel
theorem dX3_take_40 : decode cX3_take 40 = .ok (.iload_n 3, 1) := by decide +kernel
theorem dX3_take_41 : decode cX3_take 41 = .ok (.iadd, 1) := by decide +kernel
theorem dX3_take_42 : decode cX3_take 42 = .ok (.invokevirtual 56, 3) := by decide +kernel
theorem dX3_take_45 : decode cX3_take 45 = .ok (.ireturn, 1) := by decide +kernel
theorem dX3_put_0 : decode cX3_put 0 = .ok (.iload_n 1, 1) := by decide +kernel
theorem dX3_put_1 : decode cX3_put 1 = .ok (.invokestatic 16, 3) := by decide +kernel
theorem dX3_put_4 : decode cX3_put 4 = .ok (.iload_n 3, 1) := by decide +kernel
theorem dX3_put_5 : decode cX3_put 5 = .ok (.invokestatic 37, 3) := by decide +kernel
theorem dX3_put_8 : decode cX3_put 8 = .ok (.aload_n 0, 1) := by decide +kernel
theorem dX3_put_9 : decode cX3_put 9 = .ok (.iload_n 1, 1) := by decide +kernel
theorem dX3_put_10 : decode cX3_put 10 = .ok (.invokevirtual 23, 3) := by decide +kernel
theorem dX3_put_13 : decode cX3_put 13 = .ok (.iload_n 2, 1) := by decide +kernel
theorem dX3_put_14 : decode cX3_put 14 = .ok (.i2l, 1) := by decide +kernel
theorem dX3_put_15 : decode cX3_put 15 = .ok (.aload_n 0, 1) := by decide +kernel
theorem dX3_put_16 : decode cX3_put 16 = .ok (.getfield 10, 3) := by decide +kernel
theorem dX3_put_19 : decode cX3_put 19 = .ok (.iload_n 1, 1) := by decide +kernel
theorem dX3_put_20 : decode cX3_put 20 = .ok (.invokevirtual 33, 3) := by decide +kernel
theorem dX3_put_23 : decode cX3_put 23 = .ok (.i2l, 1) := by decide +kernel
theorem dX3_put_24 : decode cX3_put 24 = .ok (.invokestatic 63, 3) := by decide +kernel
theorem dX3_put_27 : decode cX3_put 27 = .ok (.ifCond .ne 8, 3) := by decide +kernel
theorem dX3_put_30 : decode cX3_put 30 = .ok (.aload_n 0, 1) := by decide +kernel
theorem dX3_put_31 : decode cX3_put 31 = .ok (.invokevirtual 52, 3) := by decide +kernel
theorem dX3_put_34 : decode cX3_put 34 = .ok (.ireturn, 1) := by decide +kernel
theorem dX3_put_35 : decode cX3_put 35 = .ok (.aload_n 0, 1) := by decide +kernel
theorem dX3_put_36 : decode cX3_put 36 = .ok (.getfield 10, 3) := by decide +kernel
theorem dX3_put_39 : decode cX3_put 39 = .ok (.iload_n 1, 1) := by decide +kernel
theorem dX3_put_40 : decode cX3_put 40 = .ok (.iload_n 2, 1) := by decide +kernel
theorem dX3_put_41 : decode cX3_put 41 = .ok (.invokevirtual 67, 3) := by decide +kernel
theorem dX3_put_44 : decode cX3_put 44 = .ok (.istore 4, 2) := by decide +kernel
theorem dX3_put_46 : decode cX3_put 46 = .ok (.aload_n 0, 1) := by decide +kernel
theorem dX3_put_47 : decode cX3_put 47 = .ok (.getfield 10, 3) := by decide +kernel
theorem dX3_put_50 : decode cX3_put 50 = .ok (.iload_n 1, 1) := by decide +kernel
theorem dX3_put_51 : decode cX3_put 51 = .ok (.iload_n 2, 1) := by decide +kernel
theorem dX3_put_52 : decode cX3_put 52 = .ok (.iload_n 3, 1) := by decide +kernel
theorem dX3_put_53 : decode cX3_put 53 = .ok (.invokevirtual 71, 3) := by decide +kernel
theorem dX3_put_56 : decode cX3_put 56 = .ok (.iload 4, 2) := by decide +kernel
theorem dX3_put_58 : decode cX3_put 58 = .ok (.ireturn, 1) := by decide +kernel
theorem dX3_copy_0 : decode cX3_copy 0 = .ok (.iload_n 1, 1) := by decide +kernel
theorem dX3_copy_1 : decode cX3_copy 1 = .ok (.invokestatic 16, 3) := by decide +kernel
theorem dX3_copy_4 : decode cX3_copy 4 = .ok (.iload_n 2, 1) := by decide +kernel
theorem dX3_copy_5 : decode cX3_copy 5 = .ok (.invokestatic 16, 3) := by decide +kernel
theorem dX3_copy_8 : decode cX3_copy 8 = .ok (.aload_n 0, 1) := by decide +kernel
theorem dX3_copy_9 : decode cX3_copy 9 = .ok (.getfield 10, 3) := by decide +kernel
theorem dX3_copy_12 : decode cX3_copy 12 = .ok (.iload_n 1, 1) := by decide +kernel
theorem dX3_copy_13 : decode cX3_copy 13 = .ok (.iload_n 2, 1) := by decide +kernel
theorem dX3_copy_14 : decode cX3_copy 14 = .ok (.invokevirtual 75, 3) := by decide +kernel
theorem dX3_copy_17 : decode cX3_copy 17 = .ok (.aload_n 0, 1) := by decide +kernel
theorem dX3_copy_18 : decode cX3_copy 18 = .ok (.getfield 10, 3) := by decide +kernel
theorem dX3_copy_21 : decode cX3_copy 21 = .ok (.iload_n 1, 1) := by decide +kernel
theorem dX3_copy_22 : decode cX3_copy 22 = .ok (.invokevirtual 33, 3) := by decide +kernel
theorem dX3_copy_25 : decode cX3_copy 25 = .ok (.ireturn, 1) := by decide +kernel
theorem dX3_leave_0 : decode cX3_leave 0 = .ok (.iload_n 1, 1) := by decide +kernel
theorem dX3_leave_1 : decode cX3_leave 1 = .ok (.invokestatic 16, 3) := by decide +kernel
theorem dX3_leave_4 : decode cX3_leave 4 = .ok (.aload_n 0, 1) := by decide +kernel
theorem dX3_leave_5 : decode cX3_leave 5 = .ok (.getfield 10, 3) := by decide +kernel
theorem dX3_leave_8 : decode cX3_leave 8 = .ok (.iload_n 1, 1) := by decide +kernel
theorem dX3_leave_9 : decode cX3_leave 9 = .ok (.invokevirtual 33, 3) := by decide +kernel
theorem dX3_leave_12 : decode cX3_leave 12 = .ok (.istore_n 2, 1) := by decide +kernel
theorem dX3_leave_13 : decode cX3_leave 13 = .ok (.aload_n 0, 1) := by decide +kernel
theorem dX3_leave_14 : decode cX3_leave 14 = .ok (.getfield 10, 3) := by decide +kernel
theorem dX3_leave_17 : decode cX3_leave 17 = .ok (.iload_n 1, 1) := by decide +kernel
theorem dX3_leave_18 : decode cX3_leave 18 = .ok (.invokevirtual 78, 3) := by decide +kernel
theorem dX3_leave_21 : decode cX3_leave 21 = .ok (.iload_n 2, 1) := by decide +kernel
theorem dX3_leave_22 : decode cX3_leave 22 = .ok (.ireturn, 1) := by decide +kernel
theorem dX3_place_0 : decode cX3_place 0 = .ok (.iload_n 1, 1) := by decide +kernel
theorem dX3_place_1 : decode cX3_place 1 = .ok (.i2l, 1) := by decide +kernel
theorem dX3_place_2 : decode cX3_place 2 = .ok (.iload_n 2, 1) := by decide +kernel
theorem dX3_place_3 : decode cX3_place 3 = .ok (.i2l, 1) := by decide +kernel
theorem dX3_place_4 : decode cX3_place 4 = .ok (.invokestatic 63, 3) := by decide +kernel
theorem dX3_place_7 : decode cX3_place 7 = .ok (.ifCond .eq 7, 3) := by decide +kernel
theorem dX3_place_10 : decode cX3_place 10 = .ok (.iload_n 1, 1) := by decide +kernel
theorem dX3_place_11 : decode cX3_place 11 = .ok (.goto 7, 3) := by decide +kernel
theorem dX3_place_14 : decode cX3_place 14 = .ok (.aload_n 0, 1) := by decide +kernel
theorem dX3_place_15 : decode cX3_place 15 = .ok (.invokevirtual 52, 3) := by decide +kernel
theorem dX3_place_18 : decode cX3_place 18 = .ok (.ireturn, 1) := by decide +kernel
theorem dX3_span_0 : decode cX3_span 0 = .ok (.iload_n 1, 1) := by decide +kernel
theorem dX3_span_1 : decode cX3_span 1 = .ok (.i2l, 1) := by decide +kernel
theorem dX3_span_2 : decode cX3_span 2 = .ok (.iload_n 2, 1) := by decide +kernel
theorem dX3_span_3 : decode cX3_span 3 = .ok (.i2l, 1) := by decide +kernel
theorem dX3_span_4 : decode cX3_span 4 = .ok (.iload_n 3, 1) := by decide +kernel
theorem dX3_span_5 : decode cX3_span 5 = .ok (.i2l, 1) := by decide +kernel
theorem dX3_span_6 : decode cX3_span 6 = .ok (.invokestatic 46, 3) := by decide +kernel
theorem dX3_span_9 : decode cX3_span 9 = .ok (.ifCond .eq 7, 3) := by decide +kernel
theorem dX3_span_12 : decode cX3_span 12 = .ok (.iload_n 1, 1) := by decide +kernel
theorem dX3_span_13 : decode cX3_span 13 = .ok (.goto 7, 3) := by decide +kernel
theorem dX3_span_16 : decode cX3_span 16 = .ok (.aload_n 0, 1) := by decide +kernel
theorem dX3_span_17 : decode cX3_span 17 = .ok (.invokevirtual 52, 3) := by decide +kernel
theorem dX3_span_20 : decode cX3_span 20 = .ok (.ireturn, 1) := by decide +kernel
theorem dX3_stretch_0 : decode cX3_stretch 0 = .ok (.iload_n 1, 1) := by decide +kernel
theorem dX3_stretch_1 : decode cX3_stretch 1 = .ok (.i2l, 1) := by decide +kernel
theorem dX3_stretch_2 : decode cX3_stretch 2 = .ok (.iload_n 2, 1) := by decide +kernel
theorem dX3_stretch_3 : decode cX3_stretch 3 = .ok (.i2l, 1) := by decide +kernel
theorem dX3_stretch_4 : decode cX3_stretch 4 = .ok (.iload_n 3, 1) := by decide +kernel
theorem dX3_stretch_5 : decode cX3_stretch 5 = .ok (.i2l, 1) := by decide +kernel
theorem dX3_stretch_6 : decode cX3_stretch 6 = .ok (.invokestatic 60, 3) := by decide +kernel
theorem dX3_stretch_9 : decode cX3_stretch 9 = .ok (.ifCond .eq 7, 3) := by decide +kernel
theorem dX3_stretch_12 : decode cX3_stretch 12 = .ok (.iload_n 1, 1) := by decide +kernel
theorem dX3_stretch_13 : decode cX3_stretch 13 = .ok (.goto 7, 3) := by decide +kernel
theorem dX3_stretch_16 : decode cX3_stretch 16 = .ok (.aload_n 0, 1) := by decide +kernel
theorem dX3_stretch_17 : decode cX3_stretch 17 = .ok (.invokevirtual 52, 3) := by decide +kernel
theorem dX3_stretch_20 : decode cX3_stretch 20 = .ok (.ireturn, 1) := by decide +kernel
theorem dX3_isFarPlace_0 : decode cX3_isFarPlace 0 = .ok (.iload_n 1, 1) := by decide +kernel
theorem dX3_isFarPlace_1 : decode cX3_isFarPlace 1 = .ok (.invokestatic 81, 3) := by decide +kernel
theorem dX3_isFarPlace_4 : decode cX3_isFarPlace 4 = .ok (.iload_n 2, 1) := by decide +kernel
theorem dX3_isFarPlace_5 : decode cX3_isFarPlace 5 = .ok (.invokestatic 81, 3) := by decide +kernel
theorem dX3_isFarPlace_8 : decode cX3_isFarPlace 8 = .ok (.invokestatic 63, 3) := by decide +kernel
theorem dX3_isFarPlace_11 : decode cX3_isFarPlace 11 = .ok (.ireturn, 1) := by decide +kernel
theorem dX3_isFarSpan_0 : decode cX3_isFarSpan 0 = .ok (.iload_n 1, 1) := by decide +kernel
theorem dX3_isFarSpan_1 : decode cX3_isFarSpan 1 = .ok (.invokestatic 81, 3) := by decide +kernel
theorem dX3_isFarSpan_4 : decode cX3_isFarSpan 4 = .ok (.iload_n 2, 1) := by decide +kernel
theorem dX3_isFarSpan_5 : decode cX3_isFarSpan 5 = .ok (.invokestatic 81, 3) := by decide +kernel
theorem dX3_isFarSpan_8 : decode cX3_isFarSpan 8 = .ok (.iload_n 3, 1) := by decide +kernel
theorem dX3_isFarSpan_9 : decode cX3_isFarSpan 9 = .ok (.invokestatic 81, 3) := by decide +kernel
theorem dX3_isFarSpan_12 : decode cX3_isFarSpan 12 = .ok (.invokestatic 46, 3) := by decide +kernel
theorem dX3_isFarSpan_15 : decode cX3_isFarSpan 15 = .ok (.ireturn, 1) := by decide +kernel
theorem dX3_isFarStretch_0 : decode cX3_isFarStretch 0 = .ok (.iload_n 1, 1) := by decide +kernel
theorem dX3_isFarStretch_1 : decode cX3_isFarStretch 1 = .ok (.invokestatic 81, 3) := by decide +kernel
theorem dX3_isFarStretch_4 : decode cX3_isFarStretch 4 = .ok (.iload_n 2, 1) := by decide +kernel
theorem dX3_isFarStretch_5 : decode cX3_isFarStretch 5 = .ok (.invokestatic 81, 3) := by decide +kernel
theorem dX3_isFarStretch_8 : decode cX3_isFarStretch 8 = .ok (.iload_n 3, 1) := by decide +kernel
theorem dX3_isFarStretch_9 : decode cX3_isFarStretch 9 = .ok (.invokestatic 81, 3) := by decide +kernel
theorem dX3_isFarStretch_12 : decode cX3_isFarStretch 12 = .ok (.invokestatic 60, 3) := by decide +kernel
theorem dX3_isFarStretch_15 : decode cX3_isFarStretch 15 = .ok (.ireturn, 1) := by decide +kernel
theorem dX3_insides_0 : decode cX3_insides 0 = .ok (.iload_n 1, 1) := by decide +kernel
theorem dX3_insides_1 : decode cX3_insides 1 = .ok (.invokestatic 16, 3) := by decide +kernel
theorem dX3_insides_4 : decode cX3_insides 4 = .ok (.iload_n 2, 1) := by decide +kernel
theorem dX3_insides_5 : decode cX3_insides 5 = .ok (.iconst 2, 1) := by decide +kernel
theorem dX3_insides_6 : decode cX3_insides 6 = .ok (.invokestatic 40, 3) := by decide +kernel
theorem dX3_insides_9 : decode cX3_insides 9 = .ok (.aload_n 0, 1) := by decide +kernel
theorem dX3_insides_10 : decode cX3_insides 10 = .ok (.iload_n 1, 1) := by decide +kernel
theorem dX3_insides_11 : decode cX3_insides 11 = .ok (.invokevirtual 23, 3) := by decide +kernel
theorem dX3_insides_14 : decode cX3_insides 14 = .ok (.aload_n 0, 1) := by decide +kernel
theorem dX3_insides_15 : decode cX3_insides 15 = .ok (.getfield 10, 3) := by decide +kernel
theorem dX3_insides_18 : decode cX3_insides 18 = .ok (.iload_n 1, 1) := by decide +kernel
theorem dX3_insides_19 : decode cX3_insides 19 = .ok (.invokevirtual 33, 3) := by decide +kernel
theorem dX3_insides_22 : decode cX3_insides 22 = .ok (.istore_n 3, 1) := by decide +kernel
theorem dX3_insides_23 : decode cX3_insides 23 = .ok (.iload_n 2, 1) := by decide +kernel
theorem dX3_insides_24 : decode cX3_insides 24 = .ok (.lookupswitch 38 #[(0, 28), (1, 33)], 28) := by decide +kernel
theorem dX3_insides_52 : decode cX3_insides 52 = .ok (.iload_n 3, 1) := by decide +kernel
theorem dX3_insides_53 : decode cX3_insides 53 = .ok (.invokestatic 85, 3) := by decide +kernel
theorem dX3_insides_56 : decode cX3_insides 56 = .ok (.ireturn, 1) := by decide +kernel
theorem dX3_insides_57 : decode cX3_insides 57 = .ok (.iload_n 3, 1) := by decide +kernel
theorem dX3_insides_58 : decode cX3_insides 58 = .ok (.invokestatic 88, 3) := by decide +kernel
theorem dX3_insides_61 : decode cX3_insides 61 = .ok (.ireturn, 1) := by decide +kernel
theorem dX3_insides_62 : decode cX3_insides 62 = .ok (.iload_n 3, 1) := by decide +kernel
theorem dX3_insides_63 : decode cX3_insides 63 = .ok (.invokestatic 91, 3) := by decide +kernel
theorem dX3_insides_66 : decode cX3_insides 66 = .ok (.ireturn, 1) := by decide +kernel
theorem dX3_text_0 : decode cX3_text 0 = .ok (.iload_n 1, 1) := by decide +kernel
theorem dX3_text_1 : decode cX3_text 1 = .ok (.invokestatic 16, 3) := by decide +kernel
theorem dX3_text_4 : decode cX3_text 4 = .ok (.aload_n 0, 1) := by decide +kernel
theorem dX3_text_5 : decode cX3_text 5 = .ok (.getfield 10, 3) := by decide +kernel
theorem dX3_text_8 : decode cX3_text 8 = .ok (.iload_n 1, 1) := by decide +kernel
theorem dX3_text_9 : decode cX3_text 9 = .ok (.invokevirtual 94, 3) := by decide +kernel
theorem dX3_text_12 : decode cX3_text 12 = .ok (.ifCond .eq 8, 3) := by decide +kernel
theorem dX3_text_15 : decode cX3_text 15 = .ok (.ldc 98, 2) := by decide +kernel
theorem dX3_text_17 : decode cX3_text 17 = .ok (.goto 11, 3) := by decide +kernel
theorem dX3_text_20 : decode cX3_text 20 = .ok (.aload_n 0, 1) := by decide +kernel
theorem dX3_text_21 : decode cX3_text 21 = .ok (.getfield 10, 3) := by decide +kernel
theorem dX3_text_24 : decode cX3_text 24 = .ok (.iload_n 1, 1) := by decide +kernel
theorem dX3_text_25 : decode cX3_text 25 = .ok (.invokevirtual 100, 3) := by decide +kernel
theorem dX3_text_28 : decode cX3_text 28 = .ok (.areturn, 1) := by decide +kernel
theorem dX3_length_0 : decode cX3_length 0 = .ok (.iload_n 1, 1) := by decide +kernel
theorem dX3_length_1 : decode cX3_length 1 = .ok (.invokestatic 16, 3) := by decide +kernel
theorem dX3_length_4 : decode cX3_length 4 = .ok (.aload_n 0, 1) := by decide +kernel
theorem dX3_length_5 : decode cX3_length 5 = .ok (.getfield 10, 3) := by decide +kernel
theorem dX3_length_8 : decode cX3_length 8 = .ok (.iload_n 1, 1) := by decide +kernel
theorem dX3_length_9 : decode cX3_length 9 = .ok (.invokevirtual 33, 3) := by decide +kernel
theorem dX3_length_12 : decode cX3_length 12 = .ok (.ireturn, 1) := by decide +kernel
theorem dX3_signAt_0 : decode cX3_signAt 0 = .ok (.iload_n 1, 1) := by decide +kernel
theorem dX3_signAt_1 : decode cX3_signAt 1 = .ok (.invokestatic 16, 3) := by decide +kernel
theorem dX3_signAt_4 : decode cX3_signAt 4 = .ok (.aload_n 0, 1) := by decide +kernel
theorem dX3_signAt_5 : decode cX3_signAt 5 = .ok (.getfield 10, 3) := by decide +kernel
theorem dX3_signAt_8 : decode cX3_signAt 8 = .ok (.iload_n 1, 1) := by decide +kernel
theorem dX3_signAt_9 : decode cX3_signAt 9 = .ok (.invokevirtual 94, 3) := by decide +kernel
theorem dX3_signAt_12 : decode cX3_signAt 12 = .ok (.ifCond .ne 20, 3) := by decide +kernel
theorem dX3_signAt_15 : decode cX3_signAt 15 = .ok (.iload_n 2, 1) := by decide +kernel
theorem dX3_signAt_16 : decode cX3_signAt 16 = .ok (.i2l, 1) := by decide +kernel
theorem dX3_signAt_17 : decode cX3_signAt 17 = .ok (.aload_n 0, 1) := by decide +kernel
theorem dX3_signAt_18 : decode cX3_signAt 18 = .ok (.getfield 10, 3) := by decide +kernel
theorem dX3_signAt_21 : decode cX3_signAt 21 = .ok (.iload_n 1, 1) := by decide +kernel
theorem dX3_signAt_22 : decode cX3_signAt 22 = .ok (.invokevirtual 33, 3) := by decide +kernel
theorem dX3_signAt_25 : decode cX3_signAt 25 = .ok (.i2l, 1) := by decide +kernel
theorem dX3_signAt_26 : decode cX3_signAt 26 = .ok (.invokestatic 63, 3) := by decide +kernel
theorem dX3_signAt_29 : decode cX3_signAt 29 = .ok (.ifCond .ne 8, 3) := by decide +kernel
theorem dX3_signAt_32 : decode cX3_signAt 32 = .ok (.aload_n 0, 1) := by decide +kernel
theorem dX3_signAt_33 : decode cX3_signAt 33 = .ok (.invokevirtual 52, 3) := by decide +kernel
theorem dX3_signAt_36 : decode cX3_signAt 36 = .ok (.ireturn, 1) := by decide +kernel
theorem dX3_signAt_37 : decode cX3_signAt 37 = .ok (.aload_n 0, 1) := by decide +kernel
theorem dX3_signAt_38 : decode cX3_signAt 38 = .ok (.getfield 10, 3) := by decide +kernel
theorem dX3_signAt_41 : decode cX3_signAt 41 = .ok (.iload_n 1, 1) := by decide +kernel
theorem dX3_signAt_42 : decode cX3_signAt 42 = .ok (.iload_n 2, 1) := by decide +kernel
theorem dX3_signAt_43 : decode cX3_signAt 43 = .ok (.invokevirtual 67, 3) := by decide +kernel
theorem dX3_signAt_46 : decode cX3_signAt 46 = .ok (.ireturn, 1) := by decide +kernel
theorem dX3_part_0 : decode cX3_part 0 = .ok (.iload_n 1, 1) := by decide +kernel
theorem dX3_part_1 : decode cX3_part 1 = .ok (.invokestatic 16, 3) := by decide +kernel
theorem dX3_part_4 : decode cX3_part 4 = .ok (.aload_n 0, 1) := by decide +kernel
theorem dX3_part_5 : decode cX3_part 5 = .ok (.getfield 10, 3) := by decide +kernel
theorem dX3_part_8 : decode cX3_part 8 = .ok (.iload_n 1, 1) := by decide +kernel
theorem dX3_part_9 : decode cX3_part 9 = .ok (.invokevirtual 94, 3) := by decide +kernel
theorem dX3_part_12 : decode cX3_part 12 = .ok (.ifCond .ne 22, 3) := by decide +kernel
theorem dX3_part_15 : decode cX3_part 15 = .ok (.iload_n 2, 1) := by decide +kernel
theorem dX3_part_16 : decode cX3_part 16 = .ok (.i2l, 1) := by decide +kernel
theorem dX3_part_17 : decode cX3_part 17 = .ok (.iload_n 3, 1) := by decide +kernel
theorem dX3_part_18 : decode cX3_part 18 = .ok (.i2l, 1) := by decide +kernel
theorem dX3_part_19 : decode cX3_part 19 = .ok (.aload_n 0, 1) := by decide +kernel
theorem dX3_part_20 : decode cX3_part 20 = .ok (.getfield 10, 3) := by decide +kernel
theorem dX3_part_23 : decode cX3_part 23 = .ok (.iload_n 1, 1) := by decide +kernel
theorem dX3_part_24 : decode cX3_part 24 = .ok (.invokevirtual 33, 3) := by decide +kernel
theorem dX3_part_27 : decode cX3_part 27 = .ok (.i2l, 1) := by decide +kernel
theorem dX3_part_28 : decode cX3_part 28 = .ok (.invokestatic 46, 3) := by decide +kernel
theorem dX3_part_31 : decode cX3_part 31 = .ok (.ifCond .ne 8, 3) := by decide +kernel
theorem dX3_part_34 : decode cX3_part 34 = .ok (.aload_n 0, 1) := by decide +kernel
theorem dX3_part_35 : decode cX3_part 35 = .ok (.invokevirtual 104, 3) := by decide +kernel
theorem dX3_part_38 : decode cX3_part 38 = .ok (.areturn, 1) := by decide +kernel
theorem dX3_part_39 : decode cX3_part 39 = .ok (.aload_n 0, 1) := by decide +kernel
theorem dX3_part_40 : decode cX3_part 40 = .ok (.getfield 10, 3) := by decide +kernel
theorem dX3_part_43 : decode cX3_part 43 = .ok (.iload_n 1, 1) := by decide +kernel
theorem dX3_part_44 : decode cX3_part 44 = .ok (.iload_n 2, 1) := by decide +kernel
theorem dX3_part_45 : decode cX3_part 45 = .ok (.iload_n 3, 1) := by decide +kernel
theorem dX3_part_46 : decode cX3_part 46 = .ok (.invokevirtual 108, 3) := by decide +kernel
theorem dX3_part_49 : decode cX3_part 49 = .ok (.areturn, 1) := by decide +kernel
theorem dX3_isEmpty_0 : decode cX3_isEmpty 0 = .ok (.iload_n 1, 1) := by decide +kernel
theorem dX3_isEmpty_1 : decode cX3_isEmpty 1 = .ok (.invokestatic 16, 3) := by decide +kernel
theorem dX3_isEmpty_4 : decode cX3_isEmpty 4 = .ok (.aload_n 0, 1) := by decide +kernel
theorem dX3_isEmpty_5 : decode cX3_isEmpty 5 = .ok (.iload_n 1, 1) := by decide +kernel
theorem dX3_isEmpty_6 : decode cX3_isEmpty 6 = .ok (.invokevirtual 23, 3) := by decide +kernel
theorem dX3_isEmpty_9 : decode cX3_isEmpty 9 = .ok (.aload_n 0, 1) := by decide +kernel
theorem dX3_isEmpty_10 : decode cX3_isEmpty 10 = .ok (.getfield 10, 3) := by decide +kernel
theorem dX3_isEmpty_13 : decode cX3_isEmpty 13 = .ok (.iload_n 1, 1) := by decide +kernel
theorem dX3_isEmpty_14 : decode cX3_isEmpty 14 = .ok (.invokevirtual 33, 3) := by decide +kernel
theorem dX3_isEmpty_17 : decode cX3_isEmpty 17 = .ok (.ifCond .ne 7, 3) := by decide +kernel
theorem dX3_isEmpty_20 : decode cX3_isEmpty 20 = .ok (.iconst 1, 1) := by decide +kernel
theorem dX3_isEmpty_21 : decode cX3_isEmpty 21 = .ok (.goto 4, 3) := by decide +kernel
theorem dX3_isEmpty_24 : decode cX3_isEmpty 24 = .ok (.iconst 0, 1) := by decide +kernel
theorem dX3_isEmpty_25 : decode cX3_isEmpty 25 = .ok (.ireturn, 1) := by decide +kernel
theorem dX3_compare_0 : decode cX3_compare 0 = .ok (.iload_n 1, 1) := by decide +kernel
theorem dX3_compare_1 : decode cX3_compare 1 = .ok (.invokestatic 16, 3) := by decide +kernel
theorem dX3_compare_4 : decode cX3_compare 4 = .ok (.iload_n 2, 1) := by decide +kernel
theorem dX3_compare_5 : decode cX3_compare 5 = .ok (.invokestatic 16, 3) := by decide +kernel
theorem dX3_compare_8 : decode cX3_compare 8 = .ok (.aload_n 0, 1) := by decide +kernel
theorem dX3_compare_9 : decode cX3_compare 9 = .ok (.getfield 10, 3) := by decide +kernel
theorem dX3_compare_12 : decode cX3_compare 12 = .ok (.iload_n 1, 1) := by decide +kernel
theorem dX3_compare_13 : decode cX3_compare 13 = .ok (.invokevirtual 94, 3) := by decide +kernel
theorem dX3_compare_16 : decode cX3_compare 16 = .ok (.ifCond .ne 14, 3) := by decide +kernel
theorem dX3_compare_19 : decode cX3_compare 19 = .ok (.aload_n 0, 1) := by decide +kernel
theorem dX3_compare_20 : decode cX3_compare 20 = .ok (.getfield 10, 3) := by decide +kernel
theorem dX3_compare_23 : decode cX3_compare 23 = .ok (.iload_n 2, 1) := by decide +kernel
theorem dX3_compare_24 : decode cX3_compare 24 = .ok (.invokevirtual 94, 3) := by decide +kernel
theorem dX3_compare_27 : decode cX3_compare 27 = .ok (.ifCond .eq 8, 3) := by decide +kernel
theorem dX3_compare_30 : decode cX3_compare 30 = .ok (.aload_n 0, 1) := by decide +kernel
theorem dX3_compare_31 : decode cX3_compare 31 = .ok (.invokevirtual 52, 3) := by decide +kernel
theorem dX3_compare_34 : decode cX3_compare 34 = .ok (.ireturn, 1) := by decide +kernel
theorem dX3_compare_35 : decode cX3_compare 35 = .ok (.aload_n 0, 1) := by decide +kernel
theorem dX3_compare_36 : decode cX3_compare 36 = .ok (.getfield 10, 3) := by decide +kernel
theorem dX3_compare_39 : decode cX3_compare 39 = .ok (.iload_n 1, 1) := by decide +kernel
theorem dX3_compare_40 : decode cX3_compare 40 = .ok (.iload_n 2, 1) := by decide +kernel
theorem dX3_compare_41 : decode cX3_compare 41 = .ok (.invokevirtual 112, 3) := by decide +kernel
theorem dX3_compare_44 : decode cX3_compare 44 = .ok (.ireturn, 1) := by decide +kernel
theorem dX3_compareParts_0 : decode cX3_compareParts 0 = .ok (.iload_n 1, 1) := by decide +kernel
theorem dX3_compareParts_1 : decode cX3_compareParts 1 = .ok (.invokestatic 16, 3) := by decide +kernel
theorem dX3_compareParts_4 : decode cX3_compareParts 4 = .ok (.iload_n 2, 1) := by decide +kernel
theorem dX3_compareParts_5 : decode cX3_compareParts 5 = .ok (.invokestatic 16, 3) := by decide +kernel
theorem dX3_compareParts_8 : decode cX3_compareParts 8 = .ok (.aload_n 0, 1) := by decide +kernel
theorem dX3_compareParts_9 : decode cX3_compareParts 9 = .ok (.getfield 10, 3) := by decide +kernel
theorem dX3_compareParts_12 : decode cX3_compareParts 12 = .ok (.iload_n 1, 1) := by decide +kernel
theorem dX3_compareParts_13 : decode cX3_compareParts 13 = .ok (.invokevirtual 94, 3) := by decide +kernel
theorem dX3_compareParts_16 : decode cX3_compareParts 16 = .ok (.ifCond .ne 14, 3) := by decide +kernel
theorem dX3_compareParts_19 : decode cX3_compareParts 19 = .ok (.aload_n 0, 1) := by decide +kernel
theorem dX3_compareParts_20 : decode cX3_compareParts 20 = .ok (.getfield 10, 3) := by decide +kernel
theorem dX3_compareParts_23 : decode cX3_compareParts 23 = .ok (.iload_n 2, 1) := by decide +kernel
theorem dX3_compareParts_24 : decode cX3_compareParts 24 = .ok (.invokevirtual 94, 3) := by decide +kernel
theorem dX3_compareParts_27 : decode cX3_compareParts 27 = .ok (.ifCond .eq 8, 3) := by decide +kernel
theorem dX3_compareParts_30 : decode cX3_compareParts 30 = .ok (.aload_n 0, 1) := by decide +kernel
theorem dX3_compareParts_31 : decode cX3_compareParts 31 = .ok (.invokevirtual 52, 3) := by decide +kernel
theorem dX3_compareParts_34 : decode cX3_compareParts 34 = .ok (.ireturn, 1) := by decide +kernel
theorem dX3_compareParts_35 : decode cX3_compareParts 35 = .ok (.iload_n 3, 1) := by decide +kernel
theorem dX3_compareParts_36 : decode cX3_compareParts 36 = .ok (.i2l, 1) := by decide +kernel
theorem dX3_compareParts_37 : decode cX3_compareParts 37 = .ok (.iload 4, 2) := by decide +kernel
theorem dX3_compareParts_39 : decode cX3_compareParts 39 = .ok (.i2l, 1) := by decide +kernel
theorem dX3_compareParts_40 : decode cX3_compareParts 40 = .ok (.aload_n 0, 1) := by decide +kernel
theorem dX3_compareParts_41 : decode cX3_compareParts 41 = .ok (.getfield 10, 3) := by decide +kernel
theorem dX3_compareParts_44 : decode cX3_compareParts 44 = .ok (.iload_n 1, 1) := by decide +kernel
theorem dX3_compareParts_45 : decode cX3_compareParts 45 = .ok (.invokevirtual 33, 3) := by decide +kernel
theorem dX3_compareParts_48 : decode cX3_compareParts 48 = .ok (.i2l, 1) := by decide +kernel
theorem dX3_compareParts_49 : decode cX3_compareParts 49 = .ok (.invokestatic 46, 3) := by decide +kernel
theorem dX3_compareParts_52 : decode cX3_compareParts 52 = .ok (.ifCond .eq 23, 3) := by decide +kernel
theorem dX3_compareParts_55 : decode cX3_compareParts 55 = .ok (.iload_n 3, 1) := by decide +kernel
theorem dX3_compareParts_56 : decode cX3_compareParts 56 = .ok (.i2l, 1) := by decide +kernel
theorem dX3_compareParts_57 : decode cX3_compareParts 57 = .ok (.iload 4, 2) := by decide +kernel
theorem dX3_compareParts_59 : decode cX3_compareParts 59 = .ok (.i2l, 1) := by decide +kernel
theorem dX3_compareParts_60 : decode cX3_compareParts 60 = .ok (.aload_n 0, 1) := by decide +kernel
theorem dX3_compareParts_61 : decode cX3_compareParts 61 = .ok (.getfield 10, 3) := by decide +kernel
theorem dX3_compareParts_64 : decode cX3_compareParts 64 = .ok (.iload_n 2, 1) := by decide +kernel
theorem dX3_compareParts_65 : decode cX3_compareParts 65 = .ok (.invokevirtual 33, 3) := by decide +kernel
theorem dX3_compareParts_68 : decode cX3_compareParts 68 = .ok (.i2l, 1) := by decide +kernel
theorem dX3_compareParts_69 : decode cX3_compareParts 69 = .ok (.invokestatic 46, 3) := by decide +kernel
theorem dX3_compareParts_72 : decode cX3_compareParts 72 = .ok (.ifCond .ne 8, 3) := by decide +kernel
theorem dX3_compareParts_75 : decode cX3_compareParts 75 = .ok (.aload_n 0, 1) := by decide +kernel
theorem dX3_compareParts_76 : decode cX3_compareParts 76 = .ok (.invokevirtual 52, 3) := by decide +kernel
theorem dX3_compareParts_79 : decode cX3_compareParts 79 = .ok (.ireturn, 1) := by decide +kernel
theorem dX3_compareParts_80 : decode cX3_compareParts 80 = .ok (.aload_n 0, 1) := by decide +kernel
theorem dX3_compareParts_81 : decode cX3_compareParts 81 = .ok (.getfield 10, 3) := by decide +kernel
theorem dX3_compareParts_84 : decode cX3_compareParts 84 = .ok (.iload_n 3, 1) := by decide +kernel
theorem dX3_compareParts_85 : decode cX3_compareParts 85 = .ok (.iload_n 1, 1) := by decide +kernel
theorem dX3_compareParts_86 : decode cX3_compareParts 86 = .ok (.iload 4, 2) := by decide +kernel
theorem dX3_compareParts_88 : decode cX3_compareParts 88 = .ok (.iload_n 2, 1) := by decide +kernel
theorem dX3_compareParts_89 : decode cX3_compareParts 89 = .ok (.iload 4, 2) := by decide +kernel
theorem dX3_compareParts_91 : decode cX3_compareParts 91 = .ok (.invokevirtual 115, 3) := by decide +kernel
theorem dX3_compareParts_94 : decode cX3_compareParts 94 = .ok (.ireturn, 1) := by decide +kernel
theorem dX3_isLike_0 : decode cX3_isLike 0 = .ok (.iload_n 1, 1) := by decide +kernel
theorem dX3_isLike_1 : decode cX3_isLike 1 = .ok (.invokestatic 119, 3) := by decide +kernel
theorem dX3_isLike_4 : decode cX3_isLike 4 = .ok (.iload_n 2, 1) := by decide +kernel
theorem dX3_isLike_5 : decode cX3_isLike 5 = .ok (.invokestatic 16, 3) := by decide +kernel
theorem dX3_isLike_8 : decode cX3_isLike 8 = .ok (.aload_n 0, 1) := by decide +kernel
theorem dX3_isLike_9 : decode cX3_isLike 9 = .ok (.iload_n 1, 1) := by decide +kernel
theorem dX3_isLike_10 : decode cX3_isLike 10 = .ok (.invokevirtual 23, 3) := by decide +kernel
theorem dX3_isLike_13 : decode cX3_isLike 13 = .ok (.aload_n 0, 1) := by decide +kernel
theorem dX3_isLike_14 : decode cX3_isLike 14 = .ok (.getfield 10, 3) := by decide +kernel
theorem dX3_isLike_17 : decode cX3_isLike 17 = .ok (.iload_n 2, 1) := by decide +kernel
theorem dX3_isLike_18 : decode cX3_isLike 18 = .ok (.invokevirtual 94, 3) := by decide +kernel
theorem dX3_isLike_21 : decode cX3_isLike 21 = .ok (.ifCond .eq 8, 3) := by decide +kernel
theorem dX3_isLike_24 : decode cX3_isLike 24 = .ok (.aload_n 0, 1) := by decide +kernel
theorem dX3_isLike_25 : decode cX3_isLike 25 = .ok (.invokevirtual 52, 3) := by decide +kernel
theorem dX3_isLike_28 : decode cX3_isLike 28 = .ok (.ireturn, 1) := by decide +kernel
theorem dX3_isLike_29 : decode cX3_isLike 29 = .ok (.aload_n 0, 1) := by decide +kernel
theorem dX3_isLike_30 : decode cX3_isLike 30 = .ok (.getfield 10, 3) := by decide +kernel
theorem dX3_isLike_33 : decode cX3_isLike 33 = .ok (.iload_n 1, 1) := by decide +kernel
theorem dX3_isLike_34 : decode cX3_isLike 34 = .ok (.iload_n 2, 1) := by decide +kernel
theorem dX3_isLike_35 : decode cX3_isLike 35 = .ok (.invokevirtual 122, 3) := by decide +kernel
theorem dX3_isLike_38 : decode cX3_isLike 38 = .ok (.ifCond .eq 7, 3) := by decide +kernel
theorem dX3_isLike_41 : decode cX3_isLike 41 = .ok (.iconst 1, 1) := by decide +kernel
theorem dX3_isLike_42 : decode cX3_isLike 42 = .ok (.goto 4, 3) := by decide +kernel
theorem dX3_isLike_45 : decode cX3_isLike 45 = .ok (.iconst 0, 1) := by decide +kernel
theorem dX3_isLike_46 : decode cX3_isLike 46 = .ok (.ireturn, 1) := by decide +kernel
theorem dX3_order_0 : decode cX3_order 0 = .ok (.iload_n 1, 1) := by decide +kernel
theorem dX3_order_1 : decode cX3_order 1 = .ok (.invokestatic 16, 3) := by decide +kernel
theorem dX3_order_4 : decode cX3_order 4 = .ok (.iload_n 2, 1) := by decide +kernel
theorem dX3_order_5 : decode cX3_order 5 = .ok (.invokestatic 16, 3) := by decide +kernel
theorem dX3_order_8 : decode cX3_order 8 = .ok (.iload_n 3, 1) := by decide +kernel
theorem dX3_order_9 : decode cX3_order 9 = .ok (.iconst 3, 1) := by decide +kernel
theorem dX3_order_10 : decode cX3_order 10 = .ok (.invokestatic 40, 3) := by decide +kernel
theorem dX3_order_13 : decode cX3_order 13 = .ok (.aload_n 0, 1) := by decide +kernel
theorem dX3_order_14 : decode cX3_order 14 = .ok (.iload_n 1, 1) := by decide +kernel
theorem dX3_order_15 : decode cX3_order 15 = .ok (.iload_n 2, 1) := by decide +kernel
theorem dX3_order_16 : decode cX3_order 16 = .ok (.iload_n 3, 1) := by decide +kernel
theorem dX3_order_17 : decode cX3_order 17 = .ok (.invokevirtual 126, 3) := by decide +kernel
theorem dX3_order_20 : decode cX3_order 20 = .ok (.ireturn, 1) := by decide +kernel
theorem dX3_ahead_0 : decode cX3_ahead 0 = .ok (.iload_n 1, 1) := by decide +kernel
theorem dX3_ahead_1 : decode cX3_ahead 1 = .ok (.invokestatic 16, 3) := by decide +kernel
theorem dX3_ahead_4 : decode cX3_ahead 4 = .ok (.iload_n 2, 1) := by decide +kernel
theorem dX3_ahead_5 : decode cX3_ahead 5 = .ok (.iconst 3, 1) := by decide +kernel
theorem dX3_ahead_6 : decode cX3_ahead 6 = .ok (.invokestatic 40, 3) := by decide +kernel
theorem dX3_ahead_9 : decode cX3_ahead 9 = .ok (.iconst 0, 1) := by decide +kernel
theorem dX3_ahead_10 : decode cX3_ahead 10 = .ok (.istore_n 3, 1) := by decide +kernel
theorem dX3_ahead_11 : decode cX3_ahead 11 = .ok (.iconst 0, 1) := by decide +kernel
theorem dX3_ahead_12 : decode cX3_ahead 12 = .ok (.istore 4, 2) := by decide +kernel
theorem dX3_ahead_14 : decode cX3_ahead 14 = .ok (.iload 4, 2) := by decide +kernel
theorem dX3_ahead_16 : decode cX3_ahead 16 = .ok (.bipush 9, 2) := by decide +kernel
theorem dX3_ahead_18 : decode cX3_ahead 18 = .ok (.if_icmp .ge 23, 3) := by decide +kernel
theorem dX3_ahead_21 : decode cX3_ahead 21 = .ok (.aload_n 0, 1) := by decide +kernel
theorem dX3_ahead_22 : decode cX3_ahead 22 = .ok (.iload 4, 2) := by decide +kernel
theorem dX3_ahead_24 : decode cX3_ahead 24 = .ok (.iload_n 1, 1) := by decide +kernel
theorem dX3_ahead_25 : decode cX3_ahead 25 = .ok (.iload_n 2, 1) := by decide +kernel
theorem dX3_ahead_26 : decode cX3_ahead 26 = .ok (.invokevirtual 126, 3) := by decide +kernel
theorem dX3_ahead_29 : decode cX3_ahead 29 = .ok (.ifCond .ge 6, 3) := by decide +kernel
theorem dX3_ahead_32 : decode cX3_ahead 32 = .ok (.iinc 3 1, 3) := by decide +kernel
theorem dX3_ahead_35 : decode cX3_ahead 35 = .ok (.iinc 4 1, 3) := by decide +kernel
theorem dX3_ahead_38 : decode cX3_ahead 38 = .ok (.goto (-24), 3) := by decide +kernel
theorem dX3_ahead_41 : decode cX3_ahead 41 = .ok (.iload_n 3, 1) := by decide +kernel
theorem dX3_ahead_42 : decode cX3_ahead 42 = .ok (.ireturn, 1) := by decide +kernel
theorem dX3_must_0 : decode cX3_must 0 = .ok (.iload_n 1, 1) := by decide +kernel
theorem dX3_must_1 : decode cX3_must 1 = .ok (.invokestatic 16, 3) := by decide +kernel
theorem dX3_must_4 : decode cX3_must 4 = .ok (.aload_n 0, 1) := by decide +kernel
theorem dX3_must_5 : decode cX3_must 5 = .ok (.getfield 10, 3) := by decide +kernel
theorem dX3_must_8 : decode cX3_must 8 = .ok (.iload_n 1, 1) := by decide +kernel
theorem dX3_must_9 : decode cX3_must 9 = .ok (.invokevirtual 94, 3) := by decide +kernel
theorem dX3_must_12 : decode cX3_must 12 = .ok (.ifCond .eq 10, 3) := by decide +kernel
theorem dX3_must_15 : decode cX3_must 15 = .ok (.aload_n 0, 1) := by decide +kernel
theorem dX3_must_16 : decode cX3_must 16 = .ok (.invokevirtual 52, 3) := by decide +kernel
theorem dX3_must_19 : decode cX3_must 19 = .ok (.goto 11, 3) := by decide +kernel
theorem dX3_must_22 : decode cX3_must 22 = .ok (.aload_n 0, 1) := by decide +kernel
theorem dX3_must_23 : decode cX3_must 23 = .ok (.getfield 10, 3) := by decide +kernel
theorem dX3_must_26 : decode cX3_must 26 = .ok (.iload_n 1, 1) := by decide +kernel
theorem dX3_must_27 : decode cX3_must 27 = .ok (.invokevirtual 33, 3) := by decide +kernel
theorem dX3_must_30 : decode cX3_must 30 = .ok (.ireturn, 1) := by decide +kernel
theorem dX3_mustSaying_0 : decode cX3_mustSaying 0 = .ok (.iload_n 1, 1) := by decide +kernel
theorem dX3_mustSaying_1 : decode cX3_mustSaying 1 = .ok (.invokestatic 16, 3) := by decide +kernel
theorem dX3_mustSaying_4 : decode cX3_mustSaying 4 = .ok (.aload_n 0, 1) := by decide +kernel
theorem dX3_mustSaying_5 : decode cX3_mustSaying 5 = .ok (.getfield 10, 3) := by decide +kernel
theorem dX3_mustSaying_8 : decode cX3_mustSaying 8 = .ok (.iload_n 1, 1) := by decide +kernel
theorem dX3_mustSaying_9 : decode cX3_mustSaying 9 = .ok (.invokevirtual 94, 3) := by decide +kernel
theorem dX3_mustSaying_12 : decode cX3_mustSaying 12 = .ok (.ifCond .eq 18, 3) := by decide +kernel
theorem dX3_mustSaying_15 : decode cX3_mustSaying 15 = .ok (.aload_n 0, 1) := by decide +kernel
theorem dX3_mustSaying_16 : decode cX3_mustSaying 16 = .ok (.dup, 1) := by decide +kernel
theorem dX3_mustSaying_17 : decode cX3_mustSaying 17 = .ok (.getfield 129, 3) := by decide +kernel
theorem dX3_mustSaying_20 : decode cX3_mustSaying 20 = .ok (.iconst 1, 1) := by decide +kernel
theorem dX3_mustSaying_21 : decode cX3_mustSaying 21 = .ok (.iadd, 1) := by decide +kernel
theorem dX3_mustSaying_22 : decode cX3_mustSaying 22 = .ok (.putfield 129, 3) := by decide +kernel
theorem dX3_mustSaying_25 : decode cX3_mustSaying 25 = .ok (.aload_n 0, 1) := by decide +kernel
theorem dX3_mustSaying_26 : decode cX3_mustSaying 26 = .ok (.invokevirtual 52, 3) := by decide +kernel
theorem dX3_mustSaying_29 : decode cX3_mustSaying 29 = .ok (.ireturn, 1) := by decide +kernel
theorem dX3_mustSaying_30 : decode cX3_mustSaying 30 = .ok (.aload_n 0, 1) := by decide +kernel
theorem dX3_mustSaying_31 : decode cX3_mustSaying 31 = .ok (.getfield 10, 3) := by decide +kernel
theorem dX3_mustSaying_34 : decode cX3_mustSaying 34 = .ok (.iload_n 1, 1) := by decide +kernel
theorem dX3_mustSaying_35 : decode cX3_mustSaying 35 = .ok (.invokevirtual 33, 3) := by decide +kernel
theorem dX3_mustSaying_38 : decode cX3_mustSaying 38 = .ok (.ireturn, 1) := by decide +kernel
theorem dX3_orElse_0 : decode cX3_orElse 0 = .ok (.iload_n 1, 1) := by decide +kernel
theorem dX3_orElse_1 : decode cX3_orElse 1 = .ok (.invokestatic 16, 3) := by decide +kernel
theorem dX3_orElse_4 : decode cX3_orElse 4 = .ok (.iload_n 2, 1) := by decide +kernel
theorem dX3_orElse_5 : decode cX3_orElse 5 = .ok (.invokestatic 16, 3) := by decide +kernel
theorem dX3_orElse_8 : decode cX3_orElse 8 = .ok (.aload_n 0, 1) := by decide +kernel
theorem dX3_orElse_9 : decode cX3_orElse 9 = .ok (.iload_n 1, 1) := by decide +kernel
theorem dX3_orElse_10 : decode cX3_orElse 10 = .ok (.iload_n 2, 1) := by decide +kernel
theorem dX3_orElse_11 : decode cX3_orElse 11 = .ok (.invokevirtual 133, 3) := by decide +kernel
theorem dX3_orElse_14 : decode cX3_orElse 14 = .ok (.areturn, 1) := by decide +kernel
theorem dX3_orGiven_0 : decode cX3_orGiven 0 = .ok (.iload_n 1, 1) := by decide +kernel
theorem dX3_orGiven_1 : decode cX3_orGiven 1 = .ok (.invokestatic 16, 3) := by decide +kernel
theorem dX3_orGiven_4 : decode cX3_orGiven 4 = .ok (.iload_n 2, 1) := by decide +kernel
theorem dX3_orGiven_5 : decode cX3_orGiven 5 = .ok (.invokestatic 16, 3) := by decide +kernel
theorem dX3_orGiven_8 : decode cX3_orGiven 8 = .ok (.aload_n 0, 1) := by decide +kernel
theorem dX3_orGiven_9 : decode cX3_orGiven 9 = .ok (.getfield 10, 3) := by decide +kernel
theorem dX3_orGiven_12 : decode cX3_orGiven 12 = .ok (.iload_n 1, 1) := by decide +kernel
theorem dX3_orGiven_13 : decode cX3_orGiven 13 = .ok (.invokevirtual 94, 3) := by decide +kernel
theorem dX3_orGiven_16 : decode cX3_orGiven 16 = .ok (.ifCond .eq 13, 3) := by decide +kernel
theorem dX3_orGiven_19 : decode cX3_orGiven 19 = .ok (.aload_n 0, 1) := by decide +kernel
theorem dX3_orGiven_20 : decode cX3_orGiven 20 = .ok (.dup, 1) := by decide +kernel
theorem dX3_orGiven_21 : decode cX3_orGiven 21 = .ok (.getfield 129, 3) := by decide +kernel
theorem dX3_orGiven_24 : decode cX3_orGiven 24 = .ok (.iconst 1, 1) := by decide +kernel
theorem dX3_orGiven_25 : decode cX3_orGiven 25 = .ok (.iadd, 1) := by decide +kernel
theorem dX3_orGiven_26 : decode cX3_orGiven 26 = .ok (.putfield 129, 3) := by decide +kernel
theorem dX3_orGiven_29 : decode cX3_orGiven 29 = .ok (.aload_n 0, 1) := by decide +kernel
theorem dX3_orGiven_30 : decode cX3_orGiven 30 = .ok (.iload_n 1, 1) := by decide +kernel
theorem dX3_orGiven_31 : decode cX3_orGiven 31 = .ok (.iload_n 2, 1) := by decide +kernel
theorem dX3_orGiven_32 : decode cX3_orGiven 32 = .ok (.invokevirtual 133, 3) := by decide +kernel
theorem dX3_orGiven_35 : decode cX3_orGiven 35 = .ok (.areturn, 1) := by decide +kernel
theorem dX3_isMissing_0 : decode cX3_isMissing 0 = .ok (.iload_n 1, 1) := by decide +kernel
theorem dX3_isMissing_1 : decode cX3_isMissing 1 = .ok (.invokestatic 16, 3) := by decide +kernel
theorem dX3_isMissing_4 : decode cX3_isMissing 4 = .ok (.aload_n 0, 1) := by decide +kernel
theorem dX3_isMissing_5 : decode cX3_isMissing 5 = .ok (.getfield 10, 3) := by decide +kernel
theorem dX3_isMissing_8 : decode cX3_isMissing 8 = .ok (.iload_n 1, 1) := by decide +kernel
theorem dX3_isMissing_9 : decode cX3_isMissing 9 = .ok (.invokevirtual 94, 3) := by decide +kernel
theorem dX3_isMissing_12 : decode cX3_isMissing 12 = .ok (.ireturn, 1) := by decide +kernel
theorem dX3_isThere_0 : decode cX3_isThere 0 = .ok (.iload_n 1, 1) := by decide +kernel
theorem dX3_isThere_1 : decode cX3_isThere 1 = .ok (.invokestatic 16, 3) := by decide +kernel
theorem dX3_isThere_4 : decode cX3_isThere 4 = .ok (.aload_n 0, 1) := by decide +kernel
theorem dX3_isThere_5 : decode cX3_isThere 5 = .ok (.getfield 10, 3) := by decide +kernel
theorem dX3_isThere_8 : decode cX3_isThere 8 = .ok (.iload_n 1, 1) := by decide +kernel
theorem dX3_isThere_9 : decode cX3_isThere 9 = .ok (.invokevirtual 94, 3) := by decide +kernel
theorem dX3_isThere_12 : decode cX3_isThere 12 = .ok (.ifCond .ne 7, 3) := by decide +kernel
theorem dX3_isThere_15 : decode cX3_isThere 15 = .ok (.iconst 1, 1) := by decide +kernel
theorem dX3_isThere_16 : decode cX3_isThere 16 = .ok (.goto 4, 3) := by decide +kernel
theorem dX3_isThere_19 : decode cX3_isThere 19 = .ok (.iconst 0, 1) := by decide +kernel
theorem dX3_isThere_20 : decode cX3_isThere 20 = .ok (.ireturn, 1) := by decide +kernel
theorem dX3_areSame_0 : decode cX3_areSame 0 = .ok (.iload_n 1, 1) := by decide +kernel
theorem dX3_areSame_1 : decode cX3_areSame 1 = .ok (.invokestatic 16, 3) := by decide +kernel
theorem dX3_areSame_4 : decode cX3_areSame 4 = .ok (.iload_n 2, 1) := by decide +kernel
theorem dX3_areSame_5 : decode cX3_areSame 5 = .ok (.invokestatic 16, 3) := by decide +kernel
theorem dX3_areSame_8 : decode cX3_areSame 8 = .ok (.aload_n 0, 1) := by decide +kernel
theorem dX3_areSame_9 : decode cX3_areSame 9 = .ok (.getfield 10, 3) := by decide +kernel
theorem dX3_areSame_12 : decode cX3_areSame 12 = .ok (.iload_n 1, 1) := by decide +kernel
theorem dX3_areSame_13 : decode cX3_areSame 13 = .ok (.iload_n 2, 1) := by decide +kernel
theorem dX3_areSame_14 : decode cX3_areSame 14 = .ok (.invokevirtual 122, 3) := by decide +kernel
theorem dX3_areSame_17 : decode cX3_areSame 17 = .ok (.ireturn, 1) := by decide +kernel
theorem dX3_code_0 : decode cX3_code 0 = .ok (.iload_n 1, 1) := by decide +kernel
theorem dX3_code_1 : decode cX3_code 1 = .ok (.invokestatic 16, 3) := by decide +kernel
theorem dX3_code_4 : decode cX3_code 4 = .ok (.aload_n 0, 1) := by decide +kernel
theorem dX3_code_5 : decode cX3_code 5 = .ok (.getfield 10, 3) := by decide +kernel
theorem dX3_code_8 : decode cX3_code 8 = .ok (.iload_n 1, 1) := by decide +kernel
theorem dX3_code_9 : decode cX3_code 9 = .ok (.invokevirtual 137, 3) := by decide +kernel
theorem dX3_code_12 : decode cX3_code 12 = .ok (.ireturn, 1) := by decide +kernel
theorem dX3_codes_0 : decode cX3_codes 0 = .ok (.iload_n 1, 1) := by decide +kernel
theorem dX3_codes_1 : decode cX3_codes 1 = .ok (.invokestatic 16, 3) := by decide +kernel
theorem dX3_codes_4 : decode cX3_codes 4 = .ok (.iload_n 2, 1) := by decide +kernel
theorem dX3_codes_5 : decode cX3_codes 5 = .ok (.invokestatic 16, 3) := by decide +kernel
theorem dX3_codes_8 : decode cX3_codes 8 = .ok (.iload_n 3, 1) := by decide +kernel
theorem dX3_codes_9 : decode cX3_codes 9 = .ok (.invokestatic 16, 3) := by decide +kernel
theorem dX3_codes_12 : decode cX3_codes 12 = .ok (.aload_n 0, 1) := by decide +kernel
theorem dX3_codes_13 : decode cX3_codes 13 = .ok (.getfield 10, 3) := by decide +kernel
theorem dX3_codes_16 : decode cX3_codes 16 = .ok (.iload_n 1, 1) := by decide +kernel
theorem dX3_codes_17 : decode cX3_codes 17 = .ok (.iload_n 2, 1) := by decide +kernel
theorem dX3_codes_18 : decode cX3_codes 18 = .ok (.iload_n 3, 1) := by decide +kernel
theorem dX3_codes_19 : decode cX3_codes 19 = .ok (.invokevirtual 140, 3) := by decide +kernel
theorem dX3_codes_22 : decode cX3_codes 22 = .ok (.ireturn, 1) := by decide +kernel
theorem dX3_knock_0 : decode cX3_knock 0 = .ok (.aload_n 0, 1) := by decide +kernel
theorem dX3_knock_1 : decode cX3_knock 1 = .ok (.dup, 1) := by decide +kernel
theorem dX3_knock_2 : decode cX3_knock 2 = .ok (.getfield 143, 3) := by decide +kernel
theorem dX3_knock_5 : decode cX3_knock 5 = .ok (.iconst 1, 1) := by decide +kernel
theorem dX3_knock_6 : decode cX3_knock 6 = .ok (.iadd, 1) := by decide +kernel
theorem dX3_knock_7 : decode cX3_knock 7 = .ok (.putfield 143, 3) := by decide +kernel
theorem dX3_knock_10 : decode cX3_knock 10 = .ok (.aload_n 0, 1) := by decide +kernel
theorem dX3_knock_11 : decode cX3_knock 11 = .ok (.getfield 143, 3) := by decide +kernel
theorem dX3_knock_14 : decode cX3_knock 14 = .ok (.ireturn, 1) := by decide +kernel
theorem dX3_house_0 : decode cX3_house 0 = .ok (.iload_n 1, 1) := by decide +kernel
theorem dX3_house_1 : decode cX3_house 1 = .ok (.iconst 5, 1) := by decide +kernel
theorem dX3_house_2 : decode cX3_house 2 = .ok (.invokestatic 40, 3) := by decide +kernel
theorem dX3_house_5 : decode cX3_house 5 = .ok (.aload_n 0, 1) := by decide +kernel
theorem dX3_house_6 : decode cX3_house 6 = .ok (.iload_n 1, 1) := by decide +kernel
theorem dX3_house_7 : decode cX3_house 7 = .ok (.invokevirtual 146, 3) := by decide +kernel
theorem dX3_house_10 : decode cX3_house 10 = .ok (.ireturn, 1) := by decide +kernel
theorem dX3_isSound_0 : decode cX3_isSound 0 = .ok (.aload_n 0, 1) := by decide +kernel
theorem dX3_isSound_1 : decode cX3_isSound 1 = .ok (.getfield 10, 3) := by decide +kernel
theorem dX3_isSound_4 : decode cX3_isSound 4 = .ok (.invokestatic 149, 3) := by decide +kernel
theorem dX3_isSound_7 : decode cX3_isSound 7 = .ok (.ireturn, 1) := by decide +kernel
theorem dX3_digest_0 : decode cX3_digest 0 = .ok (.ldc2_w 155, 3) := by decide +kernel
theorem dX3_digest_3 : decode cX3_digest 3 = .ok (.lstore_n 1, 1) := by decide +kernel
theorem dX3_digest_4 : decode cX3_digest 4 = .ok (.iconst 0, 1) := by decide +kernel
theorem dX3_digest_5 : decode cX3_digest 5 = .ok (.istore_n 3, 1) := by decide +kernel
theorem dX3_digest_6 : decode cX3_digest 6 = .ok (.iload_n 3, 1) := by decide +kernel
theorem dX3_digest_7 : decode cX3_digest 7 = .ok (.iconst 5, 1) := by decide +kernel
theorem dX3_digest_8 : decode cX3_digest 8 = .ok (.if_icmp .gt 22, 3) := by decide +kernel
theorem dX3_digest_11 : decode cX3_digest 11 = .ok (.lload_n 1, 1) := by decide +kernel
theorem dX3_digest_12 : decode cX3_digest 12 = .ok (.ldc2_w 157, 3) := by decide +kernel
theorem dX3_digest_15 : decode cX3_digest 15 = .ok (.lmul, 1) := by decide +kernel
theorem dX3_digest_16 : decode cX3_digest 16 = .ok (.aload_n 0, 1) := by decide +kernel
theorem dX3_digest_17 : decode cX3_digest 17 = .ok (.iload_n 3, 1) := by decide +kernel
theorem dX3_digest_18 : decode cX3_digest 18 = .ok (.invokevirtual 146, 3) := by decide +kernel
theorem dX3_digest_21 : decode cX3_digest 21 = .ok (.i2l, 1) := by decide +kernel
theorem dX3_digest_22 : decode cX3_digest 22 = .ok (.ladd, 1) := by decide +kernel
theorem dX3_digest_23 : decode cX3_digest 23 = .ok (.lstore_n 1, 1) := by decide +kernel
theorem dX3_digest_24 : decode cX3_digest 24 = .ok (.iinc 3 1, 3) := by decide +kernel
theorem dX3_digest_27 : decode cX3_digest 27 = .ok (.goto (-21), 3) := by decide +kernel
theorem dX3_digest_30 : decode cX3_digest 30 = .ok (.iconst 0, 1) := by decide +kernel
theorem dX3_digest_31 : decode cX3_digest 31 = .ok (.istore_n 3, 1) := by decide +kernel
theorem dX3_digest_32 : decode cX3_digest 32 = .ok (.iload_n 3, 1) := by decide +kernel
theorem dX3_digest_33 : decode cX3_digest 33 = .ok (.bipush 9, 2) := by decide +kernel
theorem dX3_digest_35 : decode cX3_digest 35 = .ok (.if_icmp .ge 41, 3) := by decide +kernel
theorem dX3_digest_38 : decode cX3_digest 38 = .ok (.lload_n 1, 1) := by decide +kernel
theorem dX3_digest_39 : decode cX3_digest 39 = .ok (.ldc2_w 157, 3) := by decide +kernel
theorem dX3_digest_42 : decode cX3_digest 42 = .ok (.lmul, 1) := by decide +kernel
theorem dX3_digest_43 : decode cX3_digest 43 = .ok (.aload_n 0, 1) := by decide +kernel
theorem dX3_digest_44 : decode cX3_digest 44 = .ok (.getfield 10, 3) := by decide +kernel
theorem dX3_digest_47 : decode cX3_digest 47 = .ok (.iload_n 3, 1) := by decide +kernel
theorem dX3_digest_48 : decode cX3_digest 48 = .ok (.invokevirtual 33, 3) := by decide +kernel
theorem dX3_digest_51 : decode cX3_digest 51 = .ok (.i2l, 1) := by decide +kernel
theorem dX3_digest_52 : decode cX3_digest 52 = .ok (.ladd, 1) := by decide +kernel
theorem dX3_digest_53 : decode cX3_digest 53 = .ok (.lstore_n 1, 1) := by decide +kernel
theorem dX3_digest_54 : decode cX3_digest 54 = .ok (.lload_n 1, 1) := by decide +kernel
theorem dX3_digest_55 : decode cX3_digest 55 = .ok (.ldc2_w 157, 3) := by decide +kernel
theorem dX3_digest_58 : decode cX3_digest 58 = .ok (.lmul, 1) := by decide +kernel
theorem dX3_digest_59 : decode cX3_digest 59 = .ok (.aload_n 0, 1) := by decide +kernel
theorem dX3_digest_60 : decode cX3_digest 60 = .ok (.getfield 10, 3) := by decide +kernel
theorem dX3_digest_63 : decode cX3_digest 63 = .ok (.iload_n 3, 1) := by decide +kernel
theorem dX3_digest_64 : decode cX3_digest 64 = .ok (.invokevirtual 137, 3) := by decide +kernel
theorem dX3_digest_67 : decode cX3_digest 67 = .ok (.i2l, 1) := by decide +kernel
theorem dX3_digest_68 : decode cX3_digest 68 = .ok (.ladd, 1) := by decide +kernel
end
section
theorem dX3_digest_69 : decode cX3_digest 69 = .ok (.lstore_n 1, 1) := by decide +kernel
theorem dX3_digest_70 : decode cX3_digest 70 = .ok (.iinc 3 1, 3) := by decide +kernel
theorem dX3_digest_73 : decode cX3_digest 73 = .ok (.goto (-41), 3) := by decide +kernel
theorem dX3_digest_76 : decode cX3_digest 76 = .ok (.iconst 0, 1) := by decide +kernel
theorem dX3_digest_77 : decode cX3_digest 77 = .ok (.istore_n 3, 1) := by decide +kernel
theorem dX3_digest_78 : decode cX3_digest 78 = .ok (.iload_n 3, 1) := by decide +kernel
theorem dX3_digest_79 : decode cX3_digest 79 = .ok (.bipush 9, 2) := by decide +kernel
theorem dX3_digest_81 : decode cX3_digest 81 = .ok (.if_icmp .ge 60, 3) := by decide +kernel
theorem dX3_digest_84 : decode cX3_digest 84 = .ok (.iconst 0, 1) := by decide +kernel
theorem dX3_digest_85 : decode cX3_digest 85 = .ok (.istore 4, 2) := by decide +kernel
theorem dX3_digest_87 : decode cX3_digest 87 = .ok (.iload 4, 2) := by decide +kernel
theorem dX3_digest_89 : decode cX3_digest 89 = .ok (.bipush 9, 2) := by decide +kernel
theorem dX3_digest_91 : decode cX3_digest 91 = .ok (.if_icmp .ge 44, 3) := by decide +kernel
theorem dX3_digest_94 : decode cX3_digest 94 = .ok (.iconst 0, 1) := by decide +kernel
theorem dX3_digest_95 : decode cX3_digest 95 = .ok (.istore 5, 2) := by decide +kernel
theorem dX3_digest_97 : decode cX3_digest 97 = .ok (.iload 5, 2) := by decide +kernel
theorem dX3_digest_99 : decode cX3_digest 99 = .ok (.iconst 3, 1) := by decide +kernel
theorem dX3_digest_100 : decode cX3_digest 100 = .ok (.if_icmp .gt 29, 3) := by decide +kernel
theorem dX3_digest_103 : decode cX3_digest 103 = .ok (.lload_n 1, 1) := by decide +kernel
theorem dX3_digest_104 : decode cX3_digest 104 = .ok (.ldc2_w 157, 3) := by decide +kernel
theorem dX3_digest_107 : decode cX3_digest 107 = .ok (.lmul, 1) := by decide +kernel
theorem dX3_digest_108 : decode cX3_digest 108 = .ok (.aload_n 0, 1) := by decide +kernel
theorem dX3_digest_109 : decode cX3_digest 109 = .ok (.getfield 10, 3) := by decide +kernel
theorem dX3_digest_112 : decode cX3_digest 112 = .ok (.iload_n 3, 1) := by decide +kernel
theorem dX3_digest_113 : decode cX3_digest 113 = .ok (.iload 4, 2) := by decide +kernel
theorem dX3_digest_115 : decode cX3_digest 115 = .ok (.iload 5, 2) := by decide +kernel
theorem dX3_digest_117 : decode cX3_digest 117 = .ok (.invokevirtual 159, 3) := by decide +kernel
theorem dX3_digest_120 : decode cX3_digest 120 = .ok (.i2l, 1) := by decide +kernel
theorem dX3_digest_121 : decode cX3_digest 121 = .ok (.ladd, 1) := by decide +kernel
theorem dX3_digest_122 : decode cX3_digest 122 = .ok (.lstore_n 1, 1) := by decide +kernel
theorem dX3_digest_123 : decode cX3_digest 123 = .ok (.iinc 5 1, 3) := by decide +kernel
theorem dX3_digest_126 : decode cX3_digest 126 = .ok (.goto (-29), 3) := by decide +kernel
theorem dX3_digest_129 : decode cX3_digest 129 = .ok (.iinc 4 1, 3) := by decide +kernel
theorem dX3_digest_132 : decode cX3_digest 132 = .ok (.goto (-45), 3) := by decide +kernel
theorem dX3_digest_135 : decode cX3_digest 135 = .ok (.iinc 3 1, 3) := by decide +kernel
theorem dX3_digest_138 : decode cX3_digest 138 = .ok (.goto (-60), 3) := by decide +kernel
theorem dX3_digest_141 : decode cX3_digest 141 = .ok (.iconst 0, 1) := by decide +kernel
theorem dX3_digest_142 : decode cX3_digest 142 = .ok (.istore_n 3, 1) := by decide +kernel
theorem dX3_digest_143 : decode cX3_digest 143 = .ok (.iload_n 3, 1) := by decide +kernel
theorem dX3_digest_144 : decode cX3_digest 144 = .ok (.iconst 3, 1) := by decide +kernel
theorem dX3_digest_145 : decode cX3_digest 145 = .ok (.if_icmp .ge 32, 3) := by decide +kernel
theorem dX3_digest_148 : decode cX3_digest 148 = .ok (.lload_n 1, 1) := by decide +kernel
theorem dX3_digest_149 : decode cX3_digest 149 = .ok (.ldc2_w 157, 3) := by decide +kernel
theorem dX3_digest_152 : decode cX3_digest 152 = .ok (.lmul, 1) := by decide +kernel
theorem dX3_digest_153 : decode cX3_digest 153 = .ok (.aload_n 0, 1) := by decide +kernel
theorem dX3_digest_154 : decode cX3_digest 154 = .ok (.getfield 10, 3) := by decide +kernel
theorem dX3_digest_157 : decode cX3_digest 157 = .ok (.iload_n 3, 1) := by decide +kernel
theorem dX3_digest_158 : decode cX3_digest 158 = .ok (.iload_n 3, 1) := by decide +kernel
theorem dX3_digest_159 : decode cX3_digest 159 = .ok (.iconst 3, 1) := by decide +kernel
theorem dX3_digest_160 : decode cX3_digest 160 = .ok (.iadd, 1) := by decide +kernel
theorem dX3_digest_161 : decode cX3_digest 161 = .ok (.iload_n 3, 1) := by decide +kernel
theorem dX3_digest_162 : decode cX3_digest 162 = .ok (.bipush 6, 2) := by decide +kernel
theorem dX3_digest_164 : decode cX3_digest 164 = .ok (.iadd, 1) := by decide +kernel
theorem dX3_digest_165 : decode cX3_digest 165 = .ok (.invokevirtual 140, 3) := by decide +kernel
theorem dX3_digest_168 : decode cX3_digest 168 = .ok (.i2l, 1) := by decide +kernel
theorem dX3_digest_169 : decode cX3_digest 169 = .ok (.ladd, 1) := by decide +kernel
theorem dX3_digest_170 : decode cX3_digest 170 = .ok (.lstore_n 1, 1) := by decide +kernel
theorem dX3_digest_171 : decode cX3_digest 171 = .ok (.iinc 3 1, 3) := by decide +kernel
theorem dX3_digest_174 : decode cX3_digest 174 = .ok (.goto (-31), 3) := by decide +kernel
theorem dX3_digest_177 : decode cX3_digest 177 = .ok (.lload_n 1, 1) := by decide +kernel
theorem dX3_digest_178 : decode cX3_digest 178 = .ok (.ldc2_w 157, 3) := by decide +kernel
theorem dX3_digest_181 : decode cX3_digest 181 = .ok (.lmul, 1) := by decide +kernel
theorem dX3_digest_182 : decode cX3_digest 182 = .ok (.aload_n 0, 1) := by decide +kernel
theorem dX3_digest_183 : decode cX3_digest 183 = .ok (.getfield 10, 3) := by decide +kernel
theorem dX3_digest_186 : decode cX3_digest 186 = .ok (.invokestatic 149, 3) := by decide +kernel
theorem dX3_digest_189 : decode cX3_digest 189 = .ok (.ifCond .eq 7, 3) := by decide +kernel
theorem dX3_digest_192 : decode cX3_digest 192 = .ok (.iconst 1, 1) := by decide +kernel
theorem dX3_digest_193 : decode cX3_digest 193 = .ok (.goto 4, 3) := by decide +kernel
theorem dX3_digest_196 : decode cX3_digest 196 = .ok (.iconst 0, 1) := by decide +kernel
theorem dX3_digest_197 : decode cX3_digest 197 = .ok (.i2l, 1) := by decide +kernel
theorem dX3_digest_198 : decode cX3_digest 198 = .ok (.ladd, 1) := by decide +kernel
theorem dX3_digest_199 : decode cX3_digest 199 = .ok (.lreturn, 1) := by decide +kernel
theorem dX3_refuse_0 : decode cX3_refuse 0 = .ok (.aload_n 0, 1) := by decide +kernel
theorem dX3_refuse_1 : decode cX3_refuse 1 = .ok (.dup, 1) := by decide +kernel
theorem dX3_refuse_2 : decode cX3_refuse 2 = .ok (.getfield 162, 3) := by decide +kernel
theorem dX3_refuse_5 : decode cX3_refuse 5 = .ok (.iconst 1, 1) := by decide +kernel
theorem dX3_refuse_6 : decode cX3_refuse 6 = .ok (.iadd, 1) := by decide +kernel
theorem dX3_refuse_7 : decode cX3_refuse 7 = .ok (.putfield 162, 3) := by decide +kernel
theorem dX3_refuse_10 : decode cX3_refuse 10 = .ok (.bipush (-9), 2) := by decide +kernel
theorem dX3_refuse_12 : decode cX3_refuse 12 = .ok (.ireturn, 1) := by decide +kernel
theorem dX3_refuseText_0 : decode cX3_refuseText 0 = .ok (.aload_n 0, 1) := by decide +kernel
theorem dX3_refuseText_1 : decode cX3_refuseText 1 = .ok (.dup, 1) := by decide +kernel
theorem dX3_refuseText_2 : decode cX3_refuseText 2 = .ok (.getfield 162, 3) := by decide +kernel
theorem dX3_refuseText_5 : decode cX3_refuseText 5 = .ok (.iconst 1, 1) := by decide +kernel
theorem dX3_refuseText_6 : decode cX3_refuseText 6 = .ok (.iadd, 1) := by decide +kernel
theorem dX3_refuseText_7 : decode cX3_refuseText 7 = .ok (.putfield 162, 3) := by decide +kernel
theorem dX3_refuseText_10 : decode cX3_refuseText 10 = .ok (.ldc 165, 2) := by decide +kernel
theorem dX3_refuseText_12 : decode cX3_refuseText 12 = .ok (.areturn, 1) := by decide +kernel
theorem dX3_askOrder_0 : decode cX3_askOrder 0 = .ok (.iload_n 1, 1) := by decide +kernel
theorem dX3_askOrder_1 : decode cX3_askOrder 1 = .ok (.iload_n 2, 1) := by decide +kernel
theorem dX3_askOrder_2 : decode cX3_askOrder 2 = .ok (.if_icmp .eq 35, 3) := by decide +kernel
theorem dX3_askOrder_5 : decode cX3_askOrder 5 = .ok (.aload_n 0, 1) := by decide +kernel
theorem dX3_askOrder_6 : decode cX3_askOrder 6 = .ok (.getfield 10, 3) := by decide +kernel
theorem dX3_askOrder_9 : decode cX3_askOrder 9 = .ok (.iload_n 1, 1) := by decide +kernel
theorem dX3_askOrder_10 : decode cX3_askOrder 10 = .ok (.invokevirtual 94, 3) := by decide +kernel
theorem dX3_askOrder_13 : decode cX3_askOrder 13 = .ok (.ifCond .eq 14, 3) := by decide +kernel
theorem dX3_askOrder_16 : decode cX3_askOrder 16 = .ok (.aload_n 0, 1) := by decide +kernel
theorem dX3_askOrder_17 : decode cX3_askOrder 17 = .ok (.getfield 10, 3) := by decide +kernel
theorem dX3_askOrder_20 : decode cX3_askOrder 20 = .ok (.iload_n 2, 1) := by decide +kernel
theorem dX3_askOrder_21 : decode cX3_askOrder 21 = .ok (.invokevirtual 94, 3) := by decide +kernel
theorem dX3_askOrder_24 : decode cX3_askOrder 24 = .ok (.ifCond .ne 13, 3) := by decide +kernel
theorem dX3_askOrder_27 : decode cX3_askOrder 27 = .ok (.aload_n 0, 1) := by decide +kernel
theorem dX3_askOrder_28 : decode cX3_askOrder 28 = .ok (.dup, 1) := by decide +kernel
theorem dX3_askOrder_29 : decode cX3_askOrder 29 = .ok (.getfield 167, 3) := by decide +kernel
theorem dX3_askOrder_32 : decode cX3_askOrder 32 = .ok (.iconst 1, 1) := by decide +kernel
theorem dX3_askOrder_33 : decode cX3_askOrder 33 = .ok (.iadd, 1) := by decide +kernel
theorem dX3_askOrder_34 : decode cX3_askOrder 34 = .ok (.putfield 167, 3) := by decide +kernel
theorem dX3_askOrder_37 : decode cX3_askOrder 37 = .ok (.aload_n 0, 1) := by decide +kernel
theorem dX3_askOrder_38 : decode cX3_askOrder 38 = .ok (.getfield 10, 3) := by decide +kernel
theorem dX3_askOrder_41 : decode cX3_askOrder 41 = .ok (.iload_n 1, 1) := by decide +kernel
theorem dX3_askOrder_42 : decode cX3_askOrder 42 = .ok (.iload_n 2, 1) := by decide +kernel
theorem dX3_askOrder_43 : decode cX3_askOrder 43 = .ok (.iload_n 3, 1) := by decide +kernel
theorem dX3_askOrder_44 : decode cX3_askOrder 44 = .ok (.invokevirtual 159, 3) := by decide +kernel
theorem dX3_askOrder_47 : decode cX3_askOrder 47 = .ok (.ireturn, 1) := by decide +kernel
theorem dX3_spellEither_0 : decode cX3_spellEither 0 = .ok (.aload_n 0, 1) := by decide +kernel
theorem dX3_spellEither_1 : decode cX3_spellEither 1 = .ok (.getfield 10, 3) := by decide +kernel
theorem dX3_spellEither_4 : decode cX3_spellEither 4 = .ok (.iload_n 1, 1) := by decide +kernel
theorem dX3_spellEither_5 : decode cX3_spellEither 5 = .ok (.invokevirtual 94, 3) := by decide +kernel
theorem dX3_spellEither_8 : decode cX3_spellEither 8 = .ok (.ifCond .ne 12, 3) := by decide +kernel
theorem dX3_spellEither_11 : decode cX3_spellEither 11 = .ok (.aload_n 0, 1) := by decide +kernel
theorem dX3_spellEither_12 : decode cX3_spellEither 12 = .ok (.getfield 10, 3) := by decide +kernel
theorem dX3_spellEither_15 : decode cX3_spellEither 15 = .ok (.iload_n 1, 1) := by decide +kernel
theorem dX3_spellEither_16 : decode cX3_spellEither 16 = .ok (.invokevirtual 100, 3) := by decide +kernel
theorem dX3_spellEither_19 : decode cX3_spellEither 19 = .ok (.areturn, 1) := by decide +kernel
theorem dX3_spellEither_20 : decode cX3_spellEither 20 = .ok (.aload_n 0, 1) := by decide +kernel
theorem dX3_spellEither_21 : decode cX3_spellEither 21 = .ok (.getfield 10, 3) := by decide +kernel
theorem dX3_spellEither_24 : decode cX3_spellEither 24 = .ok (.iload_n 2, 1) := by decide +kernel
theorem dX3_spellEither_25 : decode cX3_spellEither 25 = .ok (.invokevirtual 94, 3) := by decide +kernel
theorem dX3_spellEither_28 : decode cX3_spellEither 28 = .ok (.ifCond .eq 10, 3) := by decide +kernel
theorem dX3_spellEither_31 : decode cX3_spellEither 31 = .ok (.aload_n 0, 1) := by decide +kernel
theorem dX3_spellEither_32 : decode cX3_spellEither 32 = .ok (.invokevirtual 104, 3) := by decide +kernel
theorem dX3_spellEither_35 : decode cX3_spellEither 35 = .ok (.goto 11, 3) := by decide +kernel
theorem dX3_spellEither_38 : decode cX3_spellEither 38 = .ok (.aload_n 0, 1) := by decide +kernel
theorem dX3_spellEither_39 : decode cX3_spellEither 39 = .ok (.getfield 10, 3) := by decide +kernel
theorem dX3_spellEither_42 : decode cX3_spellEither 42 = .ok (.iload_n 2, 1) := by decide +kernel
theorem dX3_spellEither_43 : decode cX3_spellEither 43 = .ok (.invokevirtual 100, 3) := by decide +kernel
theorem dX3_spellEither_46 : decode cX3_spellEither 46 = .ok (.areturn, 1) := by decide +kernel
theorem dX3_tell_0 : decode cX3_tell 0 = .ok (.iload_n 1, 1) := by decide +kernel
theorem dX3_tell_1 : decode cX3_tell 1 = .ok (.tableswitch 66 0 4 #[35, 43, 51, 56, 61], 35) := by decide +kernel
theorem dX3_tell_36 : decode cX3_tell 36 = .ok (.aload_n 0, 1) := by decide +kernel
theorem dX3_tell_37 : decode cX3_tell 37 = .ok (.getfield 10, 3) := by decide +kernel
theorem dX3_tell_40 : decode cX3_tell 40 = .ok (.invokevirtual 170, 3) := by decide +kernel
theorem dX3_tell_43 : decode cX3_tell 43 = .ok (.ireturn, 1) := by decide +kernel
theorem dX3_tell_44 : decode cX3_tell 44 = .ok (.aload_n 0, 1) := by decide +kernel
theorem dX3_tell_45 : decode cX3_tell 45 = .ok (.getfield 10, 3) := by decide +kernel
theorem dX3_tell_48 : decode cX3_tell 48 = .ok (.invokevirtual 173, 3) := by decide +kernel
theorem dX3_tell_51 : decode cX3_tell 51 = .ok (.ireturn, 1) := by decide +kernel
theorem dX3_tell_52 : decode cX3_tell 52 = .ok (.aload_n 0, 1) := by decide +kernel
theorem dX3_tell_53 : decode cX3_tell 53 = .ok (.getfield 162, 3) := by decide +kernel
theorem dX3_tell_56 : decode cX3_tell 56 = .ok (.ireturn, 1) := by decide +kernel
theorem dX3_tell_57 : decode cX3_tell 57 = .ok (.aload_n 0, 1) := by decide +kernel
theorem dX3_tell_58 : decode cX3_tell 58 = .ok (.getfield 167, 3) := by decide +kernel
theorem dX3_tell_61 : decode cX3_tell 61 = .ok (.ireturn, 1) := by decide +kernel
theorem dX3_tell_62 : decode cX3_tell 62 = .ok (.aload_n 0, 1) := by decide +kernel
theorem dX3_tell_63 : decode cX3_tell 63 = .ok (.getfield 129, 3) := by decide +kernel
theorem dX3_tell_66 : decode cX3_tell 66 = .ok (.ireturn, 1) := by decide +kernel
theorem dX3_tell_67 : decode cX3_tell 67 = .ok (.aload_n 0, 1) := by decide +kernel
theorem dX3_tell_68 : decode cX3_tell 68 = .ok (.getfield 143, 3) := by decide +kernel
theorem dX3_tell_71 : decode cX3_tell 71 = .ok (.ireturn, 1) := by decide +kernel
theorem dX3_wantSeat_0 : decode cX3_wantSeat 0 = .ok (.iload_n 0, 1) := by decide +kernel
theorem dX3_wantSeat_1 : decode cX3_wantSeat 1 = .ok (.ifCond .lt 9, 3) := by decide +kernel
theorem dX3_wantSeat_4 : decode cX3_wantSeat 4 = .ok (.iload_n 0, 1) := by decide +kernel
theorem dX3_wantSeat_5 : decode cX3_wantSeat 5 = .ok (.bipush 9, 2) := by decide +kernel
theorem dX3_wantSeat_7 : decode cX3_wantSeat 7 = .ok (.if_icmp .lt 13, 3) := by decide +kernel
theorem dX3_wantSeat_10 : decode cX3_wantSeat 10 = .ok (.new 176, 3) := by decide +kernel
theorem dX3_wantSeat_13 : decode cX3_wantSeat 13 = .ok (.dup, 1) := by decide +kernel
theorem dX3_wantSeat_14 : decode cX3_wantSeat 14 = .ok (.ldc 178, 2) := by decide +kernel
theorem dX3_wantSeat_16 : decode cX3_wantSeat 16 = .ok (.invokespecial 180, 3) := by decide +kernel
theorem dX3_wantSeat_19 : decode cX3_wantSeat 19 = .ok (.athrow, 1) := by decide +kernel
theorem dX3_wantSeat_20 : decode cX3_wantSeat 20 = .ok (.return_, 1) := by decide +kernel
theorem dX3_wantPaper_0 : decode cX3_wantPaper 0 = .ok (.iload_n 0, 1) := by decide +kernel
theorem dX3_wantPaper_1 : decode cX3_wantPaper 1 = .ok (.ifCond .lt 8, 3) := by decide +kernel
theorem dX3_wantPaper_4 : decode cX3_wantPaper 4 = .ok (.iload_n 0, 1) := by decide +kernel
theorem dX3_wantPaper_5 : decode cX3_wantPaper 5 = .ok (.iconst 3, 1) := by decide +kernel
theorem dX3_wantPaper_6 : decode cX3_wantPaper 6 = .ok (.if_icmp .lt 13, 3) := by decide +kernel
theorem dX3_wantPaper_9 : decode cX3_wantPaper 9 = .ok (.new 176, 3) := by decide +kernel
theorem dX3_wantPaper_12 : decode cX3_wantPaper 12 = .ok (.dup, 1) := by decide +kernel
theorem dX3_wantPaper_13 : decode cX3_wantPaper 13 = .ok (.ldc 183, 2) := by decide +kernel
theorem dX3_wantPaper_15 : decode cX3_wantPaper 15 = .ok (.invokespecial 180, 3) := by decide +kernel
theorem dX3_wantPaper_18 : decode cX3_wantPaper 18 = .ok (.athrow, 1) := by decide +kernel
theorem dX3_wantPaper_19 : decode cX3_wantPaper 19 = .ok (.return_, 1) := by decide +kernel
theorem dX3_wantSign_0 : decode cX3_wantSign 0 = .ok (.iload_n 0, 1) := by decide +kernel
theorem dX3_wantSign_1 : decode cX3_wantSign 1 = .ok (.ifCond .lt 9, 3) := by decide +kernel
theorem dX3_wantSign_4 : decode cX3_wantSign 4 = .ok (.iload_n 0, 1) := by decide +kernel
theorem dX3_wantSign_5 : decode cX3_wantSign 5 = .ok (.bipush 10, 2) := by decide +kernel
theorem dX3_wantSign_7 : decode cX3_wantSign 7 = .ok (.if_icmp .lt 13, 3) := by decide +kernel
theorem dX3_wantSign_10 : decode cX3_wantSign 10 = .ok (.new 185, 3) := by decide +kernel
theorem dX3_wantSign_13 : decode cX3_wantSign 13 = .ok (.dup, 1) := by decide +kernel
theorem dX3_wantSign_14 : decode cX3_wantSign 14 = .ok (.ldc 187, 2) := by decide +kernel
theorem dX3_wantSign_16 : decode cX3_wantSign 16 = .ok (.invokespecial 189, 3) := by decide +kernel
theorem dX3_wantSign_19 : decode cX3_wantSign 19 = .ok (.athrow, 1) := by decide +kernel
theorem dX3_wantSign_20 : decode cX3_wantSign 20 = .ok (.return_, 1) := by decide +kernel
theorem dX3_wantSignOrNone_0 : decode cX3_wantSignOrNone 0 = .ok (.iload_n 0, 1) := by decide +kernel
theorem dX3_wantSignOrNone_1 : decode cX3_wantSignOrNone 1 = .ok (.iconst (-1), 1) := by decide +kernel
theorem dX3_wantSignOrNone_2 : decode cX3_wantSignOrNone 2 = .ok (.if_icmp .eq 7, 3) := by decide +kernel
theorem dX3_wantSignOrNone_5 : decode cX3_wantSignOrNone 5 = .ok (.iload_n 0, 1) := by decide +kernel
theorem dX3_wantSignOrNone_6 : decode cX3_wantSignOrNone 6 = .ok (.invokestatic 37, 3) := by decide +kernel
theorem dX3_wantSignOrNone_9 : decode cX3_wantSignOrNone 9 = .ok (.return_, 1) := by decide +kernel
theorem dX3_wantUpTo_0 : decode cX3_wantUpTo 0 = .ok (.iload_n 0, 1) := by decide +kernel
theorem dX3_wantUpTo_1 : decode cX3_wantUpTo 1 = .ok (.ifCond .lt 8, 3) := by decide +kernel
theorem dX3_wantUpTo_4 : decode cX3_wantUpTo 4 = .ok (.iload_n 0, 1) := by decide +kernel
theorem dX3_wantUpTo_5 : decode cX3_wantUpTo 5 = .ok (.iload_n 1, 1) := by decide +kernel
theorem dX3_wantUpTo_6 : decode cX3_wantUpTo 6 = .ok (.if_icmp .le 13, 3) := by decide +kernel
theorem dX3_wantUpTo_9 : decode cX3_wantUpTo 9 = .ok (.new 185, 3) := by decide +kernel
theorem dX3_wantUpTo_12 : decode cX3_wantUpTo 12 = .ok (.dup, 1) := by decide +kernel
theorem dX3_wantUpTo_13 : decode cX3_wantUpTo 13 = .ok (.ldc 190, 2) := by decide +kernel
theorem dX3_wantUpTo_15 : decode cX3_wantUpTo 15 = .ok (.invokespecial 189, 3) := by decide +kernel
theorem dX3_wantUpTo_18 : decode cX3_wantUpTo 18 = .ok (.athrow, 1) := by decide +kernel
theorem dX3_wantUpTo_19 : decode cX3_wantUpTo 19 = .ok (.return_, 1) := by decide +kernel
theorem dX3_wantThere_0 : decode cX3_wantThere 0 = .ok (.aload_n 0, 1) := by decide +kernel
theorem dX3_wantThere_1 : decode cX3_wantThere 1 = .ok (.getfield 10, 3) := by decide +kernel
theorem dX3_wantThere_4 : decode cX3_wantThere 4 = .ok (.iload_n 1, 1) := by decide +kernel
theorem dX3_wantThere_5 : decode cX3_wantThere 5 = .ok (.invokevirtual 94, 3) := by decide +kernel
theorem dX3_wantThere_8 : decode cX3_wantThere 8 = .ok (.ifCond .eq 13, 3) := by decide +kernel
theorem dX3_wantThere_11 : decode cX3_wantThere 11 = .ok (.new 192, 3) := by decide +kernel
theorem dX3_wantThere_14 : decode cX3_wantThere 14 = .ok (.dup, 1) := by decide +kernel
theorem dX3_wantThere_15 : decode cX3_wantThere 15 = .ok (.ldc 194, 2) := by decide +kernel
theorem dX3_wantThere_17 : decode cX3_wantThere 17 = .ok (.invokespecial 196, 3) := by decide +kernel
theorem dX3_wantThere_20 : decode cX3_wantThere 20 = .ok (.athrow, 1) := by decide +kernel
theorem dX3_wantThere_21 : decode cX3_wantThere 21 = .ok (.return_, 1) := by decide +kernel
theorem dX3_wantRoom_0 : decode cX3_wantRoom 0 = .ok (.aload_n 0, 1) := by decide +kernel
theorem dX3_wantRoom_1 : decode cX3_wantRoom 1 = .ok (.getfield 10, 3) := by decide +kernel
theorem dX3_wantRoom_4 : decode cX3_wantRoom 4 = .ok (.iload_n 1, 1) := by decide +kernel
theorem dX3_wantRoom_5 : decode cX3_wantRoom 5 = .ok (.invokevirtual 33, 3) := by decide +kernel
theorem dX3_wantRoom_8 : decode cX3_wantRoom 8 = .ok (.iload_n 2, 1) := by decide +kernel
theorem dX3_wantRoom_9 : decode cX3_wantRoom 9 = .ok (.iadd, 1) := by decide +kernel
theorem dX3_wantRoom_10 : decode cX3_wantRoom 10 = .ok (.bipush 24, 2) := by decide +kernel
theorem dX3_wantRoom_12 : decode cX3_wantRoom 12 = .ok (.if_icmp .le 13, 3) := by decide +kernel
theorem dX3_wantRoom_15 : decode cX3_wantRoom 15 = .ok (.new 192, 3) := by decide +kernel
theorem dX3_wantRoom_18 : decode cX3_wantRoom 18 = .ok (.dup, 1) := by decide +kernel
theorem dX3_wantRoom_19 : decode cX3_wantRoom 19 = .ok (.ldc 197, 2) := by decide +kernel
theorem dX3_wantRoom_21 : decode cX3_wantRoom 21 = .ok (.invokespecial 196, 3) := by decide +kernel
theorem dX3_wantRoom_24 : decode cX3_wantRoom 24 = .ok (.athrow, 1) := by decide +kernel
theorem dX3_wantRoom_25 : decode cX3_wantRoom 25 = .ok (.return_, 1) := by decide +kernel
theorem dX4_init_0 : decode cX4_init 0 = .ok (.aload_n 0, 1) := by decide +kernel
theorem dX4_init_1 : decode cX4_init 1 = .ok (.invokespecial 1, 3) := by decide +kernel
theorem dX4_init_4 : decode cX4_init 4 = .ok (.return_, 1) := by decide +kernel
theorem dX5_isIn_0 : decode cX5_isIn 0 = .ok (.iload_n 0, 1) := by decide +kernel
theorem dX5_isIn_1 : decode cX5_isIn 1 = .ok (.iload_n 1, 1) := by decide +kernel
theorem dX5_isIn_2 : decode cX5_isIn 2 = .ok (.if_icmp .lt 12, 3) := by decide +kernel
theorem dX5_isIn_5 : decode cX5_isIn 5 = .ok (.iload_n 0, 1) := by decide +kernel
theorem dX5_isIn_6 : decode cX5_isIn 6 = .ok (.iload_n 2, 1) := by decide +kernel
theorem dX5_isIn_7 : decode cX5_isIn 7 = .ok (.if_icmp .gt 7, 3) := by decide +kernel
theorem dX5_isIn_10 : decode cX5_isIn 10 = .ok (.iconst 1, 1) := by decide +kernel
theorem dX5_isIn_11 : decode cX5_isIn 11 = .ok (.goto 4, 3) := by decide +kernel
theorem dX5_isIn_14 : decode cX5_isIn 14 = .ok (.iconst 0, 1) := by decide +kernel
theorem dX5_isIn_15 : decode cX5_isIn 15 = .ok (.ireturn, 1) := by decide +kernel
theorem dX5_one_0 : decode cX5_one 0 = .ok (.iload_n 0, 1) := by decide +kernel
theorem dX5_one_1 : decode cX5_one 1 = .ok (.ifCond .eq 7, 3) := by decide +kernel
theorem dX5_one_4 : decode cX5_one 4 = .ok (.iconst 1, 1) := by decide +kernel
theorem dX5_one_5 : decode cX5_one 5 = .ok (.goto 4, 3) := by decide +kernel
theorem dX5_one_8 : decode cX5_one 8 = .ok (.iconst 0, 1) := by decide +kernel
theorem dX5_one_9 : decode cX5_one 9 = .ok (.ireturn, 1) := by decide +kernel
theorem dX5_init_0 : decode cX5_init 0 = .ok (.aload_n 0, 1) := by decide +kernel
theorem dX5_init_1 : decode cX5_init 1 = .ok (.invokespecial 1, 3) := by decide +kernel
theorem dX5_init_4 : decode cX5_init 4 = .ok (.aload_n 0, 1) := by decide +kernel
theorem dX5_init_5 : decode cX5_init 5 = .ok (.bipush 9, 2) := by decide +kernel
theorem dX5_init_7 : decode cX5_init 7 = .ok (.iconst 0, 1) := by decide +kernel
theorem dX5_init_8 : decode cX5_init 8 = .ok (.multianewarray 9 2, 4) := by decide +kernel
theorem dX5_init_12 : decode cX5_init 12 = .ok (.putfield 11, 3) := by decide +kernel
theorem dX5_init_15 : decode cX5_init 15 = .ok (.return_, 1) := by decide +kernel
theorem dX5_refuse_0 : decode cX5_refuse 0 = .ok (.iload_n 1, 1) := by decide +kernel
theorem dX5_refuse_1 : decode cX5_refuse 1 = .ok (.ifCond .eq 15, 3) := by decide +kernel
theorem dX5_refuse_4 : decode cX5_refuse 4 = .ok (.aload_n 0, 1) := by decide +kernel
theorem dX5_refuse_5 : decode cX5_refuse 5 = .ok (.getfield 14, 3) := by decide +kernel
theorem dX5_refuse_8 : decode cX5_refuse 8 = .ok (.ifCond .ne 8, 3) := by decide +kernel
theorem dX5_refuse_11 : decode cX5_refuse 11 = .ok (.aload_n 0, 1) := by decide +kernel
theorem dX5_refuse_12 : decode cX5_refuse 12 = .ok (.iload_n 2, 1) := by decide +kernel
theorem dX5_refuse_13 : decode cX5_refuse 13 = .ok (.putfield 14, 3) := by decide +kernel
theorem dX5_refuse_16 : decode cX5_refuse 16 = .ok (.aload_n 0, 1) := by decide +kernel
theorem dX5_refuse_17 : decode cX5_refuse 17 = .ok (.getfield 14, 3) := by decide +kernel
theorem dX5_refuse_20 : decode cX5_refuse 20 = .ok (.ifCond .le 7, 3) := by decide +kernel
theorem dX5_refuse_23 : decode cX5_refuse 23 = .ok (.iconst 1, 1) := by decide +kernel
theorem dX5_refuse_24 : decode cX5_refuse 24 = .ok (.goto 4, 3) := by decide +kernel
theorem dX5_refuse_27 : decode cX5_refuse 27 = .ok (.iconst 0, 1) := by decide +kernel
theorem dX5_refuse_28 : decode cX5_refuse 28 = .ok (.ireturn, 1) := by decide +kernel
theorem dX5_start_0 : decode cX5_start 0 = .ok (.aload_n 0, 1) := by decide +kernel
theorem dX5_start_1 : decode cX5_start 1 = .ok (.iconst 0, 1) := by decide +kernel
theorem dX5_start_2 : decode cX5_start 2 = .ok (.putfield 14, 3) := by decide +kernel
theorem dX5_start_5 : decode cX5_start 5 = .ok (.aload_n 0, 1) := by decide +kernel
theorem dX5_start_6 : decode cX5_start 6 = .ok (.iload_n 1, 1) := by decide +kernel
theorem dX5_start_7 : decode cX5_start 7 = .ok (.iload_n 2, 1) := by decide +kernel
theorem dX5_start_8 : decode cX5_start 8 = .ok (.invokevirtual 18, 3) := by decide +kernel
theorem dX5_start_11 : decode cX5_start 11 = .ok (.ireturn, 1) := by decide +kernel
theorem dX5_isNo_0 : decode cX5_isNo 0 = .ok (.iload_n 0, 1) := by decide +kernel
theorem dX5_isNo_1 : decode cX5_isNo 1 = .ok (.iconst 0, 1) := by decide +kernel
theorem dX5_isNo_2 : decode cX5_isNo 2 = .ok (.bipush 8, 2) := by decide +kernel
theorem dX5_isNo_4 : decode cX5_isNo 4 = .ok (.invokestatic 22, 3) := by decide +kernel
theorem dX5_isNo_7 : decode cX5_isNo 7 = .ok (.ifCond .ne 7, 3) := by decide +kernel
theorem dX5_isNo_10 : decode cX5_isNo 10 = .ok (.iconst 1, 1) := by decide +kernel
theorem dX5_isNo_11 : decode cX5_isNo 11 = .ok (.goto 4, 3) := by decide +kernel
theorem dX5_isNo_14 : decode cX5_isNo 14 = .ok (.iconst 0, 1) := by decide +kernel
theorem dX5_isNo_15 : decode cX5_isNo 15 = .ok (.ireturn, 1) := by decide +kernel
theorem dX5_isSign_0 : decode cX5_isSign 0 = .ok (.iload_n 0, 1) := by decide +kernel
theorem dX5_isSign_1 : decode cX5_isSign 1 = .ok (.iconst 0, 1) := by decide +kernel
theorem dX5_isSign_2 : decode cX5_isSign 2 = .ok (.getstatic 26, 3) := by decide +kernel
theorem dX5_isSign_5 : decode cX5_isSign 5 = .ok (.arraylength, 1) := by decide +kernel
theorem dX5_isSign_6 : decode cX5_isSign 6 = .ok (.iconst 1, 1) := by decide +kernel
theorem dX5_isSign_7 : decode cX5_isSign 7 = .ok (.isub, 1) := by decide +kernel
theorem dX5_isSign_8 : decode cX5_isSign 8 = .ok (.invokestatic 22, 3) := by decide +kernel
theorem dX5_isSign_11 : decode cX5_isSign 11 = .ok (.ireturn, 1) := by decide +kernel
theorem dX5_no_0 : decode cX5_no 0 = .ok (.aload_n 0, 1) := by decide +kernel
theorem dX5_no_1 : decode cX5_no 1 = .ok (.dup, 1) := by decide +kernel
theorem dX5_no_2 : decode cX5_no 2 = .ok (.getfield 30, 3) := by decide +kernel
theorem dX5_no_5 : decode cX5_no 5 = .ok (.iconst 1, 1) := by decide +kernel
theorem dX5_no_6 : decode cX5_no 6 = .ok (.iadd, 1) := by decide +kernel
theorem dX5_no_7 : decode cX5_no 7 = .ok (.putfield 30, 3) := by decide +kernel
theorem dX5_no_10 : decode cX5_no 10 = .ok (.bipush (-9), 2) := by decide +kernel
theorem dX5_no_12 : decode cX5_no 12 = .ok (.ireturn, 1) := by decide +kernel
theorem dX5_many_0 : decode cX5_many 0 = .ok (.aload_n 0, 1) := by decide +kernel
theorem dX5_many_1 : decode cX5_many 1 = .ok (.getfield 11, 3) := by decide +kernel
theorem dX5_many_4 : decode cX5_many 4 = .ok (.iload_n 1, 1) := by decide +kernel
theorem dX5_many_5 : decode cX5_many 5 = .ok (.aaload, 1) := by decide +kernel
theorem dX5_many_6 : decode cX5_many 6 = .ok (.ifnonnull 7, 3) := by decide +kernel
theorem dX5_many_9 : decode cX5_many 9 = .ok (.iconst (-1), 1) := by decide +kernel
theorem dX5_many_10 : decode cX5_many 10 = .ok (.goto 10, 3) := by decide +kernel
theorem dX5_many_13 : decode cX5_many 13 = .ok (.aload_n 0, 1) := by decide +kernel
theorem dX5_many_14 : decode cX5_many 14 = .ok (.getfield 11, 3) := by decide +kernel
theorem dX5_many_17 : decode cX5_many 17 = .ok (.iload_n 1, 1) := by decide +kernel
theorem dX5_many_18 : decode cX5_many 18 = .ok (.aaload, 1) := by decide +kernel
theorem dX5_many_19 : decode cX5_many 19 = .ok (.arraylength, 1) := by decide +kernel
theorem dX5_many_20 : decode cX5_many 20 = .ok (.ireturn, 1) := by decide +kernel
theorem dX5_part_0 : decode cX5_part 0 = .ok (.iload_n 2, 1) := by decide +kernel
theorem dX5_part_1 : decode cX5_part 1 = .ok (.iload_n 1, 1) := by decide +kernel
theorem dX5_part_2 : decode cX5_part 2 = .ok (.isub, 1) := by decide +kernel
theorem dX5_part_3 : decode cX5_part 3 = .ok (.newarray .int, 2) := by decide +kernel
theorem dX5_part_5 : decode cX5_part 5 = .ok (.astore_n 3, 1) := by decide +kernel
theorem dX5_part_6 : decode cX5_part 6 = .ok (.iconst 0, 1) := by decide +kernel
theorem dX5_part_7 : decode cX5_part 7 = .ok (.istore 4, 2) := by decide +kernel
theorem dX5_part_9 : decode cX5_part 9 = .ok (.iload 4, 2) := by decide +kernel
theorem dX5_part_11 : decode cX5_part 11 = .ok (.aload_n 3, 1) := by decide +kernel
theorem dX5_part_12 : decode cX5_part 12 = .ok (.arraylength, 1) := by decide +kernel
theorem dX5_part_13 : decode cX5_part 13 = .ok (.if_icmp .ge 19, 3) := by decide +kernel
theorem dX5_part_16 : decode cX5_part 16 = .ok (.aload_n 3, 1) := by decide +kernel
theorem dX5_part_17 : decode cX5_part 17 = .ok (.iload 4, 2) := by decide +kernel
theorem dX5_part_19 : decode cX5_part 19 = .ok (.aload_n 0, 1) := by decide +kernel
theorem dX5_part_20 : decode cX5_part 20 = .ok (.iload_n 1, 1) := by decide +kernel
theorem dX5_part_21 : decode cX5_part 21 = .ok (.iload 4, 2) := by decide +kernel
theorem dX5_part_23 : decode cX5_part 23 = .ok (.iadd, 1) := by decide +kernel
theorem dX5_part_24 : decode cX5_part 24 = .ok (.iaload, 1) := by decide +kernel
theorem dX5_part_25 : decode cX5_part 25 = .ok (.iastore, 1) := by decide +kernel
theorem dX5_part_26 : decode cX5_part 26 = .ok (.iinc 4 1, 3) := by decide +kernel
theorem dX5_part_29 : decode cX5_part 29 = .ok (.goto (-20), 3) := by decide +kernel
theorem dX5_part_32 : decode cX5_part 32 = .ok (.aload_n 3, 1) := by decide +kernel
theorem dX5_part_33 : decode cX5_part 33 = .ok (.areturn, 1) := by decide +kernel
theorem dX5_with_0 : decode cX5_with 0 = .ok (.aload_n 0, 1) := by decide +kernel
theorem dX5_with_1 : decode cX5_with 1 = .ok (.arraylength, 1) := by decide +kernel
theorem dX5_with_2 : decode cX5_with 2 = .ok (.iconst 1, 1) := by decide +kernel
theorem dX5_with_3 : decode cX5_with 3 = .ok (.iadd, 1) := by decide +kernel
theorem dX5_with_4 : decode cX5_with 4 = .ok (.newarray .int, 2) := by decide +kernel
theorem dX5_with_6 : decode cX5_with 6 = .ok (.astore_n 2, 1) := by decide +kernel
theorem dX5_with_7 : decode cX5_with 7 = .ok (.iconst 0, 1) := by decide +kernel
theorem dX5_with_8 : decode cX5_with 8 = .ok (.istore_n 3, 1) := by decide +kernel
theorem dX5_with_9 : decode cX5_with 9 = .ok (.iload_n 3, 1) := by decide +kernel
theorem dX5_with_10 : decode cX5_with 10 = .ok (.aload_n 0, 1) := by decide +kernel
theorem dX5_with_11 : decode cX5_with 11 = .ok (.arraylength, 1) := by decide +kernel
theorem dX5_with_12 : decode cX5_with 12 = .ok (.if_icmp .ge 15, 3) := by decide +kernel
theorem dX5_with_15 : decode cX5_with 15 = .ok (.aload_n 2, 1) := by decide +kernel
theorem dX5_with_16 : decode cX5_with 16 = .ok (.iload_n 3, 1) := by decide +kernel
theorem dX5_with_17 : decode cX5_with 17 = .ok (.aload_n 0, 1) := by decide +kernel
theorem dX5_with_18 : decode cX5_with 18 = .ok (.iload_n 3, 1) := by decide +kernel
theorem dX5_with_19 : decode cX5_with 19 = .ok (.iaload, 1) := by decide +kernel
theorem dX5_with_20 : decode cX5_with 20 = .ok (.iastore, 1) := by decide +kernel
theorem dX5_with_21 : decode cX5_with 21 = .ok (.iinc 3 1, 3) := by decide +kernel
theorem dX5_with_24 : decode cX5_with 24 = .ok (.goto (-15), 3) := by decide +kernel
theorem dX5_with_27 : decode cX5_with 27 = .ok (.aload_n 2, 1) := by decide +kernel
theorem dX5_with_28 : decode cX5_with 28 = .ok (.aload_n 0, 1) := by decide +kernel
theorem dX5_with_29 : decode cX5_with 29 = .ok (.arraylength, 1) := by decide +kernel
theorem dX5_with_30 : decode cX5_with 30 = .ok (.iload_n 1, 1) := by decide +kernel
theorem dX5_with_31 : decode cX5_with 31 = .ok (.iastore, 1) := by decide +kernel
theorem dX5_with_32 : decode cX5_with 32 = .ok (.aload_n 2, 1) := by decide +kernel
theorem dX5_with_33 : decode cX5_with 33 = .ok (.areturn, 1) := by decide +kernel
theorem dX5_textOf_0 : decode cX5_textOf 0 = .ok (.ldc 33, 2) := by decide +kernel
theorem dX5_textOf_2 : decode cX5_textOf 2 = .ok (.astore_n 1, 1) := by decide +kernel
theorem dX5_textOf_3 : decode cX5_textOf 3 = .ok (.aload_n 0, 1) := by decide +kernel
theorem dX5_textOf_4 : decode cX5_textOf 4 = .ok (.astore_n 2, 1) := by decide +kernel
theorem dX5_textOf_5 : decode cX5_textOf 5 = .ok (.aload_n 2, 1) := by decide +kernel
theorem dX5_textOf_6 : decode cX5_textOf 6 = .ok (.arraylength, 1) := by decide +kernel
theorem dX5_textOf_7 : decode cX5_textOf 7 = .ok (.istore_n 3, 1) := by decide +kernel
theorem dX5_textOf_8 : decode cX5_textOf 8 = .ok (.iconst 0, 1) := by decide +kernel
theorem dX5_textOf_9 : decode cX5_textOf 9 = .ok (.istore 4, 2) := by decide +kernel
theorem dX5_textOf_11 : decode cX5_textOf 11 = .ok (.iload 4, 2) := by decide +kernel
theorem dX5_textOf_13 : decode cX5_textOf 13 = .ok (.iload_n 3, 1) := by decide +kernel
theorem dX5_textOf_14 : decode cX5_textOf 14 = .ok (.if_icmp .ge 40, 3) := by decide +kernel
theorem dX5_textOf_17 : decode cX5_textOf 17 = .ok (.aload_n 2, 1) := by decide +kernel
theorem dX5_textOf_18 : decode cX5_textOf 18 = .ok (.iload 4, 2) := by decide +kernel
theorem dX5_textOf_20 : decode cX5_textOf 20 = .ok (.iaload, 1) := by decide +kernel
theorem dX5_textOf_21 : decode cX5_textOf 21 = .ok (.istore 5, 2) := by decide +kernel
theorem dX5_textOf_23 : decode cX5_textOf 23 = .ok (.new 35, 3) := by decide +kernel
theorem dX5_textOf_26 : decode cX5_textOf 26 = .ok (.dup, 1) := by decide +kernel
theorem dX5_textOf_27 : decode cX5_textOf 27 = .ok (.invokespecial 37, 3) := by decide +kernel
theorem dX5_textOf_30 : decode cX5_textOf 30 = .ok (.aload_n 1, 1) := by decide +kernel
theorem dX5_textOf_31 : decode cX5_textOf 31 = .ok (.invokevirtual 38, 3) := by decide +kernel
theorem dX5_textOf_34 : decode cX5_textOf 34 = .ok (.getstatic 26, 3) := by decide +kernel
theorem dX5_textOf_37 : decode cX5_textOf 37 = .ok (.iload 5, 2) := by decide +kernel
theorem dX5_textOf_39 : decode cX5_textOf 39 = .ok (.iaload, 1) := by decide +kernel
theorem dX5_textOf_40 : decode cX5_textOf 40 = .ok (.i2c, 1) := by decide +kernel
theorem dX5_textOf_41 : decode cX5_textOf 41 = .ok (.invokevirtual 42, 3) := by decide +kernel
theorem dX5_textOf_44 : decode cX5_textOf 44 = .ok (.invokevirtual 45, 3) := by decide +kernel
theorem dX5_textOf_47 : decode cX5_textOf 47 = .ok (.astore_n 1, 1) := by decide +kernel
theorem dX5_textOf_48 : decode cX5_textOf 48 = .ok (.iinc 4 1, 3) := by decide +kernel
theorem dX5_textOf_51 : decode cX5_textOf 51 = .ok (.goto (-40), 3) := by decide +kernel
theorem dX5_textOf_54 : decode cX5_textOf 54 = .ok (.aload_n 1, 1) := by decide +kernel
theorem dX5_textOf_55 : decode cX5_textOf 55 = .ok (.areturn, 1) := by decide +kernel
theorem dX5_codeOf_0 : decode cX5_codeOf 0 = .ok (.iconst 0, 1) := by decide +kernel
theorem dX5_codeOf_1 : decode cX5_codeOf 1 = .ok (.istore_n 1, 1) := by decide +kernel
theorem dX5_codeOf_2 : decode cX5_codeOf 2 = .ok (.iconst 0, 1) := by decide +kernel
theorem dX5_codeOf_3 : decode cX5_codeOf 3 = .ok (.istore_n 2, 1) := by decide +kernel
theorem dX5_codeOf_4 : decode cX5_codeOf 4 = .ok (.aload_n 0, 1) := by decide +kernel
theorem dX5_codeOf_5 : decode cX5_codeOf 5 = .ok (.ifnull 28, 3) := by decide +kernel
theorem dX5_codeOf_8 : decode cX5_codeOf 8 = .ok (.iload_n 2, 1) := by decide +kernel
theorem dX5_codeOf_9 : decode cX5_codeOf 9 = .ok (.aload_n 0, 1) := by decide +kernel
theorem dX5_codeOf_10 : decode cX5_codeOf 10 = .ok (.arraylength, 1) := by decide +kernel
theorem dX5_codeOf_11 : decode cX5_codeOf 11 = .ok (.if_icmp .ge 22, 3) := by decide +kernel
theorem dX5_codeOf_14 : decode cX5_codeOf 14 = .ok (.iload_n 1, 1) := by decide +kernel
theorem dX5_codeOf_15 : decode cX5_codeOf 15 = .ok (.bipush 31, 2) := by decide +kernel
theorem dX5_codeOf_17 : decode cX5_codeOf 17 = .ok (.imul, 1) := by decide +kernel
theorem dX5_codeOf_18 : decode cX5_codeOf 18 = .ok (.getstatic 26, 3) := by decide +kernel
theorem dX5_codeOf_21 : decode cX5_codeOf 21 = .ok (.aload_n 0, 1) := by decide +kernel
theorem dX5_codeOf_22 : decode cX5_codeOf 22 = .ok (.iload_n 2, 1) := by decide +kernel
theorem dX5_codeOf_23 : decode cX5_codeOf 23 = .ok (.iaload, 1) := by decide +kernel
theorem dX5_codeOf_24 : decode cX5_codeOf 24 = .ok (.iaload, 1) := by decide +kernel
theorem dX5_codeOf_25 : decode cX5_codeOf 25 = .ok (.iadd, 1) := by decide +kernel
theorem dX5_codeOf_26 : decode cX5_codeOf 26 = .ok (.istore_n 1, 1) := by decide +kernel
theorem dX5_codeOf_27 : decode cX5_codeOf 27 = .ok (.iinc 2 1, 3) := by decide +kernel
theorem dX5_codeOf_30 : decode cX5_codeOf 30 = .ok (.goto (-26), 3) := by decide +kernel
theorem dX5_codeOf_33 : decode cX5_codeOf 33 = .ok (.iload_n 1, 1) := by decide +kernel
theorem dX5_codeOf_34 : decode cX5_codeOf 34 = .ok (.ireturn, 1) := by decide +kernel
theorem dX5_isSpan_0 : decode cX5_isSpan 0 = .ok (.lload_n 0, 1) := by decide +kernel
theorem dX5_isSpan_1 : decode cX5_isSpan 1 = .ok (.lconst 0, 1) := by decide +kernel
theorem dX5_isSpan_2 : decode cX5_isSpan 2 = .ok (.lcmp, 1) := by decide +kernel
theorem dX5_isSpan_3 : decode cX5_isSpan 3 = .ok (.ifCond .lt 20, 3) := by decide +kernel
theorem dX5_isSpan_6 : decode cX5_isSpan 6 = .ok (.lload_n 0, 1) := by decide +kernel
theorem dX5_isSpan_7 : decode cX5_isSpan 7 = .ok (.lload_n 2, 1) := by decide +kernel
theorem dX5_isSpan_8 : decode cX5_isSpan 8 = .ok (.lcmp, 1) := by decide +kernel
theorem dX5_isSpan_9 : decode cX5_isSpan 9 = .ok (.ifCond .gt 14, 3) := by decide +kernel
theorem dX5_isSpan_12 : decode cX5_isSpan 12 = .ok (.lload_n 2, 1) := by decide +kernel
theorem dX5_isSpan_13 : decode cX5_isSpan 13 = .ok (.lload 4, 2) := by decide +kernel
theorem dX5_isSpan_15 : decode cX5_isSpan 15 = .ok (.lcmp, 1) := by decide +kernel
theorem dX5_isSpan_16 : decode cX5_isSpan 16 = .ok (.ifCond .gt 7, 3) := by decide +kernel
theorem dX5_isSpan_19 : decode cX5_isSpan 19 = .ok (.iconst 1, 1) := by decide +kernel
theorem dX5_isSpan_20 : decode cX5_isSpan 20 = .ok (.goto 4, 3) := by decide +kernel
theorem dX5_isSpan_23 : decode cX5_isSpan 23 = .ok (.iconst 0, 1) := by decide +kernel
theorem dX5_isSpan_24 : decode cX5_isSpan 24 = .ok (.ireturn, 1) := by decide +kernel
theorem dX5_isStretch_0 : decode cX5_isStretch 0 = .ok (.lload_n 0, 1) := by decide +kernel
theorem dX5_isStretch_1 : decode cX5_isStretch 1 = .ok (.lconst 0, 1) := by decide +kernel
theorem dX5_isStretch_2 : decode cX5_isStretch 2 = .ok (.lcmp, 1) := by decide +kernel
theorem dX5_isStretch_3 : decode cX5_isStretch 3 = .ok (.ifCond .lt 29, 3) := by decide +kernel
theorem dX5_isStretch_6 : decode cX5_isStretch 6 = .ok (.lload_n 2, 1) := by decide +kernel
theorem dX5_isStretch_7 : decode cX5_isStretch 7 = .ok (.lconst 0, 1) := by decide +kernel
theorem dX5_isStretch_8 : decode cX5_isStretch 8 = .ok (.lcmp, 1) := by decide +kernel
theorem dX5_isStretch_9 : decode cX5_isStretch 9 = .ok (.ifCond .lt 23, 3) := by decide +kernel
theorem dX5_isStretch_12 : decode cX5_isStretch 12 = .ok (.lload 4, 2) := by decide +kernel
theorem dX5_isStretch_14 : decode cX5_isStretch 14 = .ok (.lconst 0, 1) := by decide +kernel
theorem dX5_isStretch_15 : decode cX5_isStretch 15 = .ok (.lcmp, 1) := by decide +kernel
theorem dX5_isStretch_16 : decode cX5_isStretch 16 = .ok (.ifCond .lt 16, 3) := by decide +kernel
theorem dX5_isStretch_19 : decode cX5_isStretch 19 = .ok (.lload_n 0, 1) := by decide +kernel
theorem dX5_isStretch_20 : decode cX5_isStretch 20 = .ok (.lload_n 2, 1) := by decide +kernel
theorem dX5_isStretch_21 : decode cX5_isStretch 21 = .ok (.ladd, 1) := by decide +kernel
theorem dX5_isStretch_22 : decode cX5_isStretch 22 = .ok (.lload 4, 2) := by decide +kernel
theorem dX5_isStretch_24 : decode cX5_isStretch 24 = .ok (.lcmp, 1) := by decide +kernel
theorem dX5_isStretch_25 : decode cX5_isStretch 25 = .ok (.ifCond .gt 7, 3) := by decide +kernel
theorem dX5_isStretch_28 : decode cX5_isStretch 28 = .ok (.iconst 1, 1) := by decide +kernel
theorem dX5_isStretch_29 : decode cX5_isStretch 29 = .ok (.goto 4, 3) := by decide +kernel
theorem dX5_isStretch_32 : decode cX5_isStretch 32 = .ok (.iconst 0, 1) := by decide +kernel
theorem dX5_isStretch_33 : decode cX5_isStretch 33 = .ok (.ireturn, 1) := by decide +kernel
theorem dX5_compared_0 : decode cX5_compared 0 = .ok (.iconst 0, 1) := by decide +kernel
theorem dX5_compared_1 : decode cX5_compared 1 = .ok (.istore_n 2, 1) := by decide +kernel
theorem dX5_compared_2 : decode cX5_compared 2 = .ok (.iload_n 2, 1) := by decide +kernel
theorem dX5_compared_3 : decode cX5_compared 3 = .ok (.aload_n 0, 1) := by decide +kernel
theorem dX5_compared_4 : decode cX5_compared 4 = .ok (.arraylength, 1) := by decide +kernel
theorem dX5_compared_5 : decode cX5_compared 5 = .ok (.if_icmp .ge 39, 3) := by decide +kernel
theorem dX5_compared_8 : decode cX5_compared 8 = .ok (.iload_n 2, 1) := by decide +kernel
theorem dX5_compared_9 : decode cX5_compared 9 = .ok (.aload_n 1, 1) := by decide +kernel
theorem dX5_compared_10 : decode cX5_compared 10 = .ok (.arraylength, 1) := by decide +kernel
theorem dX5_compared_11 : decode cX5_compared 11 = .ok (.if_icmp .ge 33, 3) := by decide +kernel
theorem dX5_compared_14 : decode cX5_compared 14 = .ok (.aload_n 0, 1) := by decide +kernel
theorem dX5_compared_15 : decode cX5_compared 15 = .ok (.iload_n 2, 1) := by decide +kernel
theorem dX5_compared_16 : decode cX5_compared 16 = .ok (.iaload, 1) := by decide +kernel
theorem dX5_compared_17 : decode cX5_compared 17 = .ok (.aload_n 1, 1) := by decide +kernel
theorem dX5_compared_18 : decode cX5_compared 18 = .ok (.iload_n 2, 1) := by decide +kernel
theorem dX5_compared_19 : decode cX5_compared 19 = .ok (.iaload, 1) := by decide +kernel
theorem dX5_compared_20 : decode cX5_compared 20 = .ok (.if_icmp .eq 18, 3) := by decide +kernel
theorem dX5_compared_23 : decode cX5_compared 23 = .ok (.aload_n 0, 1) := by decide +kernel
theorem dX5_compared_24 : decode cX5_compared 24 = .ok (.iload_n 2, 1) := by decide +kernel
theorem dX5_compared_25 : decode cX5_compared 25 = .ok (.iaload, 1) := by decide +kernel
theorem dX5_compared_26 : decode cX5_compared 26 = .ok (.aload_n 1, 1) := by decide +kernel
theorem dX5_compared_27 : decode cX5_compared 27 = .ok (.iload_n 2, 1) := by decide +kernel
theorem dX5_compared_28 : decode cX5_compared 28 = .ok (.iaload, 1) := by decide +kernel
theorem dX5_compared_29 : decode cX5_compared 29 = .ok (.if_icmp .ge 7, 3) := by decide +kernel
theorem dX5_compared_32 : decode cX5_compared 32 = .ok (.iconst (-1), 1) := by decide +kernel
theorem dX5_compared_33 : decode cX5_compared 33 = .ok (.goto 4, 3) := by decide +kernel
theorem dX5_compared_36 : decode cX5_compared 36 = .ok (.iconst 1, 1) := by decide +kernel
theorem dX5_compared_37 : decode cX5_compared 37 = .ok (.ireturn, 1) := by decide +kernel
theorem dX5_compared_38 : decode cX5_compared 38 = .ok (.iinc 2 1, 3) := by decide +kernel
theorem dX5_compared_41 : decode cX5_compared 41 = .ok (.goto (-39), 3) := by decide +kernel
theorem dX5_compared_44 : decode cX5_compared 44 = .ok (.aload_n 0, 1) := by decide +kernel
theorem dX5_compared_45 : decode cX5_compared 45 = .ok (.arraylength, 1) := by decide +kernel
theorem dX5_compared_46 : decode cX5_compared 46 = .ok (.aload_n 1, 1) := by decide +kernel
theorem dX5_compared_47 : decode cX5_compared 47 = .ok (.arraylength, 1) := by decide +kernel
theorem dX5_compared_48 : decode cX5_compared 48 = .ok (.if_icmp .ge 7, 3) := by decide +kernel
theorem dX5_compared_51 : decode cX5_compared 51 = .ok (.iconst (-1), 1) := by decide +kernel
theorem dX5_compared_52 : decode cX5_compared 52 = .ok (.goto 18, 3) := by decide +kernel
theorem dX5_compared_55 : decode cX5_compared 55 = .ok (.aload_n 0, 1) := by decide +kernel
theorem dX5_compared_56 : decode cX5_compared 56 = .ok (.arraylength, 1) := by decide +kernel
theorem dX5_compared_57 : decode cX5_compared 57 = .ok (.aload_n 1, 1) := by decide +kernel
theorem dX5_compared_58 : decode cX5_compared 58 = .ok (.arraylength, 1) := by decide +kernel
theorem dX5_compared_59 : decode cX5_compared 59 = .ok (.if_icmp .le 7, 3) := by decide +kernel
theorem dX5_compared_62 : decode cX5_compared 62 = .ok (.iconst 1, 1) := by decide +kernel
theorem dX5_compared_63 : decode cX5_compared 63 = .ok (.goto 4, 3) := by decide +kernel
theorem dX5_compared_66 : decode cX5_compared 66 = .ok (.iconst 0, 1) := by decide +kernel
theorem dX5_compared_67 : decode cX5_compared 67 = .ok (.invokestatic 49, 3) := by decide +kernel
theorem dX5_compared_70 : decode cX5_compared 70 = .ok (.ireturn, 1) := by decide +kernel
theorem dX5_smalls_0 : decode cX5_smalls 0 = .ok (.iconst 0, 1) := by decide +kernel
theorem dX5_smalls_1 : decode cX5_smalls 1 = .ok (.istore_n 1, 1) := by decide +kernel
theorem dX5_smalls_2 : decode cX5_smalls 2 = .ok (.aload_n 0, 1) := by decide +kernel
theorem dX5_smalls_3 : decode cX5_smalls 3 = .ok (.astore_n 2, 1) := by decide +kernel
theorem dX5_smalls_4 : decode cX5_smalls 4 = .ok (.aload_n 2, 1) := by decide +kernel
theorem dX5_smalls_5 : decode cX5_smalls 5 = .ok (.arraylength, 1) := by decide +kernel
theorem dX5_smalls_6 : decode cX5_smalls 6 = .ok (.istore_n 3, 1) := by decide +kernel
theorem dX5_smalls_7 : decode cX5_smalls 7 = .ok (.iconst 0, 1) := by decide +kernel
theorem dX5_smalls_8 : decode cX5_smalls 8 = .ok (.istore 4, 2) := by decide +kernel
theorem dX5_smalls_10 : decode cX5_smalls 10 = .ok (.iload 4, 2) := by decide +kernel
theorem dX5_smalls_12 : decode cX5_smalls 12 = .ok (.iload_n 3, 1) := by decide +kernel
theorem dX5_smalls_13 : decode cX5_smalls 13 = .ok (.if_icmp .ge 33, 3) := by decide +kernel
theorem dX5_smalls_16 : decode cX5_smalls 16 = .ok (.aload_n 2, 1) := by decide +kernel
theorem dX5_smalls_17 : decode cX5_smalls 17 = .ok (.iload 4, 2) := by decide +kernel
theorem dX5_smalls_19 : decode cX5_smalls 19 = .ok (.iaload, 1) := by decide +kernel
theorem dX5_smalls_20 : decode cX5_smalls 20 = .ok (.istore 5, 2) := by decide +kernel
theorem dX5_smalls_22 : decode cX5_smalls 22 = .ok (.iload_n 1, 1) := by decide +kernel
theorem dX5_smalls_23 : decode cX5_smalls 23 = .ok (.iload 5, 2) := by decide +kernel
theorem dX5_smalls_25 : decode cX5_smalls 25 = .ok (.bipush 6, 2) := by decide +kernel
theorem dX5_smalls_27 : decode cX5_smalls 27 = .ok (.if_icmp .ne 7, 3) := by decide +kernel
theorem dX5_smalls_30 : decode cX5_smalls 30 = .ok (.iconst 1, 1) := by decide +kernel
theorem dX5_smalls_31 : decode cX5_smalls 31 = .ok (.goto 4, 3) := by decide +kernel
theorem dX5_smalls_34 : decode cX5_smalls 34 = .ok (.iconst 0, 1) := by decide +kernel
theorem dX5_smalls_35 : decode cX5_smalls 35 = .ok (.invokestatic 49, 3) := by decide +kernel
theorem dX5_smalls_38 : decode cX5_smalls 38 = .ok (.iadd, 1) := by decide +kernel
theorem dX5_smalls_39 : decode cX5_smalls 39 = .ok (.istore_n 1, 1) := by decide +kernel
theorem dX5_smalls_40 : decode cX5_smalls 40 = .ok (.iinc 4 1, 3) := by decide +kernel
theorem dX5_smalls_43 : decode cX5_smalls 43 = .ok (.goto (-33), 3) := by decide +kernel
theorem dX5_smalls_46 : decode cX5_smalls 46 = .ok (.iload_n 1, 1) := by decide +kernel
theorem dX5_smalls_47 : decode cX5_smalls 47 = .ok (.ireturn, 1) := by decide +kernel
theorem dX5_before_0 : decode cX5_before 0 = .ok (.iload_n 0, 1) := by decide +kernel
theorem dX5_before_1 : decode cX5_before 1 = .ok (.iload_n 1, 1) := by decide +kernel
theorem dX5_before_2 : decode cX5_before 2 = .ok (.if_icmp .ge 7, 3) := by decide +kernel
theorem dX5_before_5 : decode cX5_before 5 = .ok (.iconst (-1), 1) := by decide +kernel
theorem dX5_before_6 : decode cX5_before 6 = .ok (.goto 16, 3) := by decide +kernel
theorem dX5_before_9 : decode cX5_before 9 = .ok (.iload_n 0, 1) := by decide +kernel
theorem dX5_before_10 : decode cX5_before 10 = .ok (.iload_n 1, 1) := by decide +kernel
theorem dX5_before_11 : decode cX5_before 11 = .ok (.if_icmp .le 7, 3) := by decide +kernel
theorem dX5_before_14 : decode cX5_before 14 = .ok (.iconst 1, 1) := by decide +kernel
theorem dX5_before_15 : decode cX5_before 15 = .ok (.goto 4, 3) := by decide +kernel
theorem dX5_before_18 : decode cX5_before 18 = .ok (.iconst 0, 1) := by decide +kernel
theorem dX5_before_19 : decode cX5_before 19 = .ok (.invokestatic 49, 3) := by decide +kernel
theorem dX5_before_22 : decode cX5_before 22 = .ok (.ireturn, 1) := by decide +kernel
theorem dX5_ordered_0 : decode cX5_ordered 0 = .ok (.aload_n 0, 1) := by decide +kernel
theorem dX5_ordered_1 : decode cX5_ordered 1 = .ok (.getfield 11, 3) := by decide +kernel
theorem dX5_ordered_4 : decode cX5_ordered 4 = .ok (.iload_n 1, 1) := by decide +kernel
theorem dX5_ordered_5 : decode cX5_ordered 5 = .ok (.aaload, 1) := by decide +kernel
theorem dX5_ordered_6 : decode cX5_ordered 6 = .ok (.astore 4, 2) := by decide +kernel
theorem dX5_ordered_8 : decode cX5_ordered 8 = .ok (.aload_n 0, 1) := by decide +kernel
theorem dX5_ordered_9 : decode cX5_ordered 9 = .ok (.getfield 11, 3) := by decide +kernel
theorem dX5_ordered_12 : decode cX5_ordered 12 = .ok (.iload_n 2, 1) := by decide +kernel
theorem dX5_ordered_13 : decode cX5_ordered 13 = .ok (.aaload, 1) := by decide +kernel
theorem dX5_ordered_14 : decode cX5_ordered 14 = .ok (.astore 5, 2) := by decide +kernel
theorem dX5_ordered_16 : decode cX5_ordered 16 = .ok (.aload 4, 2) := by decide +kernel
theorem dX5_ordered_18 : decode cX5_ordered 18 = .ok (.ifnull 8, 3) := by decide +kernel
theorem dX5_ordered_21 : decode cX5_ordered 21 = .ok (.aload 5, 2) := by decide +kernel
theorem dX5_ordered_23 : decode cX5_ordered 23 = .ok (.ifnonnull 33, 3) := by decide +kernel
theorem dX5_ordered_26 : decode cX5_ordered 26 = .ok (.aload 4, 2) := by decide +kernel
theorem dX5_ordered_28 : decode cX5_ordered 28 = .ok (.ifnull 7, 3) := by decide +kernel
theorem dX5_ordered_31 : decode cX5_ordered 31 = .ok (.iconst 1, 1) := by decide +kernel
theorem dX5_ordered_32 : decode cX5_ordered 32 = .ok (.goto 4, 3) := by decide +kernel
theorem dX5_ordered_35 : decode cX5_ordered 35 = .ok (.iconst 0, 1) := by decide +kernel
theorem dX5_ordered_36 : decode cX5_ordered 36 = .ok (.invokestatic 49, 3) := by decide +kernel
theorem dX5_ordered_39 : decode cX5_ordered 39 = .ok (.aload 5, 2) := by decide +kernel
theorem dX5_ordered_41 : decode cX5_ordered 41 = .ok (.ifnull 7, 3) := by decide +kernel
theorem dX5_ordered_44 : decode cX5_ordered 44 = .ok (.iconst 1, 1) := by decide +kernel
theorem dX5_ordered_45 : decode cX5_ordered 45 = .ok (.goto 4, 3) := by decide +kernel
theorem dX5_ordered_48 : decode cX5_ordered 48 = .ok (.iconst 0, 1) := by decide +kernel
theorem dX5_ordered_49 : decode cX5_ordered 49 = .ok (.invokestatic 49, 3) := by decide +kernel
theorem dX5_ordered_52 : decode cX5_ordered 52 = .ok (.invokestatic 53, 3) := by decide +kernel
theorem dX5_ordered_55 : decode cX5_ordered 55 = .ok (.ireturn, 1) := by decide +kernel
theorem dX5_ordered_56 : decode cX5_ordered 56 = .ok (.iload_n 3, 1) := by decide +kernel
theorem dX5_ordered_57 : decode cX5_ordered 57 = .ok (.iconst 3, 1) := by decide +kernel
theorem dX5_ordered_58 : decode cX5_ordered 58 = .ok (.if_icmp .ne 17, 3) := by decide +kernel
theorem dX5_ordered_61 : decode cX5_ordered 61 = .ok (.aload 4, 2) := by decide +kernel
theorem dX5_ordered_63 : decode cX5_ordered 63 = .ok (.invokestatic 57, 3) := by decide +kernel
theorem dX5_ordered_66 : decode cX5_ordered 66 = .ok (.aload 5, 2) := by decide +kernel
theorem dX5_ordered_68 : decode cX5_ordered 68 = .ok (.invokestatic 57, 3) := by decide +kernel
theorem dX5_ordered_71 : decode cX5_ordered 71 = .ok (.invokestatic 53, 3) := by decide +kernel
theorem dX5_ordered_74 : decode cX5_ordered 74 = .ok (.ireturn, 1) := by decide +kernel
theorem dX5_ordered_75 : decode cX5_ordered 75 = .ok (.iload_n 3, 1) := by decide +kernel
theorem dX5_ordered_76 : decode cX5_ordered 76 = .ok (.iconst 2, 1) := by decide +kernel
theorem dX5_ordered_77 : decode cX5_ordered 77 = .ok (.if_icmp .ne 15, 3) := by decide +kernel
theorem dX5_ordered_80 : decode cX5_ordered 80 = .ok (.aload 4, 2) := by decide +kernel
theorem dX5_ordered_82 : decode cX5_ordered 82 = .ok (.arraylength, 1) := by decide +kernel
theorem dX5_ordered_83 : decode cX5_ordered 83 = .ok (.aload 5, 2) := by decide +kernel
theorem dX5_ordered_85 : decode cX5_ordered 85 = .ok (.arraylength, 1) := by decide +kernel
theorem dX5_ordered_86 : decode cX5_ordered 86 = .ok (.invokestatic 53, 3) := by decide +kernel
theorem dX5_ordered_89 : decode cX5_ordered 89 = .ok (.goto 4, 3) := by decide +kernel
theorem dX5_ordered_92 : decode cX5_ordered 92 = .ok (.iconst 0, 1) := by decide +kernel
theorem dX5_ordered_93 : decode cX5_ordered 93 = .ok (.istore 6, 2) := by decide +kernel
theorem dX5_ordered_95 : decode cX5_ordered 95 = .ok (.iload 6, 2) := by decide +kernel
theorem dX5_ordered_97 : decode cX5_ordered 97 = .ok (.ifCond .ne 12, 3) := by decide +kernel
theorem dX5_ordered_100 : decode cX5_ordered 100 = .ok (.aload 4, 2) := by decide +kernel
theorem dX5_ordered_102 : decode cX5_ordered 102 = .ok (.aload 5, 2) := by decide +kernel
theorem dX5_ordered_104 : decode cX5_ordered 104 = .ok (.invokestatic 61, 3) := by decide +kernel
theorem dX5_ordered_107 : decode cX5_ordered 107 = .ok (.istore 6, 2) := by decide +kernel
theorem dX5_ordered_109 : decode cX5_ordered 109 = .ok (.iload_n 3, 1) := by decide +kernel
theorem dX5_ordered_110 : decode cX5_ordered 110 = .ok (.iconst 1, 1) := by decide +kernel
theorem dX5_ordered_111 : decode cX5_ordered 111 = .ok (.if_icmp .ne 9, 3) := by decide +kernel
theorem dX5_ordered_114 : decode cX5_ordered 114 = .ok (.iload 6, 2) := by decide +kernel
theorem dX5_ordered_116 : decode cX5_ordered 116 = .ok (.ineg, 1) := by decide +kernel
theorem dX5_ordered_117 : decode cX5_ordered 117 = .ok (.goto 5, 3) := by decide +kernel
theorem dX5_ordered_120 : decode cX5_ordered 120 = .ok (.iload 6, 2) := by decide +kernel
theorem dX5_ordered_122 : decode cX5_ordered 122 = .ok (.ireturn, 1) := by decide +kernel
theorem dX5_isAsked_0 : decode cX5_isAsked 0 = .ok (.iload_n 1, 1) := by decide +kernel
theorem dX5_isAsked_1 : decode cX5_isAsked 1 = .ok (.iload_n 2, 1) := by decide +kernel
theorem dX5_isAsked_2 : decode cX5_isAsked 2 = .ok (.if_icmp .eq 25, 3) := by decide +kernel
theorem dX5_isAsked_5 : decode cX5_isAsked 5 = .ok (.aload_n 0, 1) := by decide +kernel
theorem dX5_isAsked_6 : decode cX5_isAsked 6 = .ok (.getfield 11, 3) := by decide +kernel
theorem dX5_isAsked_9 : decode cX5_isAsked 9 = .ok (.iload_n 1, 1) := by decide +kernel
theorem dX5_isAsked_10 : decode cX5_isAsked 10 = .ok (.aaload, 1) := by decide +kernel
theorem dX5_isAsked_11 : decode cX5_isAsked 11 = .ok (.ifnonnull 12, 3) := by decide +kernel
theorem dX5_isAsked_14 : decode cX5_isAsked 14 = .ok (.aload_n 0, 1) := by decide +kernel
theorem dX5_isAsked_15 : decode cX5_isAsked 15 = .ok (.getfield 11, 3) := by decide +kernel
theorem dX5_isAsked_18 : decode cX5_isAsked 18 = .ok (.iload_n 2, 1) := by decide +kernel
theorem dX5_isAsked_19 : decode cX5_isAsked 19 = .ok (.aaload, 1) := by decide +kernel
theorem dX5_isAsked_20 : decode cX5_isAsked 20 = .ok (.ifnull 7, 3) := by decide +kernel
theorem dX5_isAsked_23 : decode cX5_isAsked 23 = .ok (.iconst 1, 1) := by decide +kernel
theorem dX5_isAsked_24 : decode cX5_isAsked 24 = .ok (.goto 4, 3) := by decide +kernel
theorem dX5_isAsked_27 : decode cX5_isAsked 27 = .ok (.iconst 0, 1) := by decide +kernel
theorem dX5_isAsked_28 : decode cX5_isAsked 28 = .ok (.ireturn, 1) := by decide +kernel
theorem dX5_write_0 : decode cX5_write 0 = .ok (.iconst 3, 1) := by decide +kernel
theorem dX5_write_1 : decode cX5_write 1 = .ok (.newarray .int, 2) := by decide +kernel
theorem dX5_write_3 : decode cX5_write 3 = .ok (.dup, 1) := by decide +kernel
theorem dX5_write_4 : decode cX5_write 4 = .ok (.iconst 0, 1) := by decide +kernel
theorem dX5_write_5 : decode cX5_write 5 = .ok (.iload_n 2, 1) := by decide +kernel
theorem dX5_write_6 : decode cX5_write 6 = .ok (.iastore, 1) := by decide +kernel
theorem dX5_write_7 : decode cX5_write 7 = .ok (.dup, 1) := by decide +kernel
theorem dX5_write_8 : decode cX5_write 8 = .ok (.iconst 1, 1) := by decide +kernel
theorem dX5_write_9 : decode cX5_write 9 = .ok (.iload_n 3, 1) := by decide +kernel
theorem dX5_write_10 : decode cX5_write 10 = .ok (.iastore, 1) := by decide +kernel
theorem dX5_write_11 : decode cX5_write 11 = .ok (.dup, 1) := by decide +kernel
theorem dX5_write_12 : decode cX5_write 12 = .ok (.iconst 2, 1) := by decide +kernel
theorem dX5_write_13 : decode cX5_write 13 = .ok (.iload 4, 2) := by decide +kernel
theorem dX5_write_15 : decode cX5_write 15 = .ok (.iastore, 1) := by decide +kernel
theorem dX5_write_16 : decode cX5_write 16 = .ok (.astore 5, 2) := by decide +kernel
theorem dX5_write_18 : decode cX5_write 18 = .ok (.iconst 0, 1) := by decide +kernel
theorem dX5_write_19 : decode cX5_write 19 = .ok (.istore 6, 2) := by decide +kernel
theorem dX5_write_21 : decode cX5_write 21 = .ok (.iconst 0, 1) := by decide +kernel
theorem dX5_write_22 : decode cX5_write 22 = .ok (.istore 7, 2) := by decide +kernel
theorem dX5_write_24 : decode cX5_write 24 = .ok (.iconst 0, 1) := by decide +kernel
theorem dX5_write_25 : decode cX5_write 25 = .ok (.istore 8, 2) := by decide +kernel
theorem dX5_write_27 : decode cX5_write 27 = .ok (.iload 8, 2) := by decide +kernel
theorem dX5_write_29 : decode cX5_write 29 = .ok (.iconst 3, 1) := by decide +kernel
theorem dX5_write_30 : decode cX5_write 30 = .ok (.if_icmp .ge 68, 3) := by decide +kernel
theorem dX5_write_33 : decode cX5_write 33 = .ok (.iload 6, 2) := by decide +kernel
theorem dX5_write_35 : decode cX5_write 35 = .ok (.aload 5, 2) := by decide +kernel
theorem dX5_write_37 : decode cX5_write 37 = .ok (.iload 8, 2) := by decide +kernel
theorem dX5_write_39 : decode cX5_write 39 = .ok (.iaload, 1) := by decide +kernel
theorem dX5_write_40 : decode cX5_write 40 = .ok (.iconst (-1), 1) := by decide +kernel
theorem dX5_write_41 : decode cX5_write 41 = .ok (.if_icmp .eq 18, 3) := by decide +kernel
theorem dX5_write_44 : decode cX5_write 44 = .ok (.aload 5, 2) := by decide +kernel
theorem dX5_write_46 : decode cX5_write 46 = .ok (.iload 8, 2) := by decide +kernel
theorem dX5_write_48 : decode cX5_write 48 = .ok (.iaload, 1) := by decide +kernel
theorem dX5_write_49 : decode cX5_write 49 = .ok (.invokestatic 65, 3) := by decide +kernel
theorem dX5_write_52 : decode cX5_write 52 = .ok (.ifCond .ne 7, 3) := by decide +kernel
theorem dX5_write_55 : decode cX5_write 55 = .ok (.iconst 1, 1) := by decide +kernel
theorem dX5_write_56 : decode cX5_write 56 = .ok (.goto 4, 3) := by decide +kernel
theorem dX5_write_59 : decode cX5_write 59 = .ok (.iconst 0, 1) := by decide +kernel
theorem dX5_write_60 : decode cX5_write 60 = .ok (.ior, 1) := by decide +kernel
theorem dX5_write_61 : decode cX5_write 61 = .ok (.istore 6, 2) := by decide +kernel
theorem dX5_write_63 : decode cX5_write 63 = .ok (.iload 7, 2) := by decide +kernel
theorem dX5_write_65 : decode cX5_write 65 = .ok (.iload 7, 2) := by decide +kernel
theorem dX5_write_67 : decode cX5_write 67 = .ok (.iload 8, 2) := by decide +kernel
theorem dX5_write_69 : decode cX5_write 69 = .ok (.if_icmp .ne 16, 3) := by decide +kernel
theorem dX5_write_72 : decode cX5_write 72 = .ok (.aload 5, 2) := by decide +kernel
theorem dX5_write_74 : decode cX5_write 74 = .ok (.iload 8, 2) := by decide +kernel
theorem dX5_write_76 : decode cX5_write 76 = .ok (.iaload, 1) := by decide +kernel
theorem dX5_write_77 : decode cX5_write 77 = .ok (.iconst (-1), 1) := by decide +kernel
theorem dX5_write_78 : decode cX5_write 78 = .ok (.if_icmp .eq 7, 3) := by decide +kernel
theorem dX5_write_81 : decode cX5_write 81 = .ok (.iconst 1, 1) := by decide +kernel
theorem dX5_write_82 : decode cX5_write 82 = .ok (.goto 4, 3) := by decide +kernel
theorem dX5_write_85 : decode cX5_write 85 = .ok (.iconst 0, 1) := by decide +kernel
theorem dX5_write_86 : decode cX5_write 86 = .ok (.invokestatic 49, 3) := by decide +kernel
theorem dX5_write_89 : decode cX5_write 89 = .ok (.iadd, 1) := by decide +kernel
theorem dX5_write_90 : decode cX5_write 90 = .ok (.istore 7, 2) := by decide +kernel
theorem dX5_write_92 : decode cX5_write 92 = .ok (.iinc 8 1, 3) := by decide +kernel
theorem dX5_write_95 : decode cX5_write 95 = .ok (.goto (-68), 3) := by decide +kernel
theorem dX5_write_98 : decode cX5_write 98 = .ok (.aload_n 0, 1) := by decide +kernel
theorem dX5_write_99 : decode cX5_write 99 = .ok (.iload_n 1, 1) := by decide +kernel
theorem dX5_write_100 : decode cX5_write 100 = .ok (.invokestatic 69, 3) := by decide +kernel
theorem dX5_write_103 : decode cX5_write 103 = .ok (.iconst 1, 1) := by decide +kernel
theorem dX5_write_104 : decode cX5_write 104 = .ok (.invokevirtual 72, 3) := by decide +kernel
theorem dX5_write_107 : decode cX5_write 107 = .ok (.ifCond .ne 48, 3) := by decide +kernel
theorem dX5_write_110 : decode cX5_write 110 = .ok (.aload_n 0, 1) := by decide +kernel
theorem dX5_write_111 : decode cX5_write 111 = .ok (.iload 6, 2) := by decide +kernel
theorem dX5_write_113 : decode cX5_write 113 = .ok (.iconst 2, 1) := by decide +kernel
theorem dX5_write_114 : decode cX5_write 114 = .ok (.invokevirtual 18, 3) := by decide +kernel
theorem dX5_write_117 : decode cX5_write 117 = .ok (.ifCond .ne 38, 3) := by decide +kernel
theorem dX5_write_120 : decode cX5_write 120 = .ok (.aload_n 0, 1) := by decide +kernel
theorem dX5_write_121 : decode cX5_write 121 = .ok (.aload_n 0, 1) := by decide +kernel
theorem dX5_write_122 : decode cX5_write 122 = .ok (.getfield 11, 3) := by decide +kernel
theorem dX5_write_125 : decode cX5_write 125 = .ok (.iload_n 1, 1) := by decide +kernel
theorem dX5_write_126 : decode cX5_write 126 = .ok (.aaload, 1) := by decide +kernel
theorem dX5_write_127 : decode cX5_write 127 = .ok (.ifnull 16, 3) := by decide +kernel
theorem dX5_write_130 : decode cX5_write 130 = .ok (.aload_n 0, 1) := by decide +kernel
theorem dX5_write_131 : decode cX5_write 131 = .ok (.iload_n 1, 1) := by decide +kernel
theorem dX5_write_132 : decode cX5_write 132 = .ok (.invokevirtual 75, 3) := by decide +kernel
theorem dX5_write_135 : decode cX5_write 135 = .ok (.iload 7, 2) := by decide +kernel
theorem dX5_write_137 : decode cX5_write 137 = .ok (.iadd, 1) := by decide +kernel
theorem dX5_write_138 : decode cX5_write 138 = .ok (.bipush 24, 2) := by decide +kernel
theorem dX5_write_140 : decode cX5_write 140 = .ok (.if_icmp .le 7, 3) := by decide +kernel
theorem dX5_write_143 : decode cX5_write 143 = .ok (.iconst 1, 1) := by decide +kernel
theorem dX5_write_144 : decode cX5_write 144 = .ok (.goto 4, 3) := by decide +kernel
theorem dX5_write_147 : decode cX5_write 147 = .ok (.iconst 0, 1) := by decide +kernel
theorem dX5_write_148 : decode cX5_write 148 = .ok (.iconst 3, 1) := by decide +kernel
theorem dX5_write_149 : decode cX5_write 149 = .ok (.invokevirtual 18, 3) := by decide +kernel
theorem dX5_write_152 : decode cX5_write 152 = .ok (.ifCond .eq 5, 3) := by decide +kernel
theorem dX5_write_155 : decode cX5_write 155 = .ok (.iconst 0, 1) := by decide +kernel
theorem dX5_write_156 : decode cX5_write 156 = .ok (.ireturn, 1) := by decide +kernel
theorem dX5_write_157 : decode cX5_write 157 = .ok (.iconst 0, 1) := by decide +kernel
theorem dX5_write_158 : decode cX5_write 158 = .ok (.istore 8, 2) := by decide +kernel
theorem dX5_write_160 : decode cX5_write 160 = .ok (.iload 8, 2) := by decide +kernel
theorem dX5_write_162 : decode cX5_write 162 = .ok (.iload 7, 2) := by decide +kernel
theorem dX5_write_164 : decode cX5_write 164 = .ok (.if_icmp .ge 29, 3) := by decide +kernel
theorem dX5_write_167 : decode cX5_write 167 = .ok (.aload_n 0, 1) := by decide +kernel
theorem dX5_write_168 : decode cX5_write 168 = .ok (.getfield 11, 3) := by decide +kernel
theorem dX5_write_171 : decode cX5_write 171 = .ok (.iload_n 1, 1) := by decide +kernel
theorem dX5_write_172 : decode cX5_write 172 = .ok (.aload_n 0, 1) := by decide +kernel
theorem dX5_write_173 : decode cX5_write 173 = .ok (.getfield 11, 3) := by decide +kernel
theorem dX5_write_176 : decode cX5_write 176 = .ok (.iload_n 1, 1) := by decide +kernel
theorem dX5_write_177 : decode cX5_write 177 = .ok (.aaload, 1) := by decide +kernel
theorem dX5_write_178 : decode cX5_write 178 = .ok (.aload 5, 2) := by decide +kernel
theorem dX5_write_180 : decode cX5_write 180 = .ok (.iload 8, 2) := by decide +kernel
theorem dX5_write_182 : decode cX5_write 182 = .ok (.iaload, 1) := by decide +kernel
theorem dX5_write_183 : decode cX5_write 183 = .ok (.invokestatic 79, 3) := by decide +kernel
theorem dX5_write_186 : decode cX5_write 186 = .ok (.aastore, 1) := by decide +kernel
theorem dX5_write_187 : decode cX5_write 187 = .ok (.iinc 8 1, 3) := by decide +kernel
theorem dX5_write_190 : decode cX5_write 190 = .ok (.goto (-30), 3) := by decide +kernel
theorem dX5_write_193 : decode cX5_write 193 = .ok (.aload_n 0, 1) := by decide +kernel
theorem dX5_write_194 : decode cX5_write 194 = .ok (.iload_n 1, 1) := by decide +kernel
theorem dX5_write_195 : decode cX5_write 195 = .ok (.invokevirtual 75, 3) := by decide +kernel
theorem dX5_write_198 : decode cX5_write 198 = .ok (.ireturn, 1) := by decide +kernel
theorem dX5_fill_0 : decode cX5_fill 0 = .ok (.aload_n 0, 1) := by decide +kernel
theorem dX5_fill_1 : decode cX5_fill 1 = .ok (.iload_n 1, 1) := by decide +kernel
theorem dX5_fill_2 : decode cX5_fill 2 = .ok (.invokestatic 69, 3) := by decide +kernel
theorem dX5_fill_5 : decode cX5_fill 5 = .ok (.iconst 1, 1) := by decide +kernel
theorem dX5_fill_6 : decode cX5_fill 6 = .ok (.invokevirtual 72, 3) := by decide +kernel
theorem dX5_fill_9 : decode cX5_fill 9 = .ok (.ifCond .ne 33, 3) := by decide +kernel
theorem dX5_fill_12 : decode cX5_fill 12 = .ok (.aload_n 0, 1) := by decide +kernel
theorem dX5_fill_13 : decode cX5_fill 13 = .ok (.iload_n 2, 1) := by decide +kernel
theorem dX5_fill_14 : decode cX5_fill 14 = .ok (.invokestatic 65, 3) := by decide +kernel
theorem dX5_fill_17 : decode cX5_fill 17 = .ok (.ifCond .eq 13, 3) := by decide +kernel
theorem dX5_fill_20 : decode cX5_fill 20 = .ok (.iload_n 3, 1) := by decide +kernel
theorem dX5_fill_21 : decode cX5_fill 21 = .ok (.iconst 0, 1) := by decide +kernel
theorem dX5_fill_22 : decode cX5_fill 22 = .ok (.bipush 24, 2) := by decide +kernel
theorem dX5_fill_24 : decode cX5_fill 24 = .ok (.invokestatic 22, 3) := by decide +kernel
theorem dX5_fill_27 : decode cX5_fill 27 = .ok (.ifCond .ne 7, 3) := by decide +kernel
theorem dX5_fill_30 : decode cX5_fill 30 = .ok (.iconst 1, 1) := by decide +kernel
theorem dX5_fill_31 : decode cX5_fill 31 = .ok (.goto 4, 3) := by decide +kernel
theorem dX5_fill_34 : decode cX5_fill 34 = .ok (.iconst 0, 1) := by decide +kernel
theorem dX5_fill_35 : decode cX5_fill 35 = .ok (.iconst 2, 1) := by decide +kernel
theorem dX5_fill_36 : decode cX5_fill 36 = .ok (.invokevirtual 18, 3) := by decide +kernel
theorem dX5_fill_39 : decode cX5_fill 39 = .ok (.ifCond .eq 5, 3) := by decide +kernel
theorem dX5_fill_42 : decode cX5_fill 42 = .ok (.iconst 0, 1) := by decide +kernel
theorem dX5_fill_43 : decode cX5_fill 43 = .ok (.ireturn, 1) := by decide +kernel
theorem dX5_fill_44 : decode cX5_fill 44 = .ok (.aload_n 0, 1) := by decide +kernel
theorem dX5_fill_45 : decode cX5_fill 45 = .ok (.iload_n 1, 1) := by decide +kernel
theorem dX5_fill_46 : decode cX5_fill 46 = .ok (.invokevirtual 75, 3) := by decide +kernel
theorem dX5_fill_49 : decode cX5_fill 49 = .ok (.istore 4, 2) := by decide +kernel
theorem dX5_fill_51 : decode cX5_fill 51 = .ok (.aload_n 0, 1) := by decide +kernel
theorem dX5_fill_52 : decode cX5_fill 52 = .ok (.getfield 11, 3) := by decide +kernel
theorem dX5_fill_55 : decode cX5_fill 55 = .ok (.iload_n 1, 1) := by decide +kernel
theorem dX5_fill_56 : decode cX5_fill 56 = .ok (.iload_n 3, 1) := by decide +kernel
theorem dX5_fill_57 : decode cX5_fill 57 = .ok (.newarray .int, 2) := by decide +kernel
theorem dX5_fill_59 : decode cX5_fill 59 = .ok (.aastore, 1) := by decide +kernel
theorem dX5_fill_60 : decode cX5_fill 60 = .ok (.iconst 0, 1) := by decide +kernel
theorem dX5_fill_61 : decode cX5_fill 61 = .ok (.istore 5, 2) := by decide +kernel
theorem dX5_fill_63 : decode cX5_fill 63 = .ok (.iload 5, 2) := by decide +kernel
theorem dX5_fill_65 : decode cX5_fill 65 = .ok (.iload_n 3, 1) := by decide +kernel
theorem dX5_fill_66 : decode cX5_fill 66 = .ok (.if_icmp .ge 19, 3) := by decide +kernel
theorem dX5_fill_69 : decode cX5_fill 69 = .ok (.aload_n 0, 1) := by decide +kernel
theorem dX5_fill_70 : decode cX5_fill 70 = .ok (.getfield 11, 3) := by decide +kernel
theorem dX5_fill_73 : decode cX5_fill 73 = .ok (.iload_n 1, 1) := by decide +kernel
theorem dX5_fill_74 : decode cX5_fill 74 = .ok (.aaload, 1) := by decide +kernel
theorem dX5_fill_75 : decode cX5_fill 75 = .ok (.iload 5, 2) := by decide +kernel
theorem dX5_fill_77 : decode cX5_fill 77 = .ok (.iload_n 2, 1) := by decide +kernel
theorem dX5_fill_78 : decode cX5_fill 78 = .ok (.iastore, 1) := by decide +kernel
theorem dX5_fill_79 : decode cX5_fill 79 = .ok (.iinc 5 1, 3) := by decide +kernel
theorem dX5_fill_82 : decode cX5_fill 82 = .ok (.goto (-19), 3) := by decide +kernel
theorem dX5_fill_85 : decode cX5_fill 85 = .ok (.iload 4, 2) := by decide +kernel
theorem dX5_fill_87 : decode cX5_fill 87 = .ok (.ireturn, 1) := by decide +kernel
theorem dX5_isNone_0 : decode cX5_isNone 0 = .ok (.aload_n 0, 1) := by decide +kernel
theorem dX5_isNone_1 : decode cX5_isNone 1 = .ok (.iload_n 1, 1) := by decide +kernel
theorem dX5_isNone_2 : decode cX5_isNone 2 = .ok (.invokestatic 69, 3) := by decide +kernel
theorem dX5_isNone_5 : decode cX5_isNone 5 = .ok (.iconst 1, 1) := by decide +kernel
theorem dX5_isNone_6 : decode cX5_isNone 6 = .ok (.invokevirtual 72, 3) := by decide +kernel
theorem dX5_isNone_9 : decode cX5_isNone 9 = .ok (.ifCond .ne 25, 3) := by decide +kernel
theorem dX5_isNone_12 : decode cX5_isNone 12 = .ok (.aload_n 0, 1) := by decide +kernel
theorem dX5_isNone_13 : decode cX5_isNone 13 = .ok (.aload_n 0, 1) := by decide +kernel
theorem dX5_isNone_14 : decode cX5_isNone 14 = .ok (.getfield 11, 3) := by decide +kernel
theorem dX5_isNone_17 : decode cX5_isNone 17 = .ok (.iload_n 1, 1) := by decide +kernel
theorem dX5_isNone_18 : decode cX5_isNone 18 = .ok (.aaload, 1) := by decide +kernel
theorem dX5_isNone_19 : decode cX5_isNone 19 = .ok (.ifnonnull 7, 3) := by decide +kernel
theorem dX5_isNone_22 : decode cX5_isNone 22 = .ok (.iconst 1, 1) := by decide +kernel
theorem dX5_isNone_23 : decode cX5_isNone 23 = .ok (.goto 4, 3) := by decide +kernel
theorem dX5_isNone_26 : decode cX5_isNone 26 = .ok (.iconst 0, 1) := by decide +kernel
theorem dX5_isNone_27 : decode cX5_isNone 27 = .ok (.iconst 2, 1) := by decide +kernel
theorem dX5_isNone_28 : decode cX5_isNone 28 = .ok (.invokevirtual 18, 3) := by decide +kernel
theorem dX5_isNone_31 : decode cX5_isNone 31 = .ok (.ifCond .eq 7, 3) := by decide +kernel
theorem dX5_isNone_34 : decode cX5_isNone 34 = .ok (.iconst 1, 1) := by decide +kernel
theorem dX5_isNone_35 : decode cX5_isNone 35 = .ok (.goto 4, 3) := by decide +kernel
theorem dX5_isNone_38 : decode cX5_isNone 38 = .ok (.iconst 0, 1) := by decide +kernel
theorem dX5_isNone_39 : decode cX5_isNone 39 = .ok (.ireturn, 1) := by decide +kernel
theorem dX5_cut_0 : decode cX5_cut 0 = .ok (.aload_n 0, 1) := by decide +kernel
theorem dX5_cut_1 : decode cX5_cut 1 = .ok (.iload_n 1, 1) := by decide +kernel
theorem dX5_cut_2 : decode cX5_cut 2 = .ok (.invokevirtual 83, 3) := by decide +kernel
theorem dX5_cut_5 : decode cX5_cut 5 = .ok (.ifCond .eq 5, 3) := by decide +kernel
theorem dX5_cut_8 : decode cX5_cut 8 = .ok (.iconst 0, 1) := by decide +kernel
theorem dX5_cut_9 : decode cX5_cut 9 = .ok (.ireturn, 1) := by decide +kernel
theorem dX5_cut_10 : decode cX5_cut 10 = .ok (.iload_n 2, 1) := by decide +kernel
theorem dX5_cut_11 : decode cX5_cut 11 = .ok (.i2l, 1) := by decide +kernel
theorem dX5_cut_12 : decode cX5_cut 12 = .ok (.iload_n 3, 1) := by decide +kernel
theorem dX5_cut_13 : decode cX5_cut 13 = .ok (.i2l, 1) := by decide +kernel
theorem dX5_cut_14 : decode cX5_cut 14 = .ok (.aload_n 0, 1) := by decide +kernel
theorem dX5_cut_15 : decode cX5_cut 15 = .ok (.iload_n 1, 1) := by decide +kernel
theorem dX5_cut_16 : decode cX5_cut 16 = .ok (.invokevirtual 75, 3) := by decide +kernel
theorem dX5_cut_19 : decode cX5_cut 19 = .ok (.i2l, 1) := by decide +kernel
theorem dX5_cut_20 : decode cX5_cut 20 = .ok (.invokestatic 86, 3) := by decide +kernel
theorem dX5_cut_23 : decode cX5_cut 23 = .ok (.ifCond .ne 8, 3) := by decide +kernel
theorem dX5_cut_26 : decode cX5_cut 26 = .ok (.aload_n 0, 1) := by decide +kernel
theorem dX5_cut_27 : decode cX5_cut 27 = .ok (.invokevirtual 90, 3) := by decide +kernel
theorem dX5_cut_30 : decode cX5_cut 30 = .ok (.ireturn, 1) := by decide +kernel
theorem dX5_cut_31 : decode cX5_cut 31 = .ok (.aload_n 0, 1) := by decide +kernel
theorem dX5_cut_32 : decode cX5_cut 32 = .ok (.getfield 11, 3) := by decide +kernel
theorem dX5_cut_35 : decode cX5_cut 35 = .ok (.iload_n 1, 1) := by decide +kernel
theorem dX5_cut_36 : decode cX5_cut 36 = .ok (.aload_n 0, 1) := by decide +kernel
theorem dX5_cut_37 : decode cX5_cut 37 = .ok (.getfield 11, 3) := by decide +kernel
theorem dX5_cut_40 : decode cX5_cut 40 = .ok (.iload_n 1, 1) := by decide +kernel
theorem dX5_cut_41 : decode cX5_cut 41 = .ok (.aaload, 1) := by decide +kernel
theorem dX5_cut_42 : decode cX5_cut 42 = .ok (.iload_n 2, 1) := by decide +kernel
theorem dX5_cut_43 : decode cX5_cut 43 = .ok (.iload_n 3, 1) := by decide +kernel
theorem dX5_cut_44 : decode cX5_cut 44 = .ok (.invokestatic 94, 3) := by decide +kernel
theorem dX5_cut_47 : decode cX5_cut 47 = .ok (.aastore, 1) := by decide +kernel
theorem dX5_cut_48 : decode cX5_cut 48 = .ok (.aload_n 0, 1) := by decide +kernel
theorem dX5_cut_49 : decode cX5_cut 49 = .ok (.iload_n 1, 1) := by decide +kernel
theorem dX5_cut_50 : decode cX5_cut 50 = .ok (.invokevirtual 75, 3) := by decide +kernel
theorem dX5_cut_53 : decode cX5_cut 53 = .ok (.ireturn, 1) := by decide +kernel
theorem dX5_take_0 : decode cX5_take 0 = .ok (.aload_n 0, 1) := by decide +kernel
theorem dX5_take_1 : decode cX5_take 1 = .ok (.iload_n 1, 1) := by decide +kernel
theorem dX5_take_2 : decode cX5_take 2 = .ok (.invokevirtual 83, 3) := by decide +kernel
theorem dX5_take_5 : decode cX5_take 5 = .ok (.ifCond .eq 5, 3) := by decide +kernel
theorem dX5_take_8 : decode cX5_take 8 = .ok (.iconst 0, 1) := by decide +kernel
theorem dX5_take_9 : decode cX5_take 9 = .ok (.ireturn, 1) := by decide +kernel
theorem dX5_take_10 : decode cX5_take 10 = .ok (.iload_n 2, 1) := by decide +kernel
theorem dX5_take_11 : decode cX5_take 11 = .ok (.i2l, 1) := by decide +kernel
theorem dX5_take_12 : decode cX5_take 12 = .ok (.iload_n 3, 1) := by decide +kernel
theorem dX5_take_13 : decode cX5_take 13 = .ok (.i2l, 1) := by decide +kernel
theorem dX5_take_14 : decode cX5_take 14 = .ok (.aload_n 0, 1) := by decide +kernel
theorem dX5_take_15 : decode cX5_take 15 = .ok (.iload_n 1, 1) := by decide +kernel
theorem dX5_take_16 : decode cX5_take 16 = .ok (.invokevirtual 75, 3) := by decide +kernel
theorem dX5_take_19 : decode cX5_take 19 = .ok (.i2l, 1) := by decide +kernel
theorem dX5_take_20 : decode cX5_take 20 = .ok (.invokestatic 98, 3) := by decide +kernel
theorem dX5_take_23 : decode cX5_take 23 = .ok (.ifCond .ne 8, 3) := by decide +kernel
theorem dX5_take_26 : decode cX5_take 26 = .ok (.aload_n 0, 1) := by decide +kernel
theorem dX5_take_27 : decode cX5_take 27 = .ok (.invokevirtual 90, 3) := by decide +kernel
theorem dX5_take_30 : decode cX5_take 30 = .ok (.ireturn, 1) := by decide +kernel
theorem dX5_take_31 : decode cX5_take 31 = .ok (.aload_n 0, 1) := by decide +kernel
theorem dX5_take_32 : decode cX5_take 32 = .ok (.getfield 11, 3) := by decide +kernel
theorem dX5_take_35 : decode cX5_take 35 = .ok (.iload_n 1, 1) := by decide +kernel
theorem dX5_take_36 : decode cX5_take 36 = .ok (.aload_n 0, 1) := by decide +kernel
theorem dX5_take_37 : decode cX5_take 37 = .ok (.getfield 11, 3) := by decide +kernel
theorem dX5_take_40 : decode cX5_take 40 = .ok (.iload_n 1, 1) := by decide +kernel
theorem dX5_take_41 : decode cX5_take 41 = .ok (.aaload, 1) := by decide +kernel
theorem dX5_take_42 : decode cX5_take 42 = .ok (.iload_n 2, 1) := by decide +kernel
theorem dX5_take_43 : decode cX5_take 43 = .ok (.iload_n 2, 1) := by decide +kernel
theorem dX5_take_44 : decode cX5_take 44 = .ok (.iload_n 3, 1) := by decide +kernel
theorem dX5_take_45 : decode cX5_take 45 = .ok (.iadd, 1) := by decide +kernel
theorem dX5_take_46 : decode cX5_take 46 = .ok (.invokestatic 94, 3) := by decide +kernel
theorem dX5_take_49 : decode cX5_take 49 = .ok (.aastore, 1) := by decide +kernel
theorem dX5_take_50 : decode cX5_take 50 = .ok (.aload_n 0, 1) := by decide +kernel
theorem dX5_take_51 : decode cX5_take 51 = .ok (.iload_n 1, 1) := by decide +kernel
theorem dX5_take_52 : decode cX5_take 52 = .ok (.invokevirtual 75, 3) := by decide +kernel
theorem dX5_take_55 : decode cX5_take 55 = .ok (.ireturn, 1) := by decide +kernel
theorem dX5_put_0 : decode cX5_put 0 = .ok (.aload_n 0, 1) := by decide +kernel
theorem dX5_put_1 : decode cX5_put 1 = .ok (.iload_n 1, 1) := by decide +kernel
theorem dX5_put_2 : decode cX5_put 2 = .ok (.invokestatic 69, 3) := by decide +kernel
theorem dX5_put_5 : decode cX5_put 5 = .ok (.iconst 1, 1) := by decide +kernel
theorem dX5_put_6 : decode cX5_put 6 = .ok (.invokevirtual 72, 3) := by decide +kernel
theorem dX5_put_9 : decode cX5_put 9 = .ok (.ifCond .ne 45, 3) := by decide +kernel
theorem dX5_put_12 : decode cX5_put 12 = .ok (.aload_n 0, 1) := by decide +kernel
theorem dX5_put_13 : decode cX5_put 13 = .ok (.iload_n 3, 1) := by decide +kernel
theorem dX5_put_14 : decode cX5_put 14 = .ok (.invokestatic 65, 3) := by decide +kernel
theorem dX5_put_17 : decode cX5_put 17 = .ok (.ifCond .ne 7, 3) := by decide +kernel
theorem dX5_put_20 : decode cX5_put 20 = .ok (.iconst 1, 1) := by decide +kernel
theorem dX5_put_21 : decode cX5_put 21 = .ok (.goto 4, 3) := by decide +kernel
theorem dX5_put_24 : decode cX5_put 24 = .ok (.iconst 0, 1) := by decide +kernel
theorem dX5_put_25 : decode cX5_put 25 = .ok (.iconst 2, 1) := by decide +kernel
theorem dX5_put_26 : decode cX5_put 26 = .ok (.invokevirtual 18, 3) := by decide +kernel
theorem dX5_put_29 : decode cX5_put 29 = .ok (.ifCond .ne 25, 3) := by decide +kernel
theorem dX5_put_32 : decode cX5_put 32 = .ok (.aload_n 0, 1) := by decide +kernel
theorem dX5_put_33 : decode cX5_put 33 = .ok (.aload_n 0, 1) := by decide +kernel
theorem dX5_put_34 : decode cX5_put 34 = .ok (.getfield 11, 3) := by decide +kernel
theorem dX5_put_37 : decode cX5_put 37 = .ok (.iload_n 1, 1) := by decide +kernel
theorem dX5_put_38 : decode cX5_put 38 = .ok (.aaload, 1) := by decide +kernel
theorem dX5_put_39 : decode cX5_put 39 = .ok (.ifnonnull 7, 3) := by decide +kernel
theorem dX5_put_42 : decode cX5_put 42 = .ok (.iconst 1, 1) := by decide +kernel
theorem dX5_put_43 : decode cX5_put 43 = .ok (.goto 4, 3) := by decide +kernel
theorem dX5_put_46 : decode cX5_put 46 = .ok (.iconst 0, 1) := by decide +kernel
theorem dX5_put_47 : decode cX5_put 47 = .ok (.iconst 3, 1) := by decide +kernel
theorem dX5_put_48 : decode cX5_put 48 = .ok (.invokevirtual 18, 3) := by decide +kernel
theorem dX5_put_51 : decode cX5_put 51 = .ok (.ifCond .eq 5, 3) := by decide +kernel
theorem dX5_put_54 : decode cX5_put 54 = .ok (.iconst 0, 1) := by decide +kernel
theorem dX5_put_55 : decode cX5_put 55 = .ok (.ireturn, 1) := by decide +kernel
theorem dX5_put_56 : decode cX5_put 56 = .ok (.iload_n 2, 1) := by decide +kernel
theorem dX5_put_57 : decode cX5_put 57 = .ok (.iconst 0, 1) := by decide +kernel
theorem dX5_put_58 : decode cX5_put 58 = .ok (.aload_n 0, 1) := by decide +kernel
theorem dX5_put_59 : decode cX5_put 59 = .ok (.iload_n 1, 1) := by decide +kernel
theorem dX5_put_60 : decode cX5_put 60 = .ok (.invokevirtual 75, 3) := by decide +kernel
theorem dX5_put_63 : decode cX5_put 63 = .ok (.iconst 1, 1) := by decide +kernel
theorem dX5_put_64 : decode cX5_put 64 = .ok (.isub, 1) := by decide +kernel
theorem dX5_put_65 : decode cX5_put 65 = .ok (.invokestatic 22, 3) := by decide +kernel
theorem dX5_put_68 : decode cX5_put 68 = .ok (.ifCond .ne 8, 3) := by decide +kernel
theorem dX5_put_71 : decode cX5_put 71 = .ok (.aload_n 0, 1) := by decide +kernel
theorem dX5_put_72 : decode cX5_put 72 = .ok (.invokevirtual 90, 3) := by decide +kernel
theorem dX5_put_75 : decode cX5_put 75 = .ok (.ireturn, 1) := by decide +kernel
theorem dX5_put_76 : decode cX5_put 76 = .ok (.aload_n 0, 1) := by decide +kernel
theorem dX5_put_77 : decode cX5_put 77 = .ok (.getfield 11, 3) := by decide +kernel
theorem dX5_put_80 : decode cX5_put 80 = .ok (.iload_n 1, 1) := by decide +kernel
theorem dX5_put_81 : decode cX5_put 81 = .ok (.aaload, 1) := by decide +kernel
theorem dX5_put_82 : decode cX5_put 82 = .ok (.iload_n 2, 1) := by decide +kernel
theorem dX5_put_83 : decode cX5_put 83 = .ok (.iaload, 1) := by decide +kernel
theorem dX5_put_84 : decode cX5_put 84 = .ok (.istore 4, 2) := by decide +kernel
theorem dX5_put_86 : decode cX5_put 86 = .ok (.aload_n 0, 1) := by decide +kernel
theorem dX5_put_87 : decode cX5_put 87 = .ok (.getfield 11, 3) := by decide +kernel
theorem dX5_put_90 : decode cX5_put 90 = .ok (.iload_n 1, 1) := by decide +kernel
theorem dX5_put_91 : decode cX5_put 91 = .ok (.aaload, 1) := by decide +kernel
theorem dX5_put_92 : decode cX5_put 92 = .ok (.iload_n 2, 1) := by decide +kernel
theorem dX5_put_93 : decode cX5_put 93 = .ok (.iload_n 3, 1) := by decide +kernel
theorem dX5_put_94 : decode cX5_put 94 = .ok (.iastore, 1) := by decide +kernel
theorem dX5_put_95 : decode cX5_put 95 = .ok (.iload 4, 2) := by decide +kernel
theorem dX5_put_97 : decode cX5_put 97 = .ok (.ireturn, 1) := by decide +kernel
theorem dX5_areNo_0 : decode cX5_areNo 0 = .ok (.aload_n 0, 1) := by decide +kernel
theorem dX5_areNo_1 : decode cX5_areNo 1 = .ok (.iload_n 1, 1) := by decide +kernel
theorem dX5_areNo_2 : decode cX5_areNo 2 = .ok (.invokestatic 69, 3) := by decide +kernel
theorem dX5_areNo_5 : decode cX5_areNo 5 = .ok (.ifCond .ne 10, 3) := by decide +kernel
theorem dX5_areNo_8 : decode cX5_areNo 8 = .ok (.iload_n 2, 1) := by decide +kernel
theorem dX5_areNo_9 : decode cX5_areNo 9 = .ok (.invokestatic 69, 3) := by decide +kernel
theorem dX5_areNo_12 : decode cX5_areNo 12 = .ok (.ifCond .eq 7, 3) := by decide +kernel
theorem dX5_areNo_15 : decode cX5_areNo 15 = .ok (.iconst 1, 1) := by decide +kernel
theorem dX5_areNo_16 : decode cX5_areNo 16 = .ok (.goto 4, 3) := by decide +kernel
theorem dX5_areNo_19 : decode cX5_areNo 19 = .ok (.iconst 0, 1) := by decide +kernel
theorem dX5_areNo_20 : decode cX5_areNo 20 = .ok (.iconst 1, 1) := by decide +kernel
theorem dX5_areNo_21 : decode cX5_areNo 21 = .ok (.invokevirtual 72, 3) := by decide +kernel
theorem dX5_areNo_24 : decode cX5_areNo 24 = .ok (.ireturn, 1) := by decide +kernel
theorem dX5_copy_0 : decode cX5_copy 0 = .ok (.aload_n 0, 1) := by decide +kernel
theorem dX5_copy_1 : decode cX5_copy 1 = .ok (.iload_n 1, 1) := by decide +kernel
theorem dX5_copy_2 : decode cX5_copy 2 = .ok (.iload_n 2, 1) := by decide +kernel
theorem dX5_copy_3 : decode cX5_copy 3 = .ok (.invokevirtual 101, 3) := by decide +kernel
theorem dX5_copy_6 : decode cX5_copy 6 = .ok (.ifCond .eq 5, 3) := by decide +kernel
theorem dX5_copy_9 : decode cX5_copy 9 = .ok (.iconst 0, 1) := by decide +kernel
theorem dX5_copy_10 : decode cX5_copy 10 = .ok (.ireturn, 1) := by decide +kernel
theorem dX5_copy_11 : decode cX5_copy 11 = .ok (.aload_n 0, 1) := by decide +kernel
theorem dX5_copy_12 : decode cX5_copy 12 = .ok (.getfield 11, 3) := by decide +kernel
theorem dX5_copy_15 : decode cX5_copy 15 = .ok (.iload_n 1, 1) := by decide +kernel
theorem dX5_copy_16 : decode cX5_copy 16 = .ok (.aload_n 0, 1) := by decide +kernel
theorem dX5_copy_17 : decode cX5_copy 17 = .ok (.getfield 11, 3) := by decide +kernel
theorem dX5_copy_20 : decode cX5_copy 20 = .ok (.iload_n 2, 1) := by decide +kernel
theorem dX5_copy_21 : decode cX5_copy 21 = .ok (.aaload, 1) := by decide +kernel
theorem dX5_copy_22 : decode cX5_copy 22 = .ok (.ifnonnull 7, 3) := by decide +kernel
theorem dX5_copy_25 : decode cX5_copy 25 = .ok (.aconst_null, 1) := by decide +kernel
theorem dX5_copy_26 : decode cX5_copy 26 = .ok (.goto 20, 3) := by decide +kernel
theorem dX5_copy_29 : decode cX5_copy 29 = .ok (.aload_n 0, 1) := by decide +kernel
theorem dX5_copy_30 : decode cX5_copy 30 = .ok (.getfield 11, 3) := by decide +kernel
theorem dX5_copy_33 : decode cX5_copy 33 = .ok (.iload_n 2, 1) := by decide +kernel
theorem dX5_copy_34 : decode cX5_copy 34 = .ok (.aaload, 1) := by decide +kernel
theorem dX5_copy_35 : decode cX5_copy 35 = .ok (.iconst 0, 1) := by decide +kernel
theorem dX5_copy_36 : decode cX5_copy 36 = .ok (.aload_n 0, 1) := by decide +kernel
theorem dX5_copy_37 : decode cX5_copy 37 = .ok (.getfield 11, 3) := by decide +kernel
theorem dX5_copy_40 : decode cX5_copy 40 = .ok (.iload_n 2, 1) := by decide +kernel
theorem dX5_copy_41 : decode cX5_copy 41 = .ok (.aaload, 1) := by decide +kernel
theorem dX5_copy_42 : decode cX5_copy 42 = .ok (.arraylength, 1) := by decide +kernel
theorem dX5_copy_43 : decode cX5_copy 43 = .ok (.invokestatic 94, 3) := by decide +kernel
theorem dX5_copy_46 : decode cX5_copy 46 = .ok (.aastore, 1) := by decide +kernel
theorem dX5_copy_47 : decode cX5_copy 47 = .ok (.aload_n 0, 1) := by decide +kernel
theorem dX5_copy_48 : decode cX5_copy 48 = .ok (.iload_n 1, 1) := by decide +kernel
theorem dX5_copy_49 : decode cX5_copy 49 = .ok (.invokevirtual 75, 3) := by decide +kernel
theorem dX5_copy_52 : decode cX5_copy 52 = .ok (.ireturn, 1) := by decide +kernel
theorem dX5_leave_0 : decode cX5_leave 0 = .ok (.aload_n 0, 1) := by decide +kernel
theorem dX5_leave_1 : decode cX5_leave 1 = .ok (.iload_n 1, 1) := by decide +kernel
theorem dX5_leave_2 : decode cX5_leave 2 = .ok (.invokestatic 69, 3) := by decide +kernel
theorem dX5_leave_5 : decode cX5_leave 5 = .ok (.iconst 1, 1) := by decide +kernel
theorem dX5_leave_6 : decode cX5_leave 6 = .ok (.invokevirtual 72, 3) := by decide +kernel
theorem dX5_leave_9 : decode cX5_leave 9 = .ok (.ifCond .eq 5, 3) := by decide +kernel
theorem dX5_leave_12 : decode cX5_leave 12 = .ok (.iconst 0, 1) := by decide +kernel
theorem dX5_leave_13 : decode cX5_leave 13 = .ok (.ireturn, 1) := by decide +kernel
theorem dX5_leave_14 : decode cX5_leave 14 = .ok (.aload_n 0, 1) := by decide +kernel
theorem dX5_leave_15 : decode cX5_leave 15 = .ok (.iload_n 1, 1) := by decide +kernel
theorem dX5_leave_16 : decode cX5_leave 16 = .ok (.invokevirtual 75, 3) := by decide +kernel
theorem dX5_leave_19 : decode cX5_leave 19 = .ok (.istore_n 2, 1) := by decide +kernel
theorem dX5_leave_20 : decode cX5_leave 20 = .ok (.aload_n 0, 1) := by decide +kernel
theorem dX5_leave_21 : decode cX5_leave 21 = .ok (.getfield 11, 3) := by decide +kernel
theorem dX5_leave_24 : decode cX5_leave 24 = .ok (.iload_n 1, 1) := by decide +kernel
theorem dX5_leave_25 : decode cX5_leave 25 = .ok (.aconst_null, 1) := by decide +kernel
theorem dX5_leave_26 : decode cX5_leave 26 = .ok (.aastore, 1) := by decide +kernel
theorem dX5_leave_27 : decode cX5_leave 27 = .ok (.iload_n 2, 1) := by decide +kernel
theorem dX5_leave_28 : decode cX5_leave 28 = .ok (.ireturn, 1) := by decide +kernel
theorem dX5_told_0 : decode cX5_told 0 = .ok (.aload_n 0, 1) := by decide +kernel
theorem dX5_told_1 : decode cX5_told 1 = .ok (.iconst 0, 1) := by decide +kernel
theorem dX5_told_2 : decode cX5_told 2 = .ok (.putfield 14, 3) := by decide +kernel
theorem dX5_told_5 : decode cX5_told 5 = .ok (.iload_n 1, 1) := by decide +kernel
theorem dX5_told_6 : decode cX5_told 6 = .ok (.ifCond .eq 7, 3) := by decide +kernel
theorem dX5_told_9 : decode cX5_told 9 = .ok (.iload_n 2, 1) := by decide +kernel
theorem dX5_told_10 : decode cX5_told 10 = .ok (.goto 7, 3) := by decide +kernel
theorem dX5_told_13 : decode cX5_told 13 = .ok (.aload_n 0, 1) := by decide +kernel
theorem dX5_told_14 : decode cX5_told 14 = .ok (.invokevirtual 90, 3) := by decide +kernel
theorem dX5_told_17 : decode cX5_told 17 = .ok (.ireturn, 1) := by decide +kernel
theorem dX5_place_0 : decode cX5_place 0 = .ok (.aload_n 0, 1) := by decide +kernel
theorem dX5_place_1 : decode cX5_place 1 = .ok (.iload_n 1, 1) := by decide +kernel
theorem dX5_place_2 : decode cX5_place 2 = .ok (.iconst 0, 1) := by decide +kernel
theorem dX5_place_3 : decode cX5_place 3 = .ok (.iload_n 2, 1) := by decide +kernel
theorem dX5_place_4 : decode cX5_place 4 = .ok (.iconst 1, 1) := by decide +kernel
theorem dX5_place_5 : decode cX5_place 5 = .ok (.isub, 1) := by decide +kernel
theorem dX5_place_6 : decode cX5_place 6 = .ok (.invokestatic 22, 3) := by decide +kernel
theorem dX5_place_9 : decode cX5_place 9 = .ok (.ifCond .eq 11, 3) := by decide +kernel
theorem dX5_place_12 : decode cX5_place 12 = .ok (.iload_n 2, 1) := by decide +kernel
theorem dX5_place_13 : decode cX5_place 13 = .ok (.ifCond .le 7, 3) := by decide +kernel
theorem dX5_place_16 : decode cX5_place 16 = .ok (.iconst 1, 1) := by decide +kernel
theorem dX5_place_17 : decode cX5_place 17 = .ok (.goto 4, 3) := by decide +kernel
theorem dX5_place_20 : decode cX5_place 20 = .ok (.iconst 0, 1) := by decide +kernel
theorem dX5_place_21 : decode cX5_place 21 = .ok (.iload_n 1, 1) := by decide +kernel
theorem dX5_place_22 : decode cX5_place 22 = .ok (.invokevirtual 105, 3) := by decide +kernel
theorem dX5_place_25 : decode cX5_place 25 = .ok (.ireturn, 1) := by decide +kernel
theorem dX5_span_0 : decode cX5_span 0 = .ok (.aload_n 0, 1) := by decide +kernel
theorem dX5_span_1 : decode cX5_span 1 = .ok (.iload_n 1, 1) := by decide +kernel
theorem dX5_span_2 : decode cX5_span 2 = .ok (.i2l, 1) := by decide +kernel
theorem dX5_span_3 : decode cX5_span 3 = .ok (.iload_n 2, 1) := by decide +kernel
theorem dX5_span_4 : decode cX5_span 4 = .ok (.i2l, 1) := by decide +kernel
theorem dX5_span_5 : decode cX5_span 5 = .ok (.iload_n 3, 1) := by decide +kernel
theorem dX5_span_6 : decode cX5_span 6 = .ok (.i2l, 1) := by decide +kernel
theorem dX5_span_7 : decode cX5_span 7 = .ok (.invokestatic 86, 3) := by decide +kernel
theorem dX5_span_10 : decode cX5_span 10 = .ok (.iload_n 1, 1) := by decide +kernel
theorem dX5_span_11 : decode cX5_span 11 = .ok (.invokevirtual 105, 3) := by decide +kernel
theorem dX5_span_14 : decode cX5_span 14 = .ok (.ireturn, 1) := by decide +kernel
theorem dX5_stretch_0 : decode cX5_stretch 0 = .ok (.aload_n 0, 1) := by decide +kernel
theorem dX5_stretch_1 : decode cX5_stretch 1 = .ok (.iload_n 1, 1) := by decide +kernel
theorem dX5_stretch_2 : decode cX5_stretch 2 = .ok (.i2l, 1) := by decide +kernel
theorem dX5_stretch_3 : decode cX5_stretch 3 = .ok (.iload_n 2, 1) := by decide +kernel
theorem dX5_stretch_4 : decode cX5_stretch 4 = .ok (.i2l, 1) := by decide +kernel
theorem dX5_stretch_5 : decode cX5_stretch 5 = .ok (.iload_n 3, 1) := by decide +kernel
theorem dX5_stretch_6 : decode cX5_stretch 6 = .ok (.i2l, 1) := by decide +kernel
theorem dX5_stretch_7 : decode cX5_stretch 7 = .ok (.invokestatic 98, 3) := by decide +kernel
theorem dX5_stretch_10 : decode cX5_stretch 10 = .ok (.iload_n 1, 1) := by decide +kernel
theorem dX5_stretch_11 : decode cX5_stretch 11 = .ok (.invokevirtual 105, 3) := by decide +kernel
theorem dX5_stretch_14 : decode cX5_stretch 14 = .ok (.ireturn, 1) := by decide +kernel
theorem dX5_is_0 : decode cX5_is 0 = .ok (.aload_n 0, 1) := by decide +kernel
theorem dX5_is_1 : decode cX5_is 1 = .ok (.iconst 0, 1) := by decide +kernel
theorem dX5_is_2 : decode cX5_is 2 = .ok (.putfield 14, 3) := by decide +kernel
theorem dX5_is_5 : decode cX5_is 5 = .ok (.iload_n 1, 1) := by decide +kernel
theorem dX5_is_6 : decode cX5_is 6 = .ok (.ireturn, 1) := by decide +kernel
theorem dX5_isFarPlace_0 : decode cX5_isFarPlace 0 = .ok (.aload_n 0, 1) := by decide +kernel
theorem dX5_isFarPlace_1 : decode cX5_isFarPlace 1 = .ok (.iload_n 1, 1) := by decide +kernel
theorem dX5_isFarPlace_2 : decode cX5_isFarPlace 2 = .ok (.ifCond .lt 12, 3) := by decide +kernel
theorem dX5_isFarPlace_5 : decode cX5_isFarPlace 5 = .ok (.iload_n 1, 1) := by decide +kernel
theorem dX5_isFarPlace_6 : decode cX5_isFarPlace 6 = .ok (.iload_n 2, 1) := by decide +kernel
theorem dX5_isFarPlace_7 : decode cX5_isFarPlace 7 = .ok (.if_icmp .ge 7, 3) := by decide +kernel
theorem dX5_isFarPlace_10 : decode cX5_isFarPlace 10 = .ok (.iconst 1, 1) := by decide +kernel
theorem dX5_isFarPlace_11 : decode cX5_isFarPlace 11 = .ok (.goto 4, 3) := by decide +kernel
theorem dX5_isFarPlace_14 : decode cX5_isFarPlace 14 = .ok (.iconst 0, 1) := by decide +kernel
theorem dX5_isFarPlace_15 : decode cX5_isFarPlace 15 = .ok (.invokevirtual 109, 3) := by decide +kernel
theorem dX5_isFarPlace_18 : decode cX5_isFarPlace 18 = .ok (.ireturn, 1) := by decide +kernel
theorem dX5_isFarSpan_0 : decode cX5_isFarSpan 0 = .ok (.aload_n 0, 1) := by decide +kernel
theorem dX5_isFarSpan_1 : decode cX5_isFarSpan 1 = .ok (.iload_n 1, 1) := by decide +kernel
theorem dX5_isFarSpan_2 : decode cX5_isFarSpan 2 = .ok (.i2l, 1) := by decide +kernel
theorem dX5_isFarSpan_3 : decode cX5_isFarSpan 3 = .ok (.iload_n 2, 1) := by decide +kernel
theorem dX5_isFarSpan_4 : decode cX5_isFarSpan 4 = .ok (.i2l, 1) := by decide +kernel
theorem dX5_isFarSpan_5 : decode cX5_isFarSpan 5 = .ok (.iload_n 3, 1) := by decide +kernel
theorem dX5_isFarSpan_6 : decode cX5_isFarSpan 6 = .ok (.i2l, 1) := by decide +kernel
theorem dX5_isFarSpan_7 : decode cX5_isFarSpan 7 = .ok (.invokestatic 86, 3) := by decide +kernel
theorem dX5_isFarSpan_10 : decode cX5_isFarSpan 10 = .ok (.invokevirtual 109, 3) := by decide +kernel
theorem dX5_isFarSpan_13 : decode cX5_isFarSpan 13 = .ok (.ireturn, 1) := by decide +kernel
theorem dX5_isFarStretch_0 : decode cX5_isFarStretch 0 = .ok (.aload_n 0, 1) := by decide +kernel
theorem dX5_isFarStretch_1 : decode cX5_isFarStretch 1 = .ok (.iload_n 1, 1) := by decide +kernel
theorem dX5_isFarStretch_2 : decode cX5_isFarStretch 2 = .ok (.i2l, 1) := by decide +kernel
theorem dX5_isFarStretch_3 : decode cX5_isFarStretch 3 = .ok (.iload_n 2, 1) := by decide +kernel
theorem dX5_isFarStretch_4 : decode cX5_isFarStretch 4 = .ok (.i2l, 1) := by decide +kernel
theorem dX5_isFarStretch_5 : decode cX5_isFarStretch 5 = .ok (.iload_n 3, 1) := by decide +kernel
theorem dX5_isFarStretch_6 : decode cX5_isFarStretch 6 = .ok (.i2l, 1) := by decide +kernel
theorem dX5_isFarStretch_7 : decode cX5_isFarStretch 7 = .ok (.invokestatic 98, 3) := by decide +kernel
theorem dX5_isFarStretch_10 : decode cX5_isFarStretch 10 = .ok (.invokevirtual 109, 3) := by decide +kernel
theorem dX5_isFarStretch_13 : decode cX5_isFarStretch 13 = .ok (.ireturn, 1) := by decide +kernel
theorem dX5_insides_0 : decode cX5_insides 0 = .ok (.aload_n 0, 1) := by decide +kernel
theorem dX5_insides_1 : decode cX5_insides 1 = .ok (.iload_n 1, 1) := by decide +kernel
theorem dX5_insides_2 : decode cX5_insides 2 = .ok (.invokestatic 69, 3) := by decide +kernel
theorem dX5_insides_5 : decode cX5_insides 5 = .ok (.iconst 1, 1) := by decide +kernel
theorem dX5_insides_6 : decode cX5_insides 6 = .ok (.invokevirtual 72, 3) := by decide +kernel
theorem dX5_insides_9 : decode cX5_insides 9 = .ok (.ifCond .ne 47, 3) := by decide +kernel
theorem dX5_insides_12 : decode cX5_insides 12 = .ok (.aload_n 0, 1) := by decide +kernel
theorem dX5_insides_13 : decode cX5_insides 13 = .ok (.iload_n 2, 1) := by decide +kernel
theorem dX5_insides_14 : decode cX5_insides 14 = .ok (.iconst 0, 1) := by decide +kernel
theorem dX5_insides_15 : decode cX5_insides 15 = .ok (.iconst 2, 1) := by decide +kernel
theorem dX5_insides_16 : decode cX5_insides 16 = .ok (.invokestatic 22, 3) := by decide +kernel
theorem dX5_insides_19 : decode cX5_insides 19 = .ok (.ifCond .ne 7, 3) := by decide +kernel
theorem dX5_insides_22 : decode cX5_insides 22 = .ok (.iconst 1, 1) := by decide +kernel
theorem dX5_insides_23 : decode cX5_insides 23 = .ok (.goto 4, 3) := by decide +kernel
theorem dX5_insides_26 : decode cX5_insides 26 = .ok (.iconst 0, 1) := by decide +kernel
theorem dX5_insides_27 : decode cX5_insides 27 = .ok (.iconst 2, 1) := by decide +kernel
theorem dX5_insides_28 : decode cX5_insides 28 = .ok (.invokevirtual 18, 3) := by decide +kernel
theorem dX5_insides_31 : decode cX5_insides 31 = .ok (.ifCond .ne 25, 3) := by decide +kernel
theorem dX5_insides_34 : decode cX5_insides 34 = .ok (.aload_n 0, 1) := by decide +kernel
theorem dX5_insides_35 : decode cX5_insides 35 = .ok (.aload_n 0, 1) := by decide +kernel
theorem dX5_insides_36 : decode cX5_insides 36 = .ok (.getfield 11, 3) := by decide +kernel
theorem dX5_insides_39 : decode cX5_insides 39 = .ok (.iload_n 1, 1) := by decide +kernel
theorem dX5_insides_40 : decode cX5_insides 40 = .ok (.aaload, 1) := by decide +kernel
theorem dX5_insides_41 : decode cX5_insides 41 = .ok (.ifnonnull 7, 3) := by decide +kernel
theorem dX5_insides_44 : decode cX5_insides 44 = .ok (.iconst 1, 1) := by decide +kernel
theorem dX5_insides_45 : decode cX5_insides 45 = .ok (.goto 4, 3) := by decide +kernel
theorem dX5_insides_48 : decode cX5_insides 48 = .ok (.iconst 0, 1) := by decide +kernel
theorem dX5_insides_49 : decode cX5_insides 49 = .ok (.iconst 3, 1) := by decide +kernel
theorem dX5_insides_50 : decode cX5_insides 50 = .ok (.invokevirtual 18, 3) := by decide +kernel
theorem dX5_insides_53 : decode cX5_insides 53 = .ok (.ifCond .eq 5, 3) := by decide +kernel
theorem dX5_insides_56 : decode cX5_insides 56 = .ok (.iconst 0, 1) := by decide +kernel
theorem dX5_insides_57 : decode cX5_insides 57 = .ok (.ireturn, 1) := by decide +kernel
theorem dX5_insides_58 : decode cX5_insides 58 = .ok (.iconst 0, 1) := by decide +kernel
theorem dX5_insides_59 : decode cX5_insides 59 = .ok (.istore_n 3, 1) := by decide +kernel
theorem dX5_insides_60 : decode cX5_insides 60 = .ok (.bipush (-2), 2) := by decide +kernel
theorem dX5_insides_62 : decode cX5_insides 62 = .ok (.istore 4, 2) := by decide +kernel
theorem dX5_insides_64 : decode cX5_insides 64 = .ok (.iload 4, 2) := by decide +kernel
theorem dX5_insides_66 : decode cX5_insides 66 = .ok (.bipush 26, 2) := by decide +kernel
theorem dX5_insides_68 : decode cX5_insides 68 = .ok (.if_icmp .gt 97, 3) := by decide +kernel
theorem dX5_insides_71 : decode cX5_insides 71 = .ok (.iload_n 2, 1) := by decide +kernel
theorem dX5_insides_72 : decode cX5_insides 72 = .ok (.ifCond .ne 22, 3) := by decide +kernel
theorem dX5_insides_75 : decode cX5_insides 75 = .ok (.iload_n 3, 1) := by decide +kernel
theorem dX5_insides_76 : decode cX5_insides 76 = .ok (.iload 4, 2) := by decide +kernel
theorem dX5_insides_78 : decode cX5_insides 78 = .ok (.iconst 0, 1) := by decide +kernel
theorem dX5_insides_79 : decode cX5_insides 79 = .ok (.aload_n 0, 1) := by decide +kernel
theorem dX5_insides_80 : decode cX5_insides 80 = .ok (.iload_n 1, 1) := by decide +kernel
theorem dX5_insides_81 : decode cX5_insides 81 = .ok (.invokevirtual 75, 3) := by decide +kernel
theorem dX5_insides_84 : decode cX5_insides 84 = .ok (.iconst 1, 1) := by decide +kernel
theorem dX5_insides_85 : decode cX5_insides 85 = .ok (.isub, 1) := by decide +kernel
theorem dX5_insides_86 : decode cX5_insides 86 = .ok (.invokestatic 22, 3) := by decide +kernel
theorem dX5_insides_89 : decode cX5_insides 89 = .ok (.invokestatic 49, 3) := by decide +kernel
theorem dX5_insides_92 : decode cX5_insides 92 = .ok (.iadd, 1) := by decide +kernel
theorem dX5_insides_93 : decode cX5_insides 93 = .ok (.istore_n 3, 1) := by decide +kernel
theorem dX5_insides_94 : decode cX5_insides 94 = .ok (.bipush (-2), 2) := by decide +kernel
theorem dX5_insides_96 : decode cX5_insides 96 = .ok (.istore 5, 2) := by decide +kernel
theorem dX5_insides_98 : decode cX5_insides 98 = .ok (.iload 5, 2) := by decide +kernel
theorem dX5_insides_100 : decode cX5_insides 100 = .ok (.bipush 26, 2) := by decide +kernel
theorem dX5_insides_102 : decode cX5_insides 102 = .ok (.if_icmp .gt 57, 3) := by decide +kernel
theorem dX5_insides_105 : decode cX5_insides 105 = .ok (.iload_n 2, 1) := by decide +kernel
theorem dX5_insides_106 : decode cX5_insides 106 = .ok (.ifCond .le 53, 3) := by decide +kernel
theorem dX5_insides_109 : decode cX5_insides 109 = .ok (.iload_n 3, 1) := by decide +kernel
theorem dX5_insides_110 : decode cX5_insides 110 = .ok (.iload_n 2, 1) := by decide +kernel
theorem dX5_insides_111 : decode cX5_insides 111 = .ok (.iconst 1, 1) := by decide +kernel
theorem dX5_insides_112 : decode cX5_insides 112 = .ok (.if_icmp .ne 21, 3) := by decide +kernel
theorem dX5_insides_115 : decode cX5_insides 115 = .ok (.iload 4, 2) := by decide +kernel
theorem dX5_insides_117 : decode cX5_insides 117 = .ok (.i2l, 1) := by decide +kernel
theorem dX5_insides_118 : decode cX5_insides 118 = .ok (.iload 5, 2) := by decide +kernel
theorem dX5_insides_120 : decode cX5_insides 120 = .ok (.i2l, 1) := by decide +kernel
theorem dX5_insides_121 : decode cX5_insides 121 = .ok (.aload_n 0, 1) := by decide +kernel
theorem dX5_insides_122 : decode cX5_insides 122 = .ok (.iload_n 1, 1) := by decide +kernel
theorem dX5_insides_123 : decode cX5_insides 123 = .ok (.invokevirtual 75, 3) := by decide +kernel
theorem dX5_insides_126 : decode cX5_insides 126 = .ok (.i2l, 1) := by decide +kernel
theorem dX5_insides_127 : decode cX5_insides 127 = .ok (.invokestatic 86, 3) := by decide +kernel
theorem dX5_insides_130 : decode cX5_insides 130 = .ok (.goto 18, 3) := by decide +kernel
theorem dX5_insides_133 : decode cX5_insides 133 = .ok (.iload 4, 2) := by decide +kernel
theorem dX5_insides_135 : decode cX5_insides 135 = .ok (.i2l, 1) := by decide +kernel
theorem dX5_insides_136 : decode cX5_insides 136 = .ok (.iload 5, 2) := by decide +kernel
theorem dX5_insides_138 : decode cX5_insides 138 = .ok (.i2l, 1) := by decide +kernel
theorem dX5_insides_139 : decode cX5_insides 139 = .ok (.aload_n 0, 1) := by decide +kernel
theorem dX5_insides_140 : decode cX5_insides 140 = .ok (.iload_n 1, 1) := by decide +kernel
theorem dX5_insides_141 : decode cX5_insides 141 = .ok (.invokevirtual 75, 3) := by decide +kernel
theorem dX5_insides_144 : decode cX5_insides 144 = .ok (.i2l, 1) := by decide +kernel
theorem dX5_insides_145 : decode cX5_insides 145 = .ok (.invokestatic 98, 3) := by decide +kernel
theorem dX5_insides_148 : decode cX5_insides 148 = .ok (.invokestatic 49, 3) := by decide +kernel
theorem dX5_insides_151 : decode cX5_insides 151 = .ok (.iadd, 1) := by decide +kernel
theorem dX5_insides_152 : decode cX5_insides 152 = .ok (.istore_n 3, 1) := by decide +kernel
theorem dX5_insides_153 : decode cX5_insides 153 = .ok (.iinc 5 1, 3) := by decide +kernel
theorem dX5_insides_156 : decode cX5_insides 156 = .ok (.goto (-58), 3) := by decide +kernel
theorem dX5_insides_159 : decode cX5_insides 159 = .ok (.iinc 4 1, 3) := by decide +kernel
theorem dX5_insides_162 : decode cX5_insides 162 = .ok (.goto (-98), 3) := by decide +kernel
theorem dX5_insides_165 : decode cX5_insides 165 = .ok (.iload_n 3, 1) := by decide +kernel
theorem dX5_insides_166 : decode cX5_insides 166 = .ok (.ireturn, 1) := by decide +kernel
theorem dX5_text_0 : decode cX5_text 0 = .ok (.aload_n 0, 1) := by decide +kernel
theorem dX5_text_1 : decode cX5_text 1 = .ok (.iload_n 1, 1) := by decide +kernel
theorem dX5_text_2 : decode cX5_text 2 = .ok (.invokestatic 69, 3) := by decide +kernel
theorem dX5_text_5 : decode cX5_text 5 = .ok (.iconst 1, 1) := by decide +kernel
theorem dX5_text_6 : decode cX5_text 6 = .ok (.invokevirtual 72, 3) := by decide +kernel
theorem dX5_text_9 : decode cX5_text 9 = .ok (.ifCond .eq 8, 3) := by decide +kernel
theorem dX5_text_12 : decode cX5_text 12 = .ok (.ldc 33, 2) := by decide +kernel
theorem dX5_text_14 : decode cX5_text 14 = .ok (.goto 26, 3) := by decide +kernel
theorem dX5_text_17 : decode cX5_text 17 = .ok (.aload_n 0, 1) := by decide +kernel
theorem dX5_text_18 : decode cX5_text 18 = .ok (.getfield 11, 3) := by decide +kernel
theorem dX5_text_21 : decode cX5_text 21 = .ok (.iload_n 1, 1) := by decide +kernel
theorem dX5_text_22 : decode cX5_text 22 = .ok (.aaload, 1) := by decide +kernel
theorem dX5_text_23 : decode cX5_text 23 = .ok (.ifnonnull 8, 3) := by decide +kernel
theorem dX5_text_26 : decode cX5_text 26 = .ok (.ldc 113, 2) := by decide +kernel
theorem dX5_text_28 : decode cX5_text 28 = .ok (.goto 12, 3) := by decide +kernel
theorem dX5_text_31 : decode cX5_text 31 = .ok (.aload_n 0, 1) := by decide +kernel
theorem dX5_text_32 : decode cX5_text 32 = .ok (.getfield 11, 3) := by decide +kernel
theorem dX5_text_35 : decode cX5_text 35 = .ok (.iload_n 1, 1) := by decide +kernel
theorem dX5_text_36 : decode cX5_text 36 = .ok (.aaload, 1) := by decide +kernel
theorem dX5_text_37 : decode cX5_text 37 = .ok (.invokestatic 115, 3) := by decide +kernel
theorem dX5_text_40 : decode cX5_text 40 = .ok (.areturn, 1) := by decide +kernel
theorem dX5_length_0 : decode cX5_length 0 = .ok (.aload_n 0, 1) := by decide +kernel
theorem dX5_length_1 : decode cX5_length 1 = .ok (.iload_n 1, 1) := by decide +kernel
theorem dX5_length_2 : decode cX5_length 2 = .ok (.invokestatic 69, 3) := by decide +kernel
theorem dX5_length_5 : decode cX5_length 5 = .ok (.iconst 1, 1) := by decide +kernel
theorem dX5_length_6 : decode cX5_length 6 = .ok (.invokevirtual 72, 3) := by decide +kernel
theorem dX5_length_9 : decode cX5_length 9 = .ok (.ifCond .eq 7, 3) := by decide +kernel
theorem dX5_length_12 : decode cX5_length 12 = .ok (.iconst 0, 1) := by decide +kernel
theorem dX5_length_13 : decode cX5_length 13 = .ok (.goto 8, 3) := by decide +kernel
theorem dX5_length_16 : decode cX5_length 16 = .ok (.aload_n 0, 1) := by decide +kernel
theorem dX5_length_17 : decode cX5_length 17 = .ok (.iload_n 1, 1) := by decide +kernel
theorem dX5_length_18 : decode cX5_length 18 = .ok (.invokevirtual 75, 3) := by decide +kernel
theorem dX5_length_21 : decode cX5_length 21 = .ok (.ireturn, 1) := by decide +kernel
theorem dX5_signAt_0 : decode cX5_signAt 0 = .ok (.aload_n 0, 1) := by decide +kernel
theorem dX5_signAt_1 : decode cX5_signAt 1 = .ok (.iload_n 1, 1) := by decide +kernel
theorem dX5_signAt_2 : decode cX5_signAt 2 = .ok (.invokestatic 69, 3) := by decide +kernel
theorem dX5_signAt_5 : decode cX5_signAt 5 = .ok (.iconst 1, 1) := by decide +kernel
theorem dX5_signAt_6 : decode cX5_signAt 6 = .ok (.invokevirtual 72, 3) := by decide +kernel
theorem dX5_signAt_9 : decode cX5_signAt 9 = .ok (.ifCond .eq 5, 3) := by decide +kernel
theorem dX5_signAt_12 : decode cX5_signAt 12 = .ok (.iconst 0, 1) := by decide +kernel
theorem dX5_signAt_13 : decode cX5_signAt 13 = .ok (.ireturn, 1) := by decide +kernel
theorem dX5_signAt_14 : decode cX5_signAt 14 = .ok (.aload_n 0, 1) := by decide +kernel
theorem dX5_signAt_15 : decode cX5_signAt 15 = .ok (.getfield 11, 3) := by decide +kernel
theorem dX5_signAt_18 : decode cX5_signAt 18 = .ok (.iload_n 1, 1) := by decide +kernel
theorem dX5_signAt_19 : decode cX5_signAt 19 = .ok (.aaload, 1) := by decide +kernel
theorem dX5_signAt_20 : decode cX5_signAt 20 = .ok (.ifnull 18, 3) := by decide +kernel
theorem dX5_signAt_23 : decode cX5_signAt 23 = .ok (.iload_n 2, 1) := by decide +kernel
theorem dX5_signAt_24 : decode cX5_signAt 24 = .ok (.iconst 0, 1) := by decide +kernel
theorem dX5_signAt_25 : decode cX5_signAt 25 = .ok (.aload_n 0, 1) := by decide +kernel
theorem dX5_signAt_26 : decode cX5_signAt 26 = .ok (.iload_n 1, 1) := by decide +kernel
theorem dX5_signAt_27 : decode cX5_signAt 27 = .ok (.invokevirtual 75, 3) := by decide +kernel
theorem dX5_signAt_30 : decode cX5_signAt 30 = .ok (.iconst 1, 1) := by decide +kernel
theorem dX5_signAt_31 : decode cX5_signAt 31 = .ok (.isub, 1) := by decide +kernel
theorem dX5_signAt_32 : decode cX5_signAt 32 = .ok (.invokestatic 22, 3) := by decide +kernel
theorem dX5_signAt_35 : decode cX5_signAt 35 = .ok (.ifCond .ne 10, 3) := by decide +kernel
theorem dX5_signAt_38 : decode cX5_signAt 38 = .ok (.aload_n 0, 1) := by decide +kernel
theorem dX5_signAt_39 : decode cX5_signAt 39 = .ok (.invokevirtual 90, 3) := by decide +kernel
theorem dX5_signAt_42 : decode cX5_signAt 42 = .ok (.goto 11, 3) := by decide +kernel
theorem dX5_signAt_45 : decode cX5_signAt 45 = .ok (.aload_n 0, 1) := by decide +kernel
theorem dX5_signAt_46 : decode cX5_signAt 46 = .ok (.getfield 11, 3) := by decide +kernel
theorem dX5_signAt_49 : decode cX5_signAt 49 = .ok (.iload_n 1, 1) := by decide +kernel
theorem dX5_signAt_50 : decode cX5_signAt 50 = .ok (.aaload, 1) := by decide +kernel
theorem dX5_signAt_51 : decode cX5_signAt 51 = .ok (.iload_n 2, 1) := by decide +kernel
theorem dX5_signAt_52 : decode cX5_signAt 52 = .ok (.iaload, 1) := by decide +kernel
theorem dX5_signAt_53 : decode cX5_signAt 53 = .ok (.ireturn, 1) := by decide +kernel
theorem dX5_noText_0 : decode cX5_noText 0 = .ok (.aload_n 0, 1) := by decide +kernel
theorem dX5_noText_1 : decode cX5_noText 1 = .ok (.dup, 1) := by decide +kernel
theorem dX5_noText_2 : decode cX5_noText 2 = .ok (.getfield 30, 3) := by decide +kernel
theorem dX5_noText_5 : decode cX5_noText 5 = .ok (.iconst 1, 1) := by decide +kernel
theorem dX5_noText_6 : decode cX5_noText 6 = .ok (.iadd, 1) := by decide +kernel
theorem dX5_noText_7 : decode cX5_noText 7 = .ok (.putfield 30, 3) := by decide +kernel
theorem dX5_noText_10 : decode cX5_noText 10 = .ok (.ldc 119, 2) := by decide +kernel
theorem dX5_noText_12 : decode cX5_noText 12 = .ok (.areturn, 1) := by decide +kernel
theorem dX5_part__0 : decode cX5_part_ 0 = .ok (.aload_n 0, 1) := by decide +kernel
theorem dX5_part__1 : decode cX5_part_ 1 = .ok (.iload_n 1, 1) := by decide +kernel
theorem dX5_part__2 : decode cX5_part_ 2 = .ok (.invokestatic 69, 3) := by decide +kernel
theorem dX5_part__5 : decode cX5_part_ 5 = .ok (.iconst 1, 1) := by decide +kernel
theorem dX5_part__6 : decode cX5_part_ 6 = .ok (.invokevirtual 72, 3) := by decide +kernel
theorem dX5_part__9 : decode cX5_part_ 9 = .ok (.ifCond .eq 6, 3) := by decide +kernel
theorem dX5_part__12 : decode cX5_part_ 12 = .ok (.ldc 33, 2) := by decide +kernel
theorem dX5_part__14 : decode cX5_part_ 14 = .ok (.areturn, 1) := by decide +kernel
theorem dX5_part__15 : decode cX5_part_ 15 = .ok (.aload_n 0, 1) := by decide +kernel
theorem dX5_part__16 : decode cX5_part_ 16 = .ok (.getfield 11, 3) := by decide +kernel
theorem dX5_part__19 : decode cX5_part_ 19 = .ok (.iload_n 1, 1) := by decide +kernel
theorem dX5_part__20 : decode cX5_part_ 20 = .ok (.aaload, 1) := by decide +kernel
theorem dX5_part__21 : decode cX5_part_ 21 = .ok (.ifnull 19, 3) := by decide +kernel
theorem dX5_part__24 : decode cX5_part_ 24 = .ok (.iload_n 2, 1) := by decide +kernel
theorem dX5_part__25 : decode cX5_part_ 25 = .ok (.i2l, 1) := by decide +kernel
theorem dX5_part__26 : decode cX5_part_ 26 = .ok (.iload_n 3, 1) := by decide +kernel
theorem dX5_part__27 : decode cX5_part_ 27 = .ok (.i2l, 1) := by decide +kernel
theorem dX5_part__28 : decode cX5_part_ 28 = .ok (.aload_n 0, 1) := by decide +kernel
theorem dX5_part__29 : decode cX5_part_ 29 = .ok (.iload_n 1, 1) := by decide +kernel
theorem dX5_part__30 : decode cX5_part_ 30 = .ok (.invokevirtual 75, 3) := by decide +kernel
theorem dX5_part__33 : decode cX5_part_ 33 = .ok (.i2l, 1) := by decide +kernel
theorem dX5_part__34 : decode cX5_part_ 34 = .ok (.invokestatic 86, 3) := by decide +kernel
theorem dX5_part__37 : decode cX5_part_ 37 = .ok (.ifCond .ne 10, 3) := by decide +kernel
theorem dX5_part__40 : decode cX5_part_ 40 = .ok (.aload_n 0, 1) := by decide +kernel
theorem dX5_part__41 : decode cX5_part_ 41 = .ok (.invokevirtual 121, 3) := by decide +kernel
theorem dX5_part__44 : decode cX5_part_ 44 = .ok (.goto 17, 3) := by decide +kernel
theorem dX5_part__47 : decode cX5_part_ 47 = .ok (.aload_n 0, 1) := by decide +kernel
theorem dX5_part__48 : decode cX5_part_ 48 = .ok (.getfield 11, 3) := by decide +kernel
theorem dX5_part__51 : decode cX5_part_ 51 = .ok (.iload_n 1, 1) := by decide +kernel
theorem dX5_part__52 : decode cX5_part_ 52 = .ok (.aaload, 1) := by decide +kernel
theorem dX5_part__53 : decode cX5_part_ 53 = .ok (.iload_n 2, 1) := by decide +kernel
theorem dX5_part__54 : decode cX5_part_ 54 = .ok (.iload_n 3, 1) := by decide +kernel
theorem dX5_part__55 : decode cX5_part_ 55 = .ok (.invokestatic 94, 3) := by decide +kernel
theorem dX5_part__58 : decode cX5_part_ 58 = .ok (.invokestatic 115, 3) := by decide +kernel
theorem dX5_part__61 : decode cX5_part_ 61 = .ok (.areturn, 1) := by decide +kernel
theorem dX5_isEmpty_0 : decode cX5_isEmpty 0 = .ok (.aload_n 0, 1) := by decide +kernel
theorem dX5_isEmpty_1 : decode cX5_isEmpty 1 = .ok (.iload_n 1, 1) := by decide +kernel
theorem dX5_isEmpty_2 : decode cX5_isEmpty 2 = .ok (.invokevirtual 83, 3) := by decide +kernel
theorem dX5_isEmpty_5 : decode cX5_isEmpty 5 = .ok (.ifCond .ne 15, 3) := by decide +kernel
theorem dX5_isEmpty_8 : decode cX5_isEmpty 8 = .ok (.aload_n 0, 1) := by decide +kernel
theorem dX5_isEmpty_9 : decode cX5_isEmpty 9 = .ok (.iload_n 1, 1) := by decide +kernel
theorem dX5_isEmpty_10 : decode cX5_isEmpty 10 = .ok (.invokevirtual 75, 3) := by decide +kernel
theorem dX5_isEmpty_13 : decode cX5_isEmpty 13 = .ok (.ifCond .ne 7, 3) := by decide +kernel
theorem dX5_isEmpty_16 : decode cX5_isEmpty 16 = .ok (.iconst 1, 1) := by decide +kernel
theorem dX5_isEmpty_17 : decode cX5_isEmpty 17 = .ok (.goto 4, 3) := by decide +kernel
theorem dX5_isEmpty_20 : decode cX5_isEmpty 20 = .ok (.iconst 0, 1) := by decide +kernel
theorem dX5_isEmpty_21 : decode cX5_isEmpty 21 = .ok (.ireturn, 1) := by decide +kernel
theorem dX5_compare_0 : decode cX5_compare 0 = .ok (.aload_n 0, 1) := by decide +kernel
theorem dX5_compare_1 : decode cX5_compare 1 = .ok (.iload_n 1, 1) := by decide +kernel
theorem dX5_compare_2 : decode cX5_compare 2 = .ok (.iload_n 2, 1) := by decide +kernel
theorem dX5_compare_3 : decode cX5_compare 3 = .ok (.invokevirtual 101, 3) := by decide +kernel
theorem dX5_compare_6 : decode cX5_compare 6 = .ok (.ifCond .eq 5, 3) := by decide +kernel
theorem dX5_compare_9 : decode cX5_compare 9 = .ok (.iconst 0, 1) := by decide +kernel
theorem dX5_compare_10 : decode cX5_compare 10 = .ok (.ireturn, 1) := by decide +kernel
theorem dX5_compare_11 : decode cX5_compare 11 = .ok (.aload_n 0, 1) := by decide +kernel
theorem dX5_compare_12 : decode cX5_compare 12 = .ok (.getfield 11, 3) := by decide +kernel
theorem dX5_compare_15 : decode cX5_compare 15 = .ok (.iload_n 1, 1) := by decide +kernel
theorem dX5_compare_16 : decode cX5_compare 16 = .ok (.aaload, 1) := by decide +kernel
theorem dX5_compare_17 : decode cX5_compare 17 = .ok (.ifnull 12, 3) := by decide +kernel
theorem dX5_compare_20 : decode cX5_compare 20 = .ok (.aload_n 0, 1) := by decide +kernel
theorem dX5_compare_21 : decode cX5_compare 21 = .ok (.getfield 11, 3) := by decide +kernel
theorem dX5_compare_24 : decode cX5_compare 24 = .ok (.iload_n 2, 1) := by decide +kernel
theorem dX5_compare_25 : decode cX5_compare 25 = .ok (.aaload, 1) := by decide +kernel
theorem dX5_compare_26 : decode cX5_compare 26 = .ok (.ifnonnull 10, 3) := by decide +kernel
theorem dX5_compare_29 : decode cX5_compare 29 = .ok (.aload_n 0, 1) := by decide +kernel
theorem dX5_compare_30 : decode cX5_compare 30 = .ok (.invokevirtual 90, 3) := by decide +kernel
theorem dX5_compare_33 : decode cX5_compare 33 = .ok (.goto 18, 3) := by decide +kernel
theorem dX5_compare_36 : decode cX5_compare 36 = .ok (.aload_n 0, 1) := by decide +kernel
theorem dX5_compare_37 : decode cX5_compare 37 = .ok (.getfield 11, 3) := by decide +kernel
theorem dX5_compare_40 : decode cX5_compare 40 = .ok (.iload_n 1, 1) := by decide +kernel
theorem dX5_compare_41 : decode cX5_compare 41 = .ok (.aaload, 1) := by decide +kernel
theorem dX5_compare_42 : decode cX5_compare 42 = .ok (.aload_n 0, 1) := by decide +kernel
theorem dX5_compare_43 : decode cX5_compare 43 = .ok (.getfield 11, 3) := by decide +kernel
theorem dX5_compare_46 : decode cX5_compare 46 = .ok (.iload_n 2, 1) := by decide +kernel
theorem dX5_compare_47 : decode cX5_compare 47 = .ok (.aaload, 1) := by decide +kernel
theorem dX5_compare_48 : decode cX5_compare 48 = .ok (.invokestatic 61, 3) := by decide +kernel
theorem dX5_compare_51 : decode cX5_compare 51 = .ok (.ireturn, 1) := by decide +kernel
theorem dX5_compareParts_0 : decode cX5_compareParts 0 = .ok (.aload_n 0, 1) := by decide +kernel
theorem dX5_compareParts_1 : decode cX5_compareParts 1 = .ok (.iload_n 1, 1) := by decide +kernel
theorem dX5_compareParts_2 : decode cX5_compareParts 2 = .ok (.iload_n 2, 1) := by decide +kernel
theorem dX5_compareParts_3 : decode cX5_compareParts 3 = .ok (.invokevirtual 101, 3) := by decide +kernel
theorem dX5_compareParts_6 : decode cX5_compareParts 6 = .ok (.ifCond .eq 5, 3) := by decide +kernel
theorem dX5_compareParts_9 : decode cX5_compareParts 9 = .ok (.iconst 0, 1) := by decide +kernel
theorem dX5_compareParts_10 : decode cX5_compareParts 10 = .ok (.ireturn, 1) := by decide +kernel
theorem dX5_compareParts_11 : decode cX5_compareParts 11 = .ok (.aload_n 0, 1) := by decide +kernel
theorem dX5_compareParts_12 : decode cX5_compareParts 12 = .ok (.getfield 11, 3) := by decide +kernel
theorem dX5_compareParts_15 : decode cX5_compareParts 15 = .ok (.iload_n 1, 1) := by decide +kernel
theorem dX5_compareParts_16 : decode cX5_compareParts 16 = .ok (.aaload, 1) := by decide +kernel
theorem dX5_compareParts_17 : decode cX5_compareParts 17 = .ok (.ifnull 46, 3) := by decide +kernel
theorem dX5_compareParts_20 : decode cX5_compareParts 20 = .ok (.aload_n 0, 1) := by decide +kernel
theorem dX5_compareParts_21 : decode cX5_compareParts 21 = .ok (.getfield 11, 3) := by decide +kernel
theorem dX5_compareParts_24 : decode cX5_compareParts 24 = .ok (.iload_n 2, 1) := by decide +kernel
theorem dX5_compareParts_25 : decode cX5_compareParts 25 = .ok (.aaload, 1) := by decide +kernel
theorem dX5_compareParts_26 : decode cX5_compareParts 26 = .ok (.ifnull 37, 3) := by decide +kernel
theorem dX5_compareParts_29 : decode cX5_compareParts 29 = .ok (.iload_n 3, 1) := by decide +kernel
theorem dX5_compareParts_30 : decode cX5_compareParts 30 = .ok (.i2l, 1) := by decide +kernel
theorem dX5_compareParts_31 : decode cX5_compareParts 31 = .ok (.iload 4, 2) := by decide +kernel
theorem dX5_compareParts_33 : decode cX5_compareParts 33 = .ok (.i2l, 1) := by decide +kernel
theorem dX5_compareParts_34 : decode cX5_compareParts 34 = .ok (.aload_n 0, 1) := by decide +kernel
theorem dX5_compareParts_35 : decode cX5_compareParts 35 = .ok (.iload_n 1, 1) := by decide +kernel
theorem dX5_compareParts_36 : decode cX5_compareParts 36 = .ok (.invokevirtual 75, 3) := by decide +kernel
theorem dX5_compareParts_39 : decode cX5_compareParts 39 = .ok (.i2l, 1) := by decide +kernel
theorem dX5_compareParts_40 : decode cX5_compareParts 40 = .ok (.invokestatic 86, 3) := by decide +kernel
theorem dX5_compareParts_43 : decode cX5_compareParts 43 = .ok (.ifCond .eq 20, 3) := by decide +kernel
theorem dX5_compareParts_46 : decode cX5_compareParts 46 = .ok (.iload_n 3, 1) := by decide +kernel
theorem dX5_compareParts_47 : decode cX5_compareParts 47 = .ok (.i2l, 1) := by decide +kernel
theorem dX5_compareParts_48 : decode cX5_compareParts 48 = .ok (.iload 4, 2) := by decide +kernel
theorem dX5_compareParts_50 : decode cX5_compareParts 50 = .ok (.i2l, 1) := by decide +kernel
theorem dX5_compareParts_51 : decode cX5_compareParts 51 = .ok (.aload_n 0, 1) := by decide +kernel
theorem dX5_compareParts_52 : decode cX5_compareParts 52 = .ok (.iload_n 2, 1) := by decide +kernel
theorem dX5_compareParts_53 : decode cX5_compareParts 53 = .ok (.invokevirtual 75, 3) := by decide +kernel
theorem dX5_compareParts_56 : decode cX5_compareParts 56 = .ok (.i2l, 1) := by decide +kernel
theorem dX5_compareParts_57 : decode cX5_compareParts 57 = .ok (.invokestatic 86, 3) := by decide +kernel
theorem dX5_compareParts_60 : decode cX5_compareParts 60 = .ok (.ifCond .ne 8, 3) := by decide +kernel
theorem dX5_compareParts_63 : decode cX5_compareParts 63 = .ok (.aload_n 0, 1) := by decide +kernel
theorem dX5_compareParts_64 : decode cX5_compareParts 64 = .ok (.invokevirtual 90, 3) := by decide +kernel
theorem dX5_compareParts_67 : decode cX5_compareParts 67 = .ok (.ireturn, 1) := by decide +kernel
theorem dX5_compareParts_68 : decode cX5_compareParts 68 = .ok (.aload_n 0, 1) := by decide +kernel
theorem dX5_compareParts_69 : decode cX5_compareParts 69 = .ok (.getfield 11, 3) := by decide +kernel
theorem dX5_compareParts_72 : decode cX5_compareParts 72 = .ok (.iload_n 1, 1) := by decide +kernel
theorem dX5_compareParts_73 : decode cX5_compareParts 73 = .ok (.aaload, 1) := by decide +kernel
theorem dX5_compareParts_74 : decode cX5_compareParts 74 = .ok (.iload_n 3, 1) := by decide +kernel
theorem dX5_compareParts_75 : decode cX5_compareParts 75 = .ok (.iload 4, 2) := by decide +kernel
theorem dX5_compareParts_77 : decode cX5_compareParts 77 = .ok (.invokestatic 94, 3) := by decide +kernel
theorem dX5_compareParts_80 : decode cX5_compareParts 80 = .ok (.aload_n 0, 1) := by decide +kernel
theorem dX5_compareParts_81 : decode cX5_compareParts 81 = .ok (.getfield 11, 3) := by decide +kernel
theorem dX5_compareParts_84 : decode cX5_compareParts 84 = .ok (.iload_n 2, 1) := by decide +kernel
theorem dX5_compareParts_85 : decode cX5_compareParts 85 = .ok (.aaload, 1) := by decide +kernel
theorem dX5_compareParts_86 : decode cX5_compareParts 86 = .ok (.iload_n 3, 1) := by decide +kernel
theorem dX5_compareParts_87 : decode cX5_compareParts 87 = .ok (.iload 4, 2) := by decide +kernel
theorem dX5_compareParts_89 : decode cX5_compareParts 89 = .ok (.invokestatic 94, 3) := by decide +kernel
theorem dX5_compareParts_92 : decode cX5_compareParts 92 = .ok (.invokestatic 61, 3) := by decide +kernel
theorem dX5_compareParts_95 : decode cX5_compareParts 95 = .ok (.ireturn, 1) := by decide +kernel
theorem dX5_isLike_0 : decode cX5_isLike 0 = .ok (.aload_n 0, 1) := by decide +kernel
theorem dX5_isLike_1 : decode cX5_isLike 1 = .ok (.iload_n 1, 1) := by decide +kernel
theorem dX5_isLike_2 : decode cX5_isLike 2 = .ok (.iconst 0, 1) := by decide +kernel
theorem dX5_isLike_3 : decode cX5_isLike 3 = .ok (.iconst 2, 1) := by decide +kernel
theorem dX5_isLike_4 : decode cX5_isLike 4 = .ok (.invokestatic 22, 3) := by decide +kernel
theorem dX5_isLike_7 : decode cX5_isLike 7 = .ok (.ifCond .eq 10, 3) := by decide +kernel
theorem dX5_isLike_10 : decode cX5_isLike 10 = .ok (.iload_n 2, 1) := by decide +kernel
theorem dX5_isLike_11 : decode cX5_isLike 11 = .ok (.invokestatic 69, 3) := by decide +kernel
theorem dX5_isLike_14 : decode cX5_isLike 14 = .ok (.ifCond .eq 7, 3) := by decide +kernel
theorem dX5_isLike_17 : decode cX5_isLike 17 = .ok (.iconst 1, 1) := by decide +kernel
theorem dX5_isLike_18 : decode cX5_isLike 18 = .ok (.goto 4, 3) := by decide +kernel
theorem dX5_isLike_21 : decode cX5_isLike 21 = .ok (.iconst 0, 1) := by decide +kernel
theorem dX5_isLike_22 : decode cX5_isLike 22 = .ok (.iconst 1, 1) := by decide +kernel
theorem dX5_isLike_23 : decode cX5_isLike 23 = .ok (.invokevirtual 72, 3) := by decide +kernel
theorem dX5_isLike_26 : decode cX5_isLike 26 = .ok (.ifCond .ne 25, 3) := by decide +kernel
theorem dX5_isLike_29 : decode cX5_isLike 29 = .ok (.aload_n 0, 1) := by decide +kernel
theorem dX5_isLike_30 : decode cX5_isLike 30 = .ok (.aload_n 0, 1) := by decide +kernel
theorem dX5_isLike_31 : decode cX5_isLike 31 = .ok (.getfield 11, 3) := by decide +kernel
theorem dX5_isLike_34 : decode cX5_isLike 34 = .ok (.iload_n 1, 1) := by decide +kernel
theorem dX5_isLike_35 : decode cX5_isLike 35 = .ok (.aaload, 1) := by decide +kernel
theorem dX5_isLike_36 : decode cX5_isLike 36 = .ok (.ifnonnull 7, 3) := by decide +kernel
theorem dX5_isLike_39 : decode cX5_isLike 39 = .ok (.iconst 1, 1) := by decide +kernel
theorem dX5_isLike_40 : decode cX5_isLike 40 = .ok (.goto 4, 3) := by decide +kernel
theorem dX5_isLike_43 : decode cX5_isLike 43 = .ok (.iconst 0, 1) := by decide +kernel
theorem dX5_isLike_44 : decode cX5_isLike 44 = .ok (.iconst 2, 1) := by decide +kernel
theorem dX5_isLike_45 : decode cX5_isLike 45 = .ok (.invokevirtual 18, 3) := by decide +kernel
theorem dX5_isLike_48 : decode cX5_isLike 48 = .ok (.ifCond .eq 5, 3) := by decide +kernel
theorem dX5_isLike_51 : decode cX5_isLike 51 = .ok (.iconst 0, 1) := by decide +kernel
theorem dX5_isLike_52 : decode cX5_isLike 52 = .ok (.ireturn, 1) := by decide +kernel
theorem dX5_isLike_53 : decode cX5_isLike 53 = .ok (.aload_n 0, 1) := by decide +kernel
theorem dX5_isLike_54 : decode cX5_isLike 54 = .ok (.getfield 11, 3) := by decide +kernel
theorem dX5_isLike_57 : decode cX5_isLike 57 = .ok (.iload_n 2, 1) := by decide +kernel
theorem dX5_isLike_58 : decode cX5_isLike 58 = .ok (.aaload, 1) := by decide +kernel
theorem dX5_isLike_59 : decode cX5_isLike 59 = .ok (.ifnonnull 10, 3) := by decide +kernel
theorem dX5_isLike_62 : decode cX5_isLike 62 = .ok (.aload_n 0, 1) := by decide +kernel
theorem dX5_isLike_63 : decode cX5_isLike 63 = .ok (.invokevirtual 90, 3) := by decide +kernel
theorem dX5_isLike_66 : decode cX5_isLike 66 = .ok (.goto 29, 3) := by decide +kernel
theorem dX5_isLike_69 : decode cX5_isLike 69 = .ok (.aload_n 0, 1) := by decide +kernel
theorem dX5_isLike_70 : decode cX5_isLike 70 = .ok (.getfield 11, 3) := by decide +kernel
theorem dX5_isLike_73 : decode cX5_isLike 73 = .ok (.iload_n 1, 1) := by decide +kernel
theorem dX5_isLike_74 : decode cX5_isLike 74 = .ok (.aaload, 1) := by decide +kernel
theorem dX5_isLike_75 : decode cX5_isLike 75 = .ok (.aload_n 0, 1) := by decide +kernel
theorem dX5_isLike_76 : decode cX5_isLike 76 = .ok (.getfield 11, 3) := by decide +kernel
theorem dX5_isLike_79 : decode cX5_isLike 79 = .ok (.iload_n 2, 1) := by decide +kernel
theorem dX5_isLike_80 : decode cX5_isLike 80 = .ok (.aaload, 1) := by decide +kernel
theorem dX5_isLike_81 : decode cX5_isLike 81 = .ok (.invokestatic 61, 3) := by decide +kernel
theorem dX5_isLike_84 : decode cX5_isLike 84 = .ok (.ifCond .ne 7, 3) := by decide +kernel
theorem dX5_isLike_87 : decode cX5_isLike 87 = .ok (.iconst 1, 1) := by decide +kernel
theorem dX5_isLike_88 : decode cX5_isLike 88 = .ok (.goto 4, 3) := by decide +kernel
theorem dX5_isLike_91 : decode cX5_isLike 91 = .ok (.iconst 0, 1) := by decide +kernel
theorem dX5_isLike_92 : decode cX5_isLike 92 = .ok (.invokestatic 49, 3) := by decide +kernel
theorem dX5_isLike_95 : decode cX5_isLike 95 = .ok (.ireturn, 1) := by decide +kernel
theorem dX5_order_0 : decode cX5_order 0 = .ok (.aload_n 0, 1) := by decide +kernel
theorem dX5_order_1 : decode cX5_order 1 = .ok (.iload_n 1, 1) := by decide +kernel
theorem dX5_order_2 : decode cX5_order 2 = .ok (.iload_n 2, 1) := by decide +kernel
theorem dX5_order_3 : decode cX5_order 3 = .ok (.invokevirtual 101, 3) := by decide +kernel
theorem dX5_order_6 : decode cX5_order 6 = .ok (.ifCond .ne 25, 3) := by decide +kernel
theorem dX5_order_9 : decode cX5_order 9 = .ok (.aload_n 0, 1) := by decide +kernel
theorem dX5_order_10 : decode cX5_order 10 = .ok (.iload_n 3, 1) := by decide +kernel
theorem dX5_order_11 : decode cX5_order 11 = .ok (.iconst 0, 1) := by decide +kernel
theorem dX5_order_12 : decode cX5_order 12 = .ok (.iconst 3, 1) := by decide +kernel
theorem dX5_order_13 : decode cX5_order 13 = .ok (.invokestatic 22, 3) := by decide +kernel
theorem dX5_order_16 : decode cX5_order 16 = .ok (.ifCond .ne 7, 3) := by decide +kernel
theorem dX5_order_19 : decode cX5_order 19 = .ok (.iconst 1, 1) := by decide +kernel
theorem dX5_order_20 : decode cX5_order 20 = .ok (.goto 4, 3) := by decide +kernel
theorem dX5_order_23 : decode cX5_order 23 = .ok (.iconst 0, 1) := by decide +kernel
theorem dX5_order_24 : decode cX5_order 24 = .ok (.iconst 2, 1) := by decide +kernel
theorem dX5_order_25 : decode cX5_order 25 = .ok (.invokevirtual 18, 3) := by decide +kernel
theorem dX5_order_28 : decode cX5_order 28 = .ok (.ifCond .eq 5, 3) := by decide +kernel
theorem dX5_order_31 : decode cX5_order 31 = .ok (.iconst 0, 1) := by decide +kernel
theorem dX5_order_32 : decode cX5_order 32 = .ok (.ireturn, 1) := by decide +kernel
theorem dX5_order_33 : decode cX5_order 33 = .ok (.aload_n 0, 1) := by decide +kernel
theorem dX5_order_34 : decode cX5_order 34 = .ok (.dup, 1) := by decide +kernel
theorem dX5_order_35 : decode cX5_order 35 = .ok (.getfield 124, 3) := by decide +kernel
theorem dX5_order_38 : decode cX5_order 38 = .ok (.aload_n 0, 1) := by decide +kernel
theorem dX5_order_39 : decode cX5_order 39 = .ok (.iload_n 1, 1) := by decide +kernel
theorem dX5_order_40 : decode cX5_order 40 = .ok (.iload_n 2, 1) := by decide +kernel
theorem dX5_order_41 : decode cX5_order 41 = .ok (.invokevirtual 127, 3) := by decide +kernel
theorem dX5_order_44 : decode cX5_order 44 = .ok (.invokestatic 49, 3) := by decide +kernel
theorem dX5_order_47 : decode cX5_order 47 = .ok (.iadd, 1) := by decide +kernel
theorem dX5_order_48 : decode cX5_order 48 = .ok (.putfield 124, 3) := by decide +kernel
theorem dX5_order_51 : decode cX5_order 51 = .ok (.aload_n 0, 1) := by decide +kernel
theorem dX5_order_52 : decode cX5_order 52 = .ok (.iload_n 1, 1) := by decide +kernel
theorem dX5_order_53 : decode cX5_order 53 = .ok (.iload_n 2, 1) := by decide +kernel
theorem dX5_order_54 : decode cX5_order 54 = .ok (.iload_n 3, 1) := by decide +kernel
theorem dX5_order_55 : decode cX5_order 55 = .ok (.invokevirtual 130, 3) := by decide +kernel
theorem dX5_order_58 : decode cX5_order 58 = .ok (.ireturn, 1) := by decide +kernel
theorem dX5_ahead_0 : decode cX5_ahead 0 = .ok (.aload_n 0, 1) := by decide +kernel
theorem dX5_ahead_1 : decode cX5_ahead 1 = .ok (.iload_n 1, 1) := by decide +kernel
theorem dX5_ahead_2 : decode cX5_ahead 2 = .ok (.invokestatic 69, 3) := by decide +kernel
theorem dX5_ahead_5 : decode cX5_ahead 5 = .ok (.iconst 1, 1) := by decide +kernel
theorem dX5_ahead_6 : decode cX5_ahead 6 = .ok (.invokevirtual 72, 3) := by decide +kernel
theorem dX5_ahead_9 : decode cX5_ahead 9 = .ok (.ifCond .ne 25, 3) := by decide +kernel
theorem dX5_ahead_12 : decode cX5_ahead 12 = .ok (.aload_n 0, 1) := by decide +kernel
theorem dX5_ahead_13 : decode cX5_ahead 13 = .ok (.iload_n 2, 1) := by decide +kernel
theorem dX5_ahead_14 : decode cX5_ahead 14 = .ok (.iconst 0, 1) := by decide +kernel
theorem dX5_ahead_15 : decode cX5_ahead 15 = .ok (.iconst 3, 1) := by decide +kernel
theorem dX5_ahead_16 : decode cX5_ahead 16 = .ok (.invokestatic 22, 3) := by decide +kernel
theorem dX5_ahead_19 : decode cX5_ahead 19 = .ok (.ifCond .ne 7, 3) := by decide +kernel
theorem dX5_ahead_22 : decode cX5_ahead 22 = .ok (.iconst 1, 1) := by decide +kernel
theorem dX5_ahead_23 : decode cX5_ahead 23 = .ok (.goto 4, 3) := by decide +kernel
theorem dX5_ahead_26 : decode cX5_ahead 26 = .ok (.iconst 0, 1) := by decide +kernel
theorem dX5_ahead_27 : decode cX5_ahead 27 = .ok (.iconst 2, 1) := by decide +kernel
theorem dX5_ahead_28 : decode cX5_ahead 28 = .ok (.invokevirtual 18, 3) := by decide +kernel
theorem dX5_ahead_31 : decode cX5_ahead 31 = .ok (.ifCond .eq 5, 3) := by decide +kernel
theorem dX5_ahead_34 : decode cX5_ahead 34 = .ok (.iconst 0, 1) := by decide +kernel
theorem dX5_ahead_35 : decode cX5_ahead 35 = .ok (.ireturn, 1) := by decide +kernel
theorem dX5_ahead_36 : decode cX5_ahead 36 = .ok (.iconst 0, 1) := by decide +kernel
theorem dX5_ahead_37 : decode cX5_ahead 37 = .ok (.istore_n 3, 1) := by decide +kernel
theorem dX5_ahead_38 : decode cX5_ahead 38 = .ok (.iconst 0, 1) := by decide +kernel
theorem dX5_ahead_39 : decode cX5_ahead 39 = .ok (.istore 4, 2) := by decide +kernel
theorem dX5_ahead_41 : decode cX5_ahead 41 = .ok (.iload 4, 2) := by decide +kernel
theorem dX5_ahead_43 : decode cX5_ahead 43 = .ok (.bipush 9, 2) := by decide +kernel
theorem dX5_ahead_45 : decode cX5_ahead 45 = .ok (.if_icmp .ge 50, 3) := by decide +kernel
theorem dX5_ahead_48 : decode cX5_ahead 48 = .ok (.aload_n 0, 1) := by decide +kernel
theorem dX5_ahead_49 : decode cX5_ahead 49 = .ok (.dup, 1) := by decide +kernel
theorem dX5_ahead_50 : decode cX5_ahead 50 = .ok (.getfield 124, 3) := by decide +kernel
theorem dX5_ahead_53 : decode cX5_ahead 53 = .ok (.aload_n 0, 1) := by decide +kernel
theorem dX5_ahead_54 : decode cX5_ahead 54 = .ok (.iload_n 1, 1) := by decide +kernel
theorem dX5_ahead_55 : decode cX5_ahead 55 = .ok (.iload 4, 2) := by decide +kernel
theorem dX5_ahead_57 : decode cX5_ahead 57 = .ok (.invokevirtual 127, 3) := by decide +kernel
theorem dX5_ahead_60 : decode cX5_ahead 60 = .ok (.invokestatic 49, 3) := by decide +kernel
theorem dX5_ahead_63 : decode cX5_ahead 63 = .ok (.iadd, 1) := by decide +kernel
theorem dX5_ahead_64 : decode cX5_ahead 64 = .ok (.putfield 124, 3) := by decide +kernel
theorem dX5_ahead_67 : decode cX5_ahead 67 = .ok (.iload_n 3, 1) := by decide +kernel
theorem dX5_ahead_68 : decode cX5_ahead 68 = .ok (.aload_n 0, 1) := by decide +kernel
theorem dX5_ahead_69 : decode cX5_ahead 69 = .ok (.iload 4, 2) := by decide +kernel
theorem dX5_ahead_71 : decode cX5_ahead 71 = .ok (.iload_n 1, 1) := by decide +kernel
theorem dX5_ahead_72 : decode cX5_ahead 72 = .ok (.iload_n 2, 1) := by decide +kernel
theorem dX5_ahead_73 : decode cX5_ahead 73 = .ok (.invokevirtual 130, 3) := by decide +kernel
theorem dX5_ahead_76 : decode cX5_ahead 76 = .ok (.ifCond .ge 7, 3) := by decide +kernel
theorem dX5_ahead_79 : decode cX5_ahead 79 = .ok (.iconst 1, 1) := by decide +kernel
theorem dX5_ahead_80 : decode cX5_ahead 80 = .ok (.goto 4, 3) := by decide +kernel
theorem dX5_ahead_83 : decode cX5_ahead 83 = .ok (.iconst 0, 1) := by decide +kernel
theorem dX5_ahead_84 : decode cX5_ahead 84 = .ok (.invokestatic 49, 3) := by decide +kernel
theorem dX5_ahead_87 : decode cX5_ahead 87 = .ok (.iadd, 1) := by decide +kernel
theorem dX5_ahead_88 : decode cX5_ahead 88 = .ok (.istore_n 3, 1) := by decide +kernel
theorem dX5_ahead_89 : decode cX5_ahead 89 = .ok (.iinc 4 1, 3) := by decide +kernel
theorem dX5_ahead_92 : decode cX5_ahead 92 = .ok (.goto (-51), 3) := by decide +kernel
theorem dX5_ahead_95 : decode cX5_ahead 95 = .ok (.iload_n 3, 1) := by decide +kernel
theorem dX5_ahead_96 : decode cX5_ahead 96 = .ok (.ireturn, 1) := by decide +kernel
theorem dX5_must_0 : decode cX5_must 0 = .ok (.aload_n 0, 1) := by decide +kernel
theorem dX5_must_1 : decode cX5_must 1 = .ok (.iload_n 1, 1) := by decide +kernel
theorem dX5_must_2 : decode cX5_must 2 = .ok (.invokestatic 69, 3) := by decide +kernel
theorem dX5_must_5 : decode cX5_must 5 = .ok (.iconst 1, 1) := by decide +kernel
theorem dX5_must_6 : decode cX5_must 6 = .ok (.invokevirtual 72, 3) := by decide +kernel
theorem dX5_must_9 : decode cX5_must 9 = .ok (.ifCond .eq 7, 3) := by decide +kernel
theorem dX5_must_12 : decode cX5_must 12 = .ok (.iconst 0, 1) := by decide +kernel
theorem dX5_must_13 : decode cX5_must 13 = .ok (.goto 24, 3) := by decide +kernel
theorem dX5_must_16 : decode cX5_must 16 = .ok (.aload_n 0, 1) := by decide +kernel
theorem dX5_must_17 : decode cX5_must 17 = .ok (.getfield 11, 3) := by decide +kernel
theorem dX5_must_20 : decode cX5_must 20 = .ok (.iload_n 1, 1) := by decide +kernel
theorem dX5_must_21 : decode cX5_must 21 = .ok (.aaload, 1) := by decide +kernel
theorem dX5_must_22 : decode cX5_must 22 = .ok (.ifnonnull 10, 3) := by decide +kernel
theorem dX5_must_25 : decode cX5_must 25 = .ok (.aload_n 0, 1) := by decide +kernel
theorem dX5_must_26 : decode cX5_must 26 = .ok (.invokevirtual 90, 3) := by decide +kernel
theorem dX5_must_29 : decode cX5_must 29 = .ok (.goto 8, 3) := by decide +kernel
theorem dX5_must_32 : decode cX5_must 32 = .ok (.aload_n 0, 1) := by decide +kernel
theorem dX5_must_33 : decode cX5_must 33 = .ok (.iload_n 1, 1) := by decide +kernel
theorem dX5_must_34 : decode cX5_must 34 = .ok (.invokevirtual 75, 3) := by decide +kernel
theorem dX5_must_37 : decode cX5_must 37 = .ok (.ireturn, 1) := by decide +kernel
theorem dX5_mustSaying_0 : decode cX5_mustSaying 0 = .ok (.aload_n 0, 1) := by decide +kernel
theorem dX5_mustSaying_1 : decode cX5_mustSaying 1 = .ok (.iload_n 1, 1) := by decide +kernel
theorem dX5_mustSaying_2 : decode cX5_mustSaying 2 = .ok (.invokestatic 69, 3) := by decide +kernel
theorem dX5_mustSaying_5 : decode cX5_mustSaying 5 = .ok (.iconst 1, 1) := by decide +kernel
theorem dX5_mustSaying_6 : decode cX5_mustSaying 6 = .ok (.invokevirtual 72, 3) := by decide +kernel
theorem dX5_mustSaying_9 : decode cX5_mustSaying 9 = .ok (.ifCond .eq 5, 3) := by decide +kernel
theorem dX5_mustSaying_12 : decode cX5_mustSaying 12 = .ok (.iconst 0, 1) := by decide +kernel
theorem dX5_mustSaying_13 : decode cX5_mustSaying 13 = .ok (.ireturn, 1) := by decide +kernel
theorem dX5_mustSaying_14 : decode cX5_mustSaying 14 = .ok (.aload_n 0, 1) := by decide +kernel
theorem dX5_mustSaying_15 : decode cX5_mustSaying 15 = .ok (.dup, 1) := by decide +kernel
theorem dX5_mustSaying_16 : decode cX5_mustSaying 16 = .ok (.getfield 134, 3) := by decide +kernel
theorem dX5_mustSaying_19 : decode cX5_mustSaying 19 = .ok (.aload_n 0, 1) := by decide +kernel
theorem dX5_mustSaying_20 : decode cX5_mustSaying 20 = .ok (.getfield 11, 3) := by decide +kernel
theorem dX5_mustSaying_23 : decode cX5_mustSaying 23 = .ok (.iload_n 1, 1) := by decide +kernel
theorem dX5_mustSaying_24 : decode cX5_mustSaying 24 = .ok (.aaload, 1) := by decide +kernel
theorem dX5_mustSaying_25 : decode cX5_mustSaying 25 = .ok (.ifnonnull 7, 3) := by decide +kernel
theorem dX5_mustSaying_28 : decode cX5_mustSaying 28 = .ok (.iconst 1, 1) := by decide +kernel
theorem dX5_mustSaying_29 : decode cX5_mustSaying 29 = .ok (.goto 4, 3) := by decide +kernel
theorem dX5_mustSaying_32 : decode cX5_mustSaying 32 = .ok (.iconst 0, 1) := by decide +kernel
theorem dX5_mustSaying_33 : decode cX5_mustSaying 33 = .ok (.invokestatic 49, 3) := by decide +kernel
theorem dX5_mustSaying_36 : decode cX5_mustSaying 36 = .ok (.iadd, 1) := by decide +kernel
theorem dX5_mustSaying_37 : decode cX5_mustSaying 37 = .ok (.putfield 134, 3) := by decide +kernel
theorem dX5_mustSaying_40 : decode cX5_mustSaying 40 = .ok (.aload_n 0, 1) := by decide +kernel
theorem dX5_mustSaying_41 : decode cX5_mustSaying 41 = .ok (.getfield 11, 3) := by decide +kernel
theorem dX5_mustSaying_44 : decode cX5_mustSaying 44 = .ok (.iload_n 1, 1) := by decide +kernel
theorem dX5_mustSaying_45 : decode cX5_mustSaying 45 = .ok (.aaload, 1) := by decide +kernel
theorem dX5_mustSaying_46 : decode cX5_mustSaying 46 = .ok (.ifnonnull 10, 3) := by decide +kernel
theorem dX5_mustSaying_49 : decode cX5_mustSaying 49 = .ok (.aload_n 0, 1) := by decide +kernel
theorem dX5_mustSaying_50 : decode cX5_mustSaying 50 = .ok (.invokevirtual 90, 3) := by decide +kernel
theorem dX5_mustSaying_53 : decode cX5_mustSaying 53 = .ok (.goto 8, 3) := by decide +kernel
theorem dX5_mustSaying_56 : decode cX5_mustSaying 56 = .ok (.aload_n 0, 1) := by decide +kernel
theorem dX5_mustSaying_57 : decode cX5_mustSaying 57 = .ok (.iload_n 1, 1) := by decide +kernel
theorem dX5_mustSaying_58 : decode cX5_mustSaying 58 = .ok (.invokevirtual 75, 3) := by decide +kernel
theorem dX5_mustSaying_61 : decode cX5_mustSaying 61 = .ok (.ireturn, 1) := by decide +kernel
theorem dX5_either_0 : decode cX5_either 0 = .ok (.aload_n 0, 1) := by decide +kernel
theorem dX5_either_1 : decode cX5_either 1 = .ok (.getfield 11, 3) := by decide +kernel
theorem dX5_either_4 : decode cX5_either 4 = .ok (.iload_n 1, 1) := by decide +kernel
theorem dX5_either_5 : decode cX5_either 5 = .ok (.aaload, 1) := by decide +kernel
theorem dX5_either_6 : decode cX5_either 6 = .ok (.ifnonnull 12, 3) := by decide +kernel
theorem dX5_either_9 : decode cX5_either 9 = .ok (.aload_n 0, 1) := by decide +kernel
theorem dX5_either_10 : decode cX5_either 10 = .ok (.getfield 11, 3) := by decide +kernel
theorem dX5_either_13 : decode cX5_either 13 = .ok (.iload_n 2, 1) := by decide +kernel
theorem dX5_either_14 : decode cX5_either 14 = .ok (.aaload, 1) := by decide +kernel
theorem dX5_either_15 : decode cX5_either 15 = .ok (.goto 9, 3) := by decide +kernel
theorem dX5_either_18 : decode cX5_either 18 = .ok (.aload_n 0, 1) := by decide +kernel
theorem dX5_either_19 : decode cX5_either 19 = .ok (.getfield 11, 3) := by decide +kernel
end
section
theorem dX5_either_22 : decode cX5_either 22 = .ok (.iload_n 1, 1) := by decide +kernel
theorem dX5_either_23 : decode cX5_either 23 = .ok (.aaload, 1) := by decide +kernel
theorem dX5_either_24 : decode cX5_either 24 = .ok (.astore_n 3, 1) := by decide +kernel
theorem dX5_either_25 : decode cX5_either 25 = .ok (.aload_n 3, 1) := by decide +kernel
theorem dX5_either_26 : decode cX5_either 26 = .ok (.ifnonnull 10, 3) := by decide +kernel
theorem dX5_either_29 : decode cX5_either 29 = .ok (.aload_n 0, 1) := by decide +kernel
theorem dX5_either_30 : decode cX5_either 30 = .ok (.invokevirtual 121, 3) := by decide +kernel
theorem dX5_either_33 : decode cX5_either 33 = .ok (.goto 7, 3) := by decide +kernel
theorem dX5_either_36 : decode cX5_either 36 = .ok (.aload_n 3, 1) := by decide +kernel
theorem dX5_either_37 : decode cX5_either 37 = .ok (.invokestatic 115, 3) := by decide +kernel
theorem dX5_either_40 : decode cX5_either 40 = .ok (.areturn, 1) := by decide +kernel
theorem dX5_orElse_0 : decode cX5_orElse 0 = .ok (.aload_n 0, 1) := by decide +kernel
theorem dX5_orElse_1 : decode cX5_orElse 1 = .ok (.iload_n 1, 1) := by decide +kernel
theorem dX5_orElse_2 : decode cX5_orElse 2 = .ok (.iload_n 2, 1) := by decide +kernel
theorem dX5_orElse_3 : decode cX5_orElse 3 = .ok (.invokevirtual 101, 3) := by decide +kernel
theorem dX5_orElse_6 : decode cX5_orElse 6 = .ok (.ifCond .eq 8, 3) := by decide +kernel
theorem dX5_orElse_9 : decode cX5_orElse 9 = .ok (.ldc 33, 2) := by decide +kernel
theorem dX5_orElse_11 : decode cX5_orElse 11 = .ok (.goto 9, 3) := by decide +kernel
theorem dX5_orElse_14 : decode cX5_orElse 14 = .ok (.aload_n 0, 1) := by decide +kernel
theorem dX5_orElse_15 : decode cX5_orElse 15 = .ok (.iload_n 1, 1) := by decide +kernel
theorem dX5_orElse_16 : decode cX5_orElse 16 = .ok (.iload_n 2, 1) := by decide +kernel
theorem dX5_orElse_17 : decode cX5_orElse 17 = .ok (.invokevirtual 137, 3) := by decide +kernel
theorem dX5_orElse_20 : decode cX5_orElse 20 = .ok (.areturn, 1) := by decide +kernel
theorem dX5_orGiven_0 : decode cX5_orGiven 0 = .ok (.aload_n 0, 1) := by decide +kernel
theorem dX5_orGiven_1 : decode cX5_orGiven 1 = .ok (.iload_n 1, 1) := by decide +kernel
theorem dX5_orGiven_2 : decode cX5_orGiven 2 = .ok (.iload_n 2, 1) := by decide +kernel
theorem dX5_orGiven_3 : decode cX5_orGiven 3 = .ok (.invokevirtual 101, 3) := by decide +kernel
theorem dX5_orGiven_6 : decode cX5_orGiven 6 = .ok (.ifCond .eq 6, 3) := by decide +kernel
theorem dX5_orGiven_9 : decode cX5_orGiven 9 = .ok (.ldc 33, 2) := by decide +kernel
theorem dX5_orGiven_11 : decode cX5_orGiven 11 = .ok (.areturn, 1) := by decide +kernel
theorem dX5_orGiven_12 : decode cX5_orGiven 12 = .ok (.aload_n 0, 1) := by decide +kernel
theorem dX5_orGiven_13 : decode cX5_orGiven 13 = .ok (.dup, 1) := by decide +kernel
theorem dX5_orGiven_14 : decode cX5_orGiven 14 = .ok (.getfield 134, 3) := by decide +kernel
theorem dX5_orGiven_17 : decode cX5_orGiven 17 = .ok (.aload_n 0, 1) := by decide +kernel
theorem dX5_orGiven_18 : decode cX5_orGiven 18 = .ok (.getfield 11, 3) := by decide +kernel
theorem dX5_orGiven_21 : decode cX5_orGiven 21 = .ok (.iload_n 1, 1) := by decide +kernel
theorem dX5_orGiven_22 : decode cX5_orGiven 22 = .ok (.aaload, 1) := by decide +kernel
theorem dX5_orGiven_23 : decode cX5_orGiven 23 = .ok (.ifnonnull 7, 3) := by decide +kernel
theorem dX5_orGiven_26 : decode cX5_orGiven 26 = .ok (.iconst 1, 1) := by decide +kernel
theorem dX5_orGiven_27 : decode cX5_orGiven 27 = .ok (.goto 4, 3) := by decide +kernel
theorem dX5_orGiven_30 : decode cX5_orGiven 30 = .ok (.iconst 0, 1) := by decide +kernel
theorem dX5_orGiven_31 : decode cX5_orGiven 31 = .ok (.invokestatic 49, 3) := by decide +kernel
theorem dX5_orGiven_34 : decode cX5_orGiven 34 = .ok (.iadd, 1) := by decide +kernel
theorem dX5_orGiven_35 : decode cX5_orGiven 35 = .ok (.putfield 134, 3) := by decide +kernel
theorem dX5_orGiven_38 : decode cX5_orGiven 38 = .ok (.aload_n 0, 1) := by decide +kernel
theorem dX5_orGiven_39 : decode cX5_orGiven 39 = .ok (.iload_n 1, 1) := by decide +kernel
theorem dX5_orGiven_40 : decode cX5_orGiven 40 = .ok (.iload_n 2, 1) := by decide +kernel
theorem dX5_orGiven_41 : decode cX5_orGiven 41 = .ok (.invokevirtual 137, 3) := by decide +kernel
theorem dX5_orGiven_44 : decode cX5_orGiven 44 = .ok (.areturn, 1) := by decide +kernel
theorem dX5_isMissing_0 : decode cX5_isMissing 0 = .ok (.aload_n 0, 1) := by decide +kernel
theorem dX5_isMissing_1 : decode cX5_isMissing 1 = .ok (.iload_n 1, 1) := by decide +kernel
theorem dX5_isMissing_2 : decode cX5_isMissing 2 = .ok (.invokestatic 69, 3) := by decide +kernel
theorem dX5_isMissing_5 : decode cX5_isMissing 5 = .ok (.iconst 1, 1) := by decide +kernel
theorem dX5_isMissing_6 : decode cX5_isMissing 6 = .ok (.invokevirtual 72, 3) := by decide +kernel
theorem dX5_isMissing_9 : decode cX5_isMissing 9 = .ok (.ifCond .ne 16, 3) := by decide +kernel
theorem dX5_isMissing_12 : decode cX5_isMissing 12 = .ok (.aload_n 0, 1) := by decide +kernel
theorem dX5_isMissing_13 : decode cX5_isMissing 13 = .ok (.getfield 11, 3) := by decide +kernel
theorem dX5_isMissing_16 : decode cX5_isMissing 16 = .ok (.iload_n 1, 1) := by decide +kernel
theorem dX5_isMissing_17 : decode cX5_isMissing 17 = .ok (.aaload, 1) := by decide +kernel
theorem dX5_isMissing_18 : decode cX5_isMissing 18 = .ok (.ifnonnull 7, 3) := by decide +kernel
theorem dX5_isMissing_21 : decode cX5_isMissing 21 = .ok (.iconst 1, 1) := by decide +kernel
theorem dX5_isMissing_22 : decode cX5_isMissing 22 = .ok (.goto 4, 3) := by decide +kernel
theorem dX5_isMissing_25 : decode cX5_isMissing 25 = .ok (.iconst 0, 1) := by decide +kernel
theorem dX5_isMissing_26 : decode cX5_isMissing 26 = .ok (.ireturn, 1) := by decide +kernel
theorem dX5_isThere_0 : decode cX5_isThere 0 = .ok (.aload_n 0, 1) := by decide +kernel
theorem dX5_isThere_1 : decode cX5_isThere 1 = .ok (.iload_n 1, 1) := by decide +kernel
theorem dX5_isThere_2 : decode cX5_isThere 2 = .ok (.invokestatic 69, 3) := by decide +kernel
theorem dX5_isThere_5 : decode cX5_isThere 5 = .ok (.iconst 1, 1) := by decide +kernel
theorem dX5_isThere_6 : decode cX5_isThere 6 = .ok (.invokevirtual 72, 3) := by decide +kernel
theorem dX5_isThere_9 : decode cX5_isThere 9 = .ok (.ifCond .ne 16, 3) := by decide +kernel
theorem dX5_isThere_12 : decode cX5_isThere 12 = .ok (.aload_n 0, 1) := by decide +kernel
theorem dX5_isThere_13 : decode cX5_isThere 13 = .ok (.getfield 11, 3) := by decide +kernel
theorem dX5_isThere_16 : decode cX5_isThere 16 = .ok (.iload_n 1, 1) := by decide +kernel
theorem dX5_isThere_17 : decode cX5_isThere 17 = .ok (.aaload, 1) := by decide +kernel
theorem dX5_isThere_18 : decode cX5_isThere 18 = .ok (.ifnull 7, 3) := by decide +kernel
theorem dX5_isThere_21 : decode cX5_isThere 21 = .ok (.iconst 1, 1) := by decide +kernel
theorem dX5_isThere_22 : decode cX5_isThere 22 = .ok (.goto 4, 3) := by decide +kernel
theorem dX5_isThere_25 : decode cX5_isThere 25 = .ok (.iconst 0, 1) := by decide +kernel
theorem dX5_isThere_26 : decode cX5_isThere 26 = .ok (.ireturn, 1) := by decide +kernel
theorem dX5_areLike_0 : decode cX5_areLike 0 = .ok (.aload_n 0, 1) := by decide +kernel
theorem dX5_areLike_1 : decode cX5_areLike 1 = .ok (.getfield 11, 3) := by decide +kernel
theorem dX5_areLike_4 : decode cX5_areLike 4 = .ok (.iload_n 1, 1) := by decide +kernel
theorem dX5_areLike_5 : decode cX5_areLike 5 = .ok (.aaload, 1) := by decide +kernel
theorem dX5_areLike_6 : decode cX5_areLike 6 = .ok (.astore_n 3, 1) := by decide +kernel
theorem dX5_areLike_7 : decode cX5_areLike 7 = .ok (.aload_n 0, 1) := by decide +kernel
theorem dX5_areLike_8 : decode cX5_areLike 8 = .ok (.getfield 11, 3) := by decide +kernel
theorem dX5_areLike_11 : decode cX5_areLike 11 = .ok (.iload_n 2, 1) := by decide +kernel
theorem dX5_areLike_12 : decode cX5_areLike 12 = .ok (.aaload, 1) := by decide +kernel
theorem dX5_areLike_13 : decode cX5_areLike 13 = .ok (.astore 4, 2) := by decide +kernel
theorem dX5_areLike_15 : decode cX5_areLike 15 = .ok (.aload_n 3, 1) := by decide +kernel
theorem dX5_areLike_16 : decode cX5_areLike 16 = .ok (.ifnull 8, 3) := by decide +kernel
theorem dX5_areLike_19 : decode cX5_areLike 19 = .ok (.aload 4, 2) := by decide +kernel
theorem dX5_areLike_21 : decode cX5_areLike 21 = .ok (.ifnonnull 17, 3) := by decide +kernel
theorem dX5_areLike_24 : decode cX5_areLike 24 = .ok (.aload_n 3, 1) := by decide +kernel
theorem dX5_areLike_25 : decode cX5_areLike 25 = .ok (.aload 4, 2) := by decide +kernel
theorem dX5_areLike_27 : decode cX5_areLike 27 = .ok (.if_acmp .ne 7, 3) := by decide +kernel
theorem dX5_areLike_30 : decode cX5_areLike 30 = .ok (.iconst 1, 1) := by decide +kernel
theorem dX5_areLike_31 : decode cX5_areLike 31 = .ok (.goto 21, 3) := by decide +kernel
theorem dX5_areLike_34 : decode cX5_areLike 34 = .ok (.iconst 0, 1) := by decide +kernel
theorem dX5_areLike_35 : decode cX5_areLike 35 = .ok (.goto 17, 3) := by decide +kernel
theorem dX5_areLike_38 : decode cX5_areLike 38 = .ok (.aload_n 3, 1) := by decide +kernel
theorem dX5_areLike_39 : decode cX5_areLike 39 = .ok (.aload 4, 2) := by decide +kernel
theorem dX5_areLike_41 : decode cX5_areLike 41 = .ok (.invokestatic 61, 3) := by decide +kernel
theorem dX5_areLike_44 : decode cX5_areLike 44 = .ok (.ifCond .ne 7, 3) := by decide +kernel
theorem dX5_areLike_47 : decode cX5_areLike 47 = .ok (.iconst 1, 1) := by decide +kernel
theorem dX5_areLike_48 : decode cX5_areLike 48 = .ok (.goto 4, 3) := by decide +kernel
theorem dX5_areLike_51 : decode cX5_areLike 51 = .ok (.iconst 0, 1) := by decide +kernel
theorem dX5_areLike_52 : decode cX5_areLike 52 = .ok (.ireturn, 1) := by decide +kernel
theorem dX5_areSame_0 : decode cX5_areSame 0 = .ok (.aload_n 0, 1) := by decide +kernel
theorem dX5_areSame_1 : decode cX5_areSame 1 = .ok (.iload_n 1, 1) := by decide +kernel
theorem dX5_areSame_2 : decode cX5_areSame 2 = .ok (.iload_n 2, 1) := by decide +kernel
theorem dX5_areSame_3 : decode cX5_areSame 3 = .ok (.invokevirtual 101, 3) := by decide +kernel
theorem dX5_areSame_6 : decode cX5_areSame 6 = .ok (.ifCond .ne 16, 3) := by decide +kernel
theorem dX5_areSame_9 : decode cX5_areSame 9 = .ok (.aload_n 0, 1) := by decide +kernel
theorem dX5_areSame_10 : decode cX5_areSame 10 = .ok (.iload_n 1, 1) := by decide +kernel
theorem dX5_areSame_11 : decode cX5_areSame 11 = .ok (.iload_n 2, 1) := by decide +kernel
theorem dX5_areSame_12 : decode cX5_areSame 12 = .ok (.invokevirtual 141, 3) := by decide +kernel
theorem dX5_areSame_15 : decode cX5_areSame 15 = .ok (.ifCond .eq 7, 3) := by decide +kernel
theorem dX5_areSame_18 : decode cX5_areSame 18 = .ok (.iconst 1, 1) := by decide +kernel
theorem dX5_areSame_19 : decode cX5_areSame 19 = .ok (.goto 4, 3) := by decide +kernel
theorem dX5_areSame_22 : decode cX5_areSame 22 = .ok (.iconst 0, 1) := by decide +kernel
theorem dX5_areSame_23 : decode cX5_areSame 23 = .ok (.ireturn, 1) := by decide +kernel
theorem dX5_code_0 : decode cX5_code 0 = .ok (.aload_n 0, 1) := by decide +kernel
theorem dX5_code_1 : decode cX5_code 1 = .ok (.iload_n 1, 1) := by decide +kernel
theorem dX5_code_2 : decode cX5_code 2 = .ok (.invokestatic 69, 3) := by decide +kernel
theorem dX5_code_5 : decode cX5_code 5 = .ok (.iconst 1, 1) := by decide +kernel
theorem dX5_code_6 : decode cX5_code 6 = .ok (.invokevirtual 72, 3) := by decide +kernel
theorem dX5_code_9 : decode cX5_code 9 = .ok (.ifCond .eq 7, 3) := by decide +kernel
theorem dX5_code_12 : decode cX5_code 12 = .ok (.iconst 0, 1) := by decide +kernel
theorem dX5_code_13 : decode cX5_code 13 = .ok (.goto 12, 3) := by decide +kernel
theorem dX5_code_16 : decode cX5_code 16 = .ok (.aload_n 0, 1) := by decide +kernel
theorem dX5_code_17 : decode cX5_code 17 = .ok (.getfield 11, 3) := by decide +kernel
theorem dX5_code_20 : decode cX5_code 20 = .ok (.iload_n 1, 1) := by decide +kernel
theorem dX5_code_21 : decode cX5_code 21 = .ok (.aaload, 1) := by decide +kernel
theorem dX5_code_22 : decode cX5_code 22 = .ok (.invokestatic 144, 3) := by decide +kernel
theorem dX5_code_25 : decode cX5_code 25 = .ok (.ireturn, 1) := by decide +kernel
theorem dX5_codesOf_0 : decode cX5_codesOf 0 = .ok (.bipush 31, 2) := by decide +kernel
theorem dX5_codesOf_2 : decode cX5_codesOf 2 = .ok (.aload_n 0, 1) := by decide +kernel
theorem dX5_codesOf_3 : decode cX5_codesOf 3 = .ok (.getfield 11, 3) := by decide +kernel
theorem dX5_codesOf_6 : decode cX5_codesOf 6 = .ok (.iload_n 1, 1) := by decide +kernel
theorem dX5_codesOf_7 : decode cX5_codesOf 7 = .ok (.aaload, 1) := by decide +kernel
theorem dX5_codesOf_8 : decode cX5_codesOf 8 = .ok (.invokestatic 144, 3) := by decide +kernel
theorem dX5_codesOf_11 : decode cX5_codesOf 11 = .ok (.iadd, 1) := by decide +kernel
theorem dX5_codesOf_12 : decode cX5_codesOf 12 = .ok (.bipush 31, 2) := by decide +kernel
theorem dX5_codesOf_14 : decode cX5_codesOf 14 = .ok (.imul, 1) := by decide +kernel
theorem dX5_codesOf_15 : decode cX5_codesOf 15 = .ok (.aload_n 0, 1) := by decide +kernel
theorem dX5_codesOf_16 : decode cX5_codesOf 16 = .ok (.getfield 11, 3) := by decide +kernel
theorem dX5_codesOf_19 : decode cX5_codesOf 19 = .ok (.iload_n 2, 1) := by decide +kernel
theorem dX5_codesOf_20 : decode cX5_codesOf 20 = .ok (.aaload, 1) := by decide +kernel
theorem dX5_codesOf_21 : decode cX5_codesOf 21 = .ok (.invokestatic 144, 3) := by decide +kernel
theorem dX5_codesOf_24 : decode cX5_codesOf 24 = .ok (.iadd, 1) := by decide +kernel
theorem dX5_codesOf_25 : decode cX5_codesOf 25 = .ok (.bipush 31, 2) := by decide +kernel
theorem dX5_codesOf_27 : decode cX5_codesOf 27 = .ok (.imul, 1) := by decide +kernel
theorem dX5_codesOf_28 : decode cX5_codesOf 28 = .ok (.aload_n 0, 1) := by decide +kernel
theorem dX5_codesOf_29 : decode cX5_codesOf 29 = .ok (.getfield 11, 3) := by decide +kernel
theorem dX5_codesOf_32 : decode cX5_codesOf 32 = .ok (.iload_n 3, 1) := by decide +kernel
theorem dX5_codesOf_33 : decode cX5_codesOf 33 = .ok (.aaload, 1) := by decide +kernel
theorem dX5_codesOf_34 : decode cX5_codesOf 34 = .ok (.invokestatic 144, 3) := by decide +kernel
theorem dX5_codesOf_37 : decode cX5_codesOf 37 = .ok (.iadd, 1) := by decide +kernel
theorem dX5_codesOf_38 : decode cX5_codesOf 38 = .ok (.ireturn, 1) := by decide +kernel
theorem dX5_codes_0 : decode cX5_codes 0 = .ok (.aload_n 0, 1) := by decide +kernel
theorem dX5_codes_1 : decode cX5_codes 1 = .ok (.iload_n 1, 1) := by decide +kernel
theorem dX5_codes_2 : decode cX5_codes 2 = .ok (.invokestatic 69, 3) := by decide +kernel
theorem dX5_codes_5 : decode cX5_codes 5 = .ok (.ifCond .ne 17, 3) := by decide +kernel
theorem dX5_codes_8 : decode cX5_codes 8 = .ok (.iload_n 2, 1) := by decide +kernel
theorem dX5_codes_9 : decode cX5_codes 9 = .ok (.invokestatic 69, 3) := by decide +kernel
theorem dX5_codes_12 : decode cX5_codes 12 = .ok (.ifCond .ne 10, 3) := by decide +kernel
theorem dX5_codes_15 : decode cX5_codes 15 = .ok (.iload_n 3, 1) := by decide +kernel
theorem dX5_codes_16 : decode cX5_codes 16 = .ok (.invokestatic 69, 3) := by decide +kernel
theorem dX5_codes_19 : decode cX5_codes 19 = .ok (.ifCond .eq 7, 3) := by decide +kernel
theorem dX5_codes_22 : decode cX5_codes 22 = .ok (.iconst 1, 1) := by decide +kernel
theorem dX5_codes_23 : decode cX5_codes 23 = .ok (.goto 4, 3) := by decide +kernel
theorem dX5_codes_26 : decode cX5_codes 26 = .ok (.iconst 0, 1) := by decide +kernel
theorem dX5_codes_27 : decode cX5_codes 27 = .ok (.iconst 1, 1) := by decide +kernel
theorem dX5_codes_28 : decode cX5_codes 28 = .ok (.invokevirtual 72, 3) := by decide +kernel
theorem dX5_codes_31 : decode cX5_codes 31 = .ok (.ifCond .eq 7, 3) := by decide +kernel
theorem dX5_codes_34 : decode cX5_codes 34 = .ok (.iconst 0, 1) := by decide +kernel
theorem dX5_codes_35 : decode cX5_codes 35 = .ok (.goto 10, 3) := by decide +kernel
theorem dX5_codes_38 : decode cX5_codes 38 = .ok (.aload_n 0, 1) := by decide +kernel
theorem dX5_codes_39 : decode cX5_codes 39 = .ok (.iload_n 1, 1) := by decide +kernel
theorem dX5_codes_40 : decode cX5_codes 40 = .ok (.iload_n 2, 1) := by decide +kernel
theorem dX5_codes_41 : decode cX5_codes 41 = .ok (.iload_n 3, 1) := by decide +kernel
theorem dX5_codes_42 : decode cX5_codes 42 = .ok (.invokevirtual 147, 3) := by decide +kernel
theorem dX5_codes_45 : decode cX5_codes 45 = .ok (.ireturn, 1) := by decide +kernel
theorem dX5_knock_0 : decode cX5_knock 0 = .ok (.aload_n 0, 1) := by decide +kernel
theorem dX5_knock_1 : decode cX5_knock 1 = .ok (.iconst 0, 1) := by decide +kernel
theorem dX5_knock_2 : decode cX5_knock 2 = .ok (.putfield 14, 3) := by decide +kernel
theorem dX5_knock_5 : decode cX5_knock 5 = .ok (.aload_n 0, 1) := by decide +kernel
theorem dX5_knock_6 : decode cX5_knock 6 = .ok (.dup, 1) := by decide +kernel
theorem dX5_knock_7 : decode cX5_knock 7 = .ok (.getfield 150, 3) := by decide +kernel
theorem dX5_knock_10 : decode cX5_knock 10 = .ok (.iconst 1, 1) := by decide +kernel
theorem dX5_knock_11 : decode cX5_knock 11 = .ok (.iadd, 1) := by decide +kernel
theorem dX5_knock_12 : decode cX5_knock 12 = .ok (.putfield 150, 3) := by decide +kernel
theorem dX5_knock_15 : decode cX5_knock 15 = .ok (.aload_n 0, 1) := by decide +kernel
theorem dX5_knock_16 : decode cX5_knock 16 = .ok (.getfield 150, 3) := by decide +kernel
theorem dX5_knock_19 : decode cX5_knock 19 = .ok (.ireturn, 1) := by decide +kernel
theorem dX5_houseTold_0 : decode cX5_houseTold 0 = .ok (.iconst 0, 1) := by decide +kernel
theorem dX5_houseTold_1 : decode cX5_houseTold 1 = .ok (.istore_n 2, 1) := by decide +kernel
theorem dX5_houseTold_2 : decode cX5_houseTold 2 = .ok (.iconst 0, 1) := by decide +kernel
theorem dX5_houseTold_3 : decode cX5_houseTold 3 = .ok (.istore_n 3, 1) := by decide +kernel
theorem dX5_houseTold_4 : decode cX5_houseTold 4 = .ok (.aload_n 0, 1) := by decide +kernel
theorem dX5_houseTold_5 : decode cX5_houseTold 5 = .ok (.getfield 11, 3) := by decide +kernel
theorem dX5_houseTold_8 : decode cX5_houseTold 8 = .ok (.astore 4, 2) := by decide +kernel
theorem dX5_houseTold_10 : decode cX5_houseTold 10 = .ok (.aload 4, 2) := by decide +kernel
theorem dX5_houseTold_12 : decode cX5_houseTold 12 = .ok (.arraylength, 1) := by decide +kernel
theorem dX5_houseTold_13 : decode cX5_houseTold 13 = .ok (.istore 5, 2) := by decide +kernel
theorem dX5_houseTold_15 : decode cX5_houseTold 15 = .ok (.iconst 0, 1) := by decide +kernel
theorem dX5_houseTold_16 : decode cX5_houseTold 16 = .ok (.istore 6, 2) := by decide +kernel
theorem dX5_houseTold_18 : decode cX5_houseTold 18 = .ok (.iload 6, 2) := by decide +kernel
theorem dX5_houseTold_20 : decode cX5_houseTold 20 = .ok (.iload 5, 2) := by decide +kernel
theorem dX5_houseTold_22 : decode cX5_houseTold 22 = .ok (.if_icmp .ge 47, 3) := by decide +kernel
theorem dX5_houseTold_25 : decode cX5_houseTold 25 = .ok (.aload 4, 2) := by decide +kernel
theorem dX5_houseTold_27 : decode cX5_houseTold 27 = .ok (.iload 6, 2) := by decide +kernel
theorem dX5_houseTold_29 : decode cX5_houseTold 29 = .ok (.aaload, 1) := by decide +kernel
theorem dX5_houseTold_30 : decode cX5_houseTold 30 = .ok (.astore 7, 2) := by decide +kernel
theorem dX5_houseTold_32 : decode cX5_houseTold 32 = .ok (.iload_n 2, 1) := by decide +kernel
theorem dX5_houseTold_33 : decode cX5_houseTold 33 = .ok (.aload 7, 2) := by decide +kernel
theorem dX5_houseTold_35 : decode cX5_houseTold 35 = .ok (.ifnonnull 7, 3) := by decide +kernel
theorem dX5_houseTold_38 : decode cX5_houseTold 38 = .ok (.iconst 0, 1) := by decide +kernel
theorem dX5_houseTold_39 : decode cX5_houseTold 39 = .ok (.goto 6, 3) := by decide +kernel
theorem dX5_houseTold_42 : decode cX5_houseTold 42 = .ok (.aload 7, 2) := by decide +kernel
theorem dX5_houseTold_44 : decode cX5_houseTold 44 = .ok (.arraylength, 1) := by decide +kernel
theorem dX5_houseTold_45 : decode cX5_houseTold 45 = .ok (.iadd, 1) := by decide +kernel
theorem dX5_houseTold_46 : decode cX5_houseTold 46 = .ok (.istore_n 2, 1) := by decide +kernel
theorem dX5_houseTold_47 : decode cX5_houseTold 47 = .ok (.iload_n 3, 1) := by decide +kernel
theorem dX5_houseTold_48 : decode cX5_houseTold 48 = .ok (.aload 7, 2) := by decide +kernel
theorem dX5_houseTold_50 : decode cX5_houseTold 50 = .ok (.ifnonnull 7, 3) := by decide +kernel
theorem dX5_houseTold_53 : decode cX5_houseTold 53 = .ok (.iconst 1, 1) := by decide +kernel
theorem dX5_houseTold_54 : decode cX5_houseTold 54 = .ok (.goto 4, 3) := by decide +kernel
theorem dX5_houseTold_57 : decode cX5_houseTold 57 = .ok (.iconst 0, 1) := by decide +kernel
theorem dX5_houseTold_58 : decode cX5_houseTold 58 = .ok (.invokestatic 49, 3) := by decide +kernel
theorem dX5_houseTold_61 : decode cX5_houseTold 61 = .ok (.iadd, 1) := by decide +kernel
theorem dX5_houseTold_62 : decode cX5_houseTold 62 = .ok (.istore_n 3, 1) := by decide +kernel
theorem dX5_houseTold_63 : decode cX5_houseTold 63 = .ok (.iinc 6 1, 3) := by decide +kernel
theorem dX5_houseTold_66 : decode cX5_houseTold 66 = .ok (.goto (-48), 3) := by decide +kernel
theorem dX5_houseTold_69 : decode cX5_houseTold 69 = .ok (.bipush 6, 2) := by decide +kernel
theorem dX5_houseTold_71 : decode cX5_houseTold 71 = .ok (.newarray .int, 2) := by decide +kernel
theorem dX5_houseTold_73 : decode cX5_houseTold 73 = .ok (.dup, 1) := by decide +kernel
theorem dX5_houseTold_74 : decode cX5_houseTold 74 = .ok (.iconst 0, 1) := by decide +kernel
theorem dX5_houseTold_75 : decode cX5_houseTold 75 = .ok (.iload_n 2, 1) := by decide +kernel
theorem dX5_houseTold_76 : decode cX5_houseTold 76 = .ok (.iastore, 1) := by decide +kernel
theorem dX5_houseTold_77 : decode cX5_houseTold 77 = .ok (.dup, 1) := by decide +kernel
theorem dX5_houseTold_78 : decode cX5_houseTold 78 = .ok (.iconst 1, 1) := by decide +kernel
theorem dX5_houseTold_79 : decode cX5_houseTold 79 = .ok (.iload_n 3, 1) := by decide +kernel
theorem dX5_houseTold_80 : decode cX5_houseTold 80 = .ok (.iastore, 1) := by decide +kernel
theorem dX5_houseTold_81 : decode cX5_houseTold 81 = .ok (.dup, 1) := by decide +kernel
theorem dX5_houseTold_82 : decode cX5_houseTold 82 = .ok (.iconst 2, 1) := by decide +kernel
theorem dX5_houseTold_83 : decode cX5_houseTold 83 = .ok (.aload_n 0, 1) := by decide +kernel
theorem dX5_houseTold_84 : decode cX5_houseTold 84 = .ok (.getfield 30, 3) := by decide +kernel
theorem dX5_houseTold_87 : decode cX5_houseTold 87 = .ok (.iastore, 1) := by decide +kernel
theorem dX5_houseTold_88 : decode cX5_houseTold 88 = .ok (.dup, 1) := by decide +kernel
theorem dX5_houseTold_89 : decode cX5_houseTold 89 = .ok (.iconst 3, 1) := by decide +kernel
theorem dX5_houseTold_90 : decode cX5_houseTold 90 = .ok (.aload_n 0, 1) := by decide +kernel
theorem dX5_houseTold_91 : decode cX5_houseTold 91 = .ok (.getfield 124, 3) := by decide +kernel
theorem dX5_houseTold_94 : decode cX5_houseTold 94 = .ok (.iastore, 1) := by decide +kernel
theorem dX5_houseTold_95 : decode cX5_houseTold 95 = .ok (.dup, 1) := by decide +kernel
theorem dX5_houseTold_96 : decode cX5_houseTold 96 = .ok (.iconst 4, 1) := by decide +kernel
theorem dX5_houseTold_97 : decode cX5_houseTold 97 = .ok (.aload_n 0, 1) := by decide +kernel
theorem dX5_houseTold_98 : decode cX5_houseTold 98 = .ok (.getfield 134, 3) := by decide +kernel
theorem dX5_houseTold_101 : decode cX5_houseTold 101 = .ok (.iastore, 1) := by decide +kernel
theorem dX5_houseTold_102 : decode cX5_houseTold 102 = .ok (.dup, 1) := by decide +kernel
theorem dX5_houseTold_103 : decode cX5_houseTold 103 = .ok (.iconst 5, 1) := by decide +kernel
theorem dX5_houseTold_104 : decode cX5_houseTold 104 = .ok (.aload_n 0, 1) := by decide +kernel
theorem dX5_houseTold_105 : decode cX5_houseTold 105 = .ok (.getfield 150, 3) := by decide +kernel
theorem dX5_houseTold_108 : decode cX5_houseTold 108 = .ok (.iastore, 1) := by decide +kernel
theorem dX5_houseTold_109 : decode cX5_houseTold 109 = .ok (.astore 4, 2) := by decide +kernel
theorem dX5_houseTold_111 : decode cX5_houseTold 111 = .ok (.aload 4, 2) := by decide +kernel
theorem dX5_houseTold_113 : decode cX5_houseTold 113 = .ok (.iload_n 1, 1) := by decide +kernel
theorem dX5_houseTold_114 : decode cX5_houseTold 114 = .ok (.iaload, 1) := by decide +kernel
theorem dX5_houseTold_115 : decode cX5_houseTold 115 = .ok (.ireturn, 1) := by decide +kernel
theorem dX5_house_0 : decode cX5_house 0 = .ok (.aload_n 0, 1) := by decide +kernel
theorem dX5_house_1 : decode cX5_house 1 = .ok (.iload_n 1, 1) := by decide +kernel
theorem dX5_house_2 : decode cX5_house 2 = .ok (.iconst 0, 1) := by decide +kernel
theorem dX5_house_3 : decode cX5_house 3 = .ok (.iconst 5, 1) := by decide +kernel
theorem dX5_house_4 : decode cX5_house 4 = .ok (.invokestatic 22, 3) := by decide +kernel
theorem dX5_house_7 : decode cX5_house 7 = .ok (.ifCond .ne 7, 3) := by decide +kernel
theorem dX5_house_10 : decode cX5_house 10 = .ok (.iconst 1, 1) := by decide +kernel
theorem dX5_house_11 : decode cX5_house 11 = .ok (.goto 4, 3) := by decide +kernel
theorem dX5_house_14 : decode cX5_house 14 = .ok (.iconst 0, 1) := by decide +kernel
theorem dX5_house_15 : decode cX5_house 15 = .ok (.iconst 1, 1) := by decide +kernel
theorem dX5_house_16 : decode cX5_house 16 = .ok (.invokevirtual 72, 3) := by decide +kernel
theorem dX5_house_19 : decode cX5_house 19 = .ok (.ifCond .eq 7, 3) := by decide +kernel
theorem dX5_house_22 : decode cX5_house 22 = .ok (.iconst 0, 1) := by decide +kernel
theorem dX5_house_23 : decode cX5_house 23 = .ok (.goto 8, 3) := by decide +kernel
theorem dX5_house_26 : decode cX5_house 26 = .ok (.aload_n 0, 1) := by decide +kernel
theorem dX5_house_27 : decode cX5_house 27 = .ok (.iload_n 1, 1) := by decide +kernel
theorem dX5_house_28 : decode cX5_house 28 = .ok (.invokevirtual 153, 3) := by decide +kernel
theorem dX5_house_31 : decode cX5_house 31 = .ok (.ireturn, 1) := by decide +kernel
theorem dX5_isWhole_0 : decode cX5_isWhole 0 = .ok (.iconst 1, 1) := by decide +kernel
theorem dX5_isWhole_1 : decode cX5_isWhole 1 = .ok (.istore_n 1, 1) := by decide +kernel
theorem dX5_isWhole_2 : decode cX5_isWhole 2 = .ok (.iconst 0, 1) := by decide +kernel
theorem dX5_isWhole_3 : decode cX5_isWhole 3 = .ok (.istore_n 2, 1) := by decide +kernel
theorem dX5_isWhole_4 : decode cX5_isWhole 4 = .ok (.iload_n 2, 1) := by decide +kernel
theorem dX5_isWhole_5 : decode cX5_isWhole 5 = .ok (.bipush 9, 2) := by decide +kernel
theorem dX5_isWhole_7 : decode cX5_isWhole 7 = .ok (.if_icmp .ge 184, 3) := by decide +kernel
theorem dX5_isWhole_10 : decode cX5_isWhole 10 = .ok (.iconst 0, 1) := by decide +kernel
theorem dX5_isWhole_11 : decode cX5_isWhole 11 = .ok (.istore_n 3, 1) := by decide +kernel
theorem dX5_isWhole_12 : decode cX5_isWhole 12 = .ok (.iload_n 3, 1) := by decide +kernel
theorem dX5_isWhole_13 : decode cX5_isWhole 13 = .ok (.bipush 9, 2) := by decide +kernel
theorem dX5_isWhole_15 : decode cX5_isWhole 15 = .ok (.if_icmp .ge 170, 3) := by decide +kernel
theorem dX5_isWhole_18 : decode cX5_isWhole 18 = .ok (.iconst 0, 1) := by decide +kernel
theorem dX5_isWhole_19 : decode cX5_isWhole 19 = .ok (.istore 4, 2) := by decide +kernel
theorem dX5_isWhole_21 : decode cX5_isWhole 21 = .ok (.iload 4, 2) := by decide +kernel
theorem dX5_isWhole_23 : decode cX5_isWhole 23 = .ok (.iconst 4, 1) := by decide +kernel
theorem dX5_isWhole_24 : decode cX5_isWhole 24 = .ok (.if_icmp .ge 37, 3) := by decide +kernel
theorem dX5_isWhole_27 : decode cX5_isWhole 27 = .ok (.iload_n 1, 1) := by decide +kernel
theorem dX5_isWhole_28 : decode cX5_isWhole 28 = .ok (.aload_n 0, 1) := by decide +kernel
theorem dX5_isWhole_29 : decode cX5_isWhole 29 = .ok (.iload_n 2, 1) := by decide +kernel
theorem dX5_isWhole_30 : decode cX5_isWhole 30 = .ok (.iload_n 3, 1) := by decide +kernel
theorem dX5_isWhole_31 : decode cX5_isWhole 31 = .ok (.iload 4, 2) := by decide +kernel
theorem dX5_isWhole_33 : decode cX5_isWhole 33 = .ok (.invokevirtual 130, 3) := by decide +kernel
theorem dX5_isWhole_36 : decode cX5_isWhole 36 = .ok (.aload_n 0, 1) := by decide +kernel
theorem dX5_isWhole_37 : decode cX5_isWhole 37 = .ok (.iload_n 3, 1) := by decide +kernel
theorem dX5_isWhole_38 : decode cX5_isWhole 38 = .ok (.iload_n 2, 1) := by decide +kernel
theorem dX5_isWhole_39 : decode cX5_isWhole 39 = .ok (.iload 4, 2) := by decide +kernel
theorem dX5_isWhole_41 : decode cX5_isWhole 41 = .ok (.invokevirtual 130, 3) := by decide +kernel
theorem dX5_isWhole_44 : decode cX5_isWhole 44 = .ok (.ineg, 1) := by decide +kernel
theorem dX5_isWhole_45 : decode cX5_isWhole 45 = .ok (.if_icmp .ne 7, 3) := by decide +kernel
theorem dX5_isWhole_48 : decode cX5_isWhole 48 = .ok (.iconst 1, 1) := by decide +kernel
theorem dX5_isWhole_49 : decode cX5_isWhole 49 = .ok (.goto 4, 3) := by decide +kernel
theorem dX5_isWhole_52 : decode cX5_isWhole 52 = .ok (.iconst 0, 1) := by decide +kernel
theorem dX5_isWhole_53 : decode cX5_isWhole 53 = .ok (.iand, 1) := by decide +kernel
theorem dX5_isWhole_54 : decode cX5_isWhole 54 = .ok (.istore_n 1, 1) := by decide +kernel
theorem dX5_isWhole_55 : decode cX5_isWhole 55 = .ok (.iinc 4 1, 3) := by decide +kernel
theorem dX5_isWhole_58 : decode cX5_isWhole 58 = .ok (.goto (-37), 3) := by decide +kernel
theorem dX5_isWhole_61 : decode cX5_isWhole 61 = .ok (.iload_n 1, 1) := by decide +kernel
theorem dX5_isWhole_62 : decode cX5_isWhole 62 = .ok (.aload_n 0, 1) := by decide +kernel
theorem dX5_isWhole_63 : decode cX5_isWhole 63 = .ok (.iload_n 2, 1) := by decide +kernel
theorem dX5_isWhole_64 : decode cX5_isWhole 64 = .ok (.iload_n 3, 1) := by decide +kernel
theorem dX5_isWhole_65 : decode cX5_isWhole 65 = .ok (.iconst 0, 1) := by decide +kernel
theorem dX5_isWhole_66 : decode cX5_isWhole 66 = .ok (.invokevirtual 130, 3) := by decide +kernel
theorem dX5_isWhole_69 : decode cX5_isWhole 69 = .ok (.ifCond .ne 7, 3) := by decide +kernel
theorem dX5_isWhole_72 : decode cX5_isWhole 72 = .ok (.iconst 1, 1) := by decide +kernel
theorem dX5_isWhole_73 : decode cX5_isWhole 73 = .ok (.goto 4, 3) := by decide +kernel
theorem dX5_isWhole_76 : decode cX5_isWhole 76 = .ok (.iconst 0, 1) := by decide +kernel
theorem dX5_isWhole_77 : decode cX5_isWhole 77 = .ok (.aload_n 0, 1) := by decide +kernel
theorem dX5_isWhole_78 : decode cX5_isWhole 78 = .ok (.iload_n 2, 1) := by decide +kernel
theorem dX5_isWhole_79 : decode cX5_isWhole 79 = .ok (.iload_n 3, 1) := by decide +kernel
theorem dX5_isWhole_80 : decode cX5_isWhole 80 = .ok (.invokevirtual 141, 3) := by decide +kernel
theorem dX5_isWhole_83 : decode cX5_isWhole 83 = .ok (.if_icmp .ne 37, 3) := by decide +kernel
theorem dX5_isWhole_86 : decode cX5_isWhole 86 = .ok (.aload_n 0, 1) := by decide +kernel
theorem dX5_isWhole_87 : decode cX5_isWhole 87 = .ok (.iload_n 2, 1) := by decide +kernel
theorem dX5_isWhole_88 : decode cX5_isWhole 88 = .ok (.iload_n 3, 1) := by decide +kernel
theorem dX5_isWhole_89 : decode cX5_isWhole 89 = .ok (.invokevirtual 141, 3) := by decide +kernel
theorem dX5_isWhole_92 : decode cX5_isWhole 92 = .ok (.ifCond .eq 24, 3) := by decide +kernel
theorem dX5_isWhole_95 : decode cX5_isWhole 95 = .ok (.aload_n 0, 1) := by decide +kernel
theorem dX5_isWhole_96 : decode cX5_isWhole 96 = .ok (.getfield 11, 3) := by decide +kernel
theorem dX5_isWhole_99 : decode cX5_isWhole 99 = .ok (.iload_n 2, 1) := by decide +kernel
theorem dX5_isWhole_100 : decode cX5_isWhole 100 = .ok (.aaload, 1) := by decide +kernel
theorem dX5_isWhole_101 : decode cX5_isWhole 101 = .ok (.invokestatic 144, 3) := by decide +kernel
theorem dX5_isWhole_104 : decode cX5_isWhole 104 = .ok (.aload_n 0, 1) := by decide +kernel
theorem dX5_isWhole_105 : decode cX5_isWhole 105 = .ok (.getfield 11, 3) := by decide +kernel
theorem dX5_isWhole_108 : decode cX5_isWhole 108 = .ok (.iload_n 3, 1) := by decide +kernel
theorem dX5_isWhole_109 : decode cX5_isWhole 109 = .ok (.aaload, 1) := by decide +kernel
theorem dX5_isWhole_110 : decode cX5_isWhole 110 = .ok (.invokestatic 144, 3) := by decide +kernel
theorem dX5_isWhole_113 : decode cX5_isWhole 113 = .ok (.if_icmp .ne 7, 3) := by decide +kernel
theorem dX5_isWhole_116 : decode cX5_isWhole 116 = .ok (.iconst 1, 1) := by decide +kernel
theorem dX5_isWhole_117 : decode cX5_isWhole 117 = .ok (.goto 4, 3) := by decide +kernel
theorem dX5_isWhole_120 : decode cX5_isWhole 120 = .ok (.iconst 0, 1) := by decide +kernel
theorem dX5_isWhole_121 : decode cX5_isWhole 121 = .ok (.iand, 1) := by decide +kernel
theorem dX5_isWhole_122 : decode cX5_isWhole 122 = .ok (.istore_n 1, 1) := by decide +kernel
theorem dX5_isWhole_123 : decode cX5_isWhole 123 = .ok (.iconst 0, 1) := by decide +kernel
theorem dX5_isWhole_124 : decode cX5_isWhole 124 = .ok (.istore 4, 2) := by decide +kernel
theorem dX5_isWhole_126 : decode cX5_isWhole 126 = .ok (.iload 4, 2) := by decide +kernel
theorem dX5_isWhole_128 : decode cX5_isWhole 128 = .ok (.bipush 9, 2) := by decide +kernel
theorem dX5_isWhole_130 : decode cX5_isWhole 130 = .ok (.if_icmp .ge 49, 3) := by decide +kernel
theorem dX5_isWhole_133 : decode cX5_isWhole 133 = .ok (.iload_n 1, 1) := by decide +kernel
theorem dX5_isWhole_134 : decode cX5_isWhole 134 = .ok (.aload_n 0, 1) := by decide +kernel
theorem dX5_isWhole_135 : decode cX5_isWhole 135 = .ok (.iload_n 2, 1) := by decide +kernel
theorem dX5_isWhole_136 : decode cX5_isWhole 136 = .ok (.iload_n 3, 1) := by decide +kernel
theorem dX5_isWhole_137 : decode cX5_isWhole 137 = .ok (.iconst 0, 1) := by decide +kernel
theorem dX5_isWhole_138 : decode cX5_isWhole 138 = .ok (.invokevirtual 130, 3) := by decide +kernel
theorem dX5_isWhole_141 : decode cX5_isWhole 141 = .ok (.ifCond .ge 25, 3) := by decide +kernel
theorem dX5_isWhole_144 : decode cX5_isWhole 144 = .ok (.aload_n 0, 1) := by decide +kernel
theorem dX5_isWhole_145 : decode cX5_isWhole 145 = .ok (.iload_n 3, 1) := by decide +kernel
theorem dX5_isWhole_146 : decode cX5_isWhole 146 = .ok (.iload 4, 2) := by decide +kernel
theorem dX5_isWhole_148 : decode cX5_isWhole 148 = .ok (.iconst 0, 1) := by decide +kernel
theorem dX5_isWhole_149 : decode cX5_isWhole 149 = .ok (.invokevirtual 130, 3) := by decide +kernel
theorem dX5_isWhole_152 : decode cX5_isWhole 152 = .ok (.ifCond .ge 14, 3) := by decide +kernel
theorem dX5_isWhole_155 : decode cX5_isWhole 155 = .ok (.aload_n 0, 1) := by decide +kernel
theorem dX5_isWhole_156 : decode cX5_isWhole 156 = .ok (.iload_n 2, 1) := by decide +kernel
theorem dX5_isWhole_157 : decode cX5_isWhole 157 = .ok (.iload 4, 2) := by decide +kernel
theorem dX5_isWhole_159 : decode cX5_isWhole 159 = .ok (.iconst 0, 1) := by decide +kernel
theorem dX5_isWhole_160 : decode cX5_isWhole 160 = .ok (.invokevirtual 130, 3) := by decide +kernel
theorem dX5_isWhole_163 : decode cX5_isWhole 163 = .ok (.ifCond .ge 7, 3) := by decide +kernel
theorem dX5_isWhole_166 : decode cX5_isWhole 166 = .ok (.iconst 1, 1) := by decide +kernel
theorem dX5_isWhole_167 : decode cX5_isWhole 167 = .ok (.goto 4, 3) := by decide +kernel
theorem dX5_isWhole_170 : decode cX5_isWhole 170 = .ok (.iconst 0, 1) := by decide +kernel
theorem dX5_isWhole_171 : decode cX5_isWhole 171 = .ok (.iand, 1) := by decide +kernel
theorem dX5_isWhole_172 : decode cX5_isWhole 172 = .ok (.istore_n 1, 1) := by decide +kernel
theorem dX5_isWhole_173 : decode cX5_isWhole 173 = .ok (.iinc 4 1, 3) := by decide +kernel
theorem dX5_isWhole_176 : decode cX5_isWhole 176 = .ok (.goto (-50), 3) := by decide +kernel
theorem dX5_isWhole_179 : decode cX5_isWhole 179 = .ok (.iinc 3 1, 3) := by decide +kernel
theorem dX5_isWhole_182 : decode cX5_isWhole 182 = .ok (.goto (-170), 3) := by decide +kernel
theorem dX5_isWhole_185 : decode cX5_isWhole 185 = .ok (.iinc 2 1, 3) := by decide +kernel
theorem dX5_isWhole_188 : decode cX5_isWhole 188 = .ok (.goto (-184), 3) := by decide +kernel
theorem dX5_isWhole_191 : decode cX5_isWhole 191 = .ok (.iload_n 1, 1) := by decide +kernel
theorem dX5_isWhole_192 : decode cX5_isWhole 192 = .ok (.ireturn, 1) := by decide +kernel
theorem dX5_isSound_0 : decode cX5_isSound 0 = .ok (.aload_n 0, 1) := by decide +kernel
theorem dX5_isSound_1 : decode cX5_isSound 1 = .ok (.aload_n 0, 1) := by decide +kernel
theorem dX5_isSound_2 : decode cX5_isSound 2 = .ok (.invokevirtual 156, 3) := by decide +kernel
theorem dX5_isSound_5 : decode cX5_isSound 5 = .ok (.invokevirtual 109, 3) := by decide +kernel
theorem dX5_isSound_8 : decode cX5_isSound 8 = .ok (.ireturn, 1) := by decide +kernel
theorem dX5_add_0 : decode cX5_add 0 = .ok (.lload_n 0, 1) := by decide +kernel
theorem dX5_add_1 : decode cX5_add 1 = .ok (.ldc2_w 160, 3) := by decide +kernel
theorem dX5_add_4 : decode cX5_add 4 = .ok (.lmul, 1) := by decide +kernel
theorem dX5_add_5 : decode cX5_add 5 = .ok (.lload_n 2, 1) := by decide +kernel
theorem dX5_add_6 : decode cX5_add 6 = .ok (.ladd, 1) := by decide +kernel
theorem dX5_add_7 : decode cX5_add 7 = .ok (.lreturn, 1) := by decide +kernel
theorem dX5_digest_0 : decode cX5_digest 0 = .ok (.aload_n 0, 1) := by decide +kernel
theorem dX5_digest_1 : decode cX5_digest 1 = .ok (.iconst 0, 1) := by decide +kernel
theorem dX5_digest_2 : decode cX5_digest 2 = .ok (.putfield 14, 3) := by decide +kernel
theorem dX5_digest_5 : decode cX5_digest 5 = .ok (.ldc2_w 162, 3) := by decide +kernel
theorem dX5_digest_8 : decode cX5_digest 8 = .ok (.lstore_n 1, 1) := by decide +kernel
theorem dX5_digest_9 : decode cX5_digest 9 = .ok (.iconst 0, 1) := by decide +kernel
theorem dX5_digest_10 : decode cX5_digest 10 = .ok (.istore_n 3, 1) := by decide +kernel
theorem dX5_digest_11 : decode cX5_digest 11 = .ok (.iload_n 3, 1) := by decide +kernel
theorem dX5_digest_12 : decode cX5_digest 12 = .ok (.iconst 5, 1) := by decide +kernel
theorem dX5_digest_13 : decode cX5_digest 13 = .ok (.if_icmp .gt 20, 3) := by decide +kernel
theorem dX5_digest_16 : decode cX5_digest 16 = .ok (.lload_n 1, 1) := by decide +kernel
theorem dX5_digest_17 : decode cX5_digest 17 = .ok (.aload_n 0, 1) := by decide +kernel
theorem dX5_digest_18 : decode cX5_digest 18 = .ok (.iload_n 3, 1) := by decide +kernel
theorem dX5_digest_19 : decode cX5_digest 19 = .ok (.invokevirtual 153, 3) := by decide +kernel
theorem dX5_digest_22 : decode cX5_digest 22 = .ok (.i2l, 1) := by decide +kernel
theorem dX5_digest_23 : decode cX5_digest 23 = .ok (.invokestatic 164, 3) := by decide +kernel
theorem dX5_digest_26 : decode cX5_digest 26 = .ok (.lstore_n 1, 1) := by decide +kernel
theorem dX5_digest_27 : decode cX5_digest 27 = .ok (.iinc 3 1, 3) := by decide +kernel
theorem dX5_digest_30 : decode cX5_digest 30 = .ok (.goto (-19), 3) := by decide +kernel
theorem dX5_digest_33 : decode cX5_digest 33 = .ok (.iconst 0, 1) := by decide +kernel
theorem dX5_digest_34 : decode cX5_digest 34 = .ok (.istore_n 3, 1) := by decide +kernel
theorem dX5_digest_35 : decode cX5_digest 35 = .ok (.iload_n 3, 1) := by decide +kernel
theorem dX5_digest_36 : decode cX5_digest 36 = .ok (.bipush 9, 2) := by decide +kernel
theorem dX5_digest_38 : decode cX5_digest 38 = .ok (.if_icmp .ge 33, 3) := by decide +kernel
theorem dX5_digest_41 : decode cX5_digest 41 = .ok (.lload_n 1, 1) := by decide +kernel
theorem dX5_digest_42 : decode cX5_digest 42 = .ok (.aload_n 0, 1) := by decide +kernel
theorem dX5_digest_43 : decode cX5_digest 43 = .ok (.iload_n 3, 1) := by decide +kernel
theorem dX5_digest_44 : decode cX5_digest 44 = .ok (.invokevirtual 75, 3) := by decide +kernel
theorem dX5_digest_47 : decode cX5_digest 47 = .ok (.i2l, 1) := by decide +kernel
theorem dX5_digest_48 : decode cX5_digest 48 = .ok (.invokestatic 164, 3) := by decide +kernel
theorem dX5_digest_51 : decode cX5_digest 51 = .ok (.aload_n 0, 1) := by decide +kernel
theorem dX5_digest_52 : decode cX5_digest 52 = .ok (.getfield 11, 3) := by decide +kernel
theorem dX5_digest_55 : decode cX5_digest 55 = .ok (.iload_n 3, 1) := by decide +kernel
theorem dX5_digest_56 : decode cX5_digest 56 = .ok (.aaload, 1) := by decide +kernel
theorem dX5_digest_57 : decode cX5_digest 57 = .ok (.invokestatic 144, 3) := by decide +kernel
theorem dX5_digest_60 : decode cX5_digest 60 = .ok (.i2l, 1) := by decide +kernel
theorem dX5_digest_61 : decode cX5_digest 61 = .ok (.invokestatic 164, 3) := by decide +kernel
theorem dX5_digest_64 : decode cX5_digest 64 = .ok (.lstore_n 1, 1) := by decide +kernel
theorem dX5_digest_65 : decode cX5_digest 65 = .ok (.iinc 3 1, 3) := by decide +kernel
theorem dX5_digest_68 : decode cX5_digest 68 = .ok (.goto (-33), 3) := by decide +kernel
theorem dX5_digest_71 : decode cX5_digest 71 = .ok (.iconst 0, 1) := by decide +kernel
theorem dX5_digest_72 : decode cX5_digest 72 = .ok (.istore_n 3, 1) := by decide +kernel
theorem dX5_digest_73 : decode cX5_digest 73 = .ok (.iload_n 3, 1) := by decide +kernel
theorem dX5_digest_74 : decode cX5_digest 74 = .ok (.bipush 9, 2) := by decide +kernel
theorem dX5_digest_76 : decode cX5_digest 76 = .ok (.if_icmp .ge 55, 3) := by decide +kernel
theorem dX5_digest_79 : decode cX5_digest 79 = .ok (.iconst 0, 1) := by decide +kernel
theorem dX5_digest_80 : decode cX5_digest 80 = .ok (.istore 4, 2) := by decide +kernel
theorem dX5_digest_82 : decode cX5_digest 82 = .ok (.iload 4, 2) := by decide +kernel
theorem dX5_digest_84 : decode cX5_digest 84 = .ok (.bipush 9, 2) := by decide +kernel
theorem dX5_digest_86 : decode cX5_digest 86 = .ok (.if_icmp .ge 39, 3) := by decide +kernel
theorem dX5_digest_89 : decode cX5_digest 89 = .ok (.iconst 0, 1) := by decide +kernel
theorem dX5_digest_90 : decode cX5_digest 90 = .ok (.istore 5, 2) := by decide +kernel
theorem dX5_digest_92 : decode cX5_digest 92 = .ok (.iload 5, 2) := by decide +kernel
theorem dX5_digest_94 : decode cX5_digest 94 = .ok (.iconst 4, 1) := by decide +kernel
theorem dX5_digest_95 : decode cX5_digest 95 = .ok (.if_icmp .ge 24, 3) := by decide +kernel
theorem dX5_digest_98 : decode cX5_digest 98 = .ok (.lload_n 1, 1) := by decide +kernel
theorem dX5_digest_99 : decode cX5_digest 99 = .ok (.aload_n 0, 1) := by decide +kernel
theorem dX5_digest_100 : decode cX5_digest 100 = .ok (.iload_n 3, 1) := by decide +kernel
theorem dX5_digest_101 : decode cX5_digest 101 = .ok (.iload 4, 2) := by decide +kernel
theorem dX5_digest_103 : decode cX5_digest 103 = .ok (.iload 5, 2) := by decide +kernel
theorem dX5_digest_105 : decode cX5_digest 105 = .ok (.invokevirtual 130, 3) := by decide +kernel
theorem dX5_digest_108 : decode cX5_digest 108 = .ok (.i2l, 1) := by decide +kernel
theorem dX5_digest_109 : decode cX5_digest 109 = .ok (.invokestatic 164, 3) := by decide +kernel
theorem dX5_digest_112 : decode cX5_digest 112 = .ok (.lstore_n 1, 1) := by decide +kernel
theorem dX5_digest_113 : decode cX5_digest 113 = .ok (.iinc 5 1, 3) := by decide +kernel
theorem dX5_digest_116 : decode cX5_digest 116 = .ok (.goto (-24), 3) := by decide +kernel
theorem dX5_digest_119 : decode cX5_digest 119 = .ok (.iinc 4 1, 3) := by decide +kernel
theorem dX5_digest_122 : decode cX5_digest 122 = .ok (.goto (-40), 3) := by decide +kernel
theorem dX5_digest_125 : decode cX5_digest 125 = .ok (.iinc 3 1, 3) := by decide +kernel
theorem dX5_digest_128 : decode cX5_digest 128 = .ok (.goto (-55), 3) := by decide +kernel
theorem dX5_digest_131 : decode cX5_digest 131 = .ok (.iconst 0, 1) := by decide +kernel
theorem dX5_digest_132 : decode cX5_digest 132 = .ok (.istore_n 3, 1) := by decide +kernel
theorem dX5_digest_133 : decode cX5_digest 133 = .ok (.iload_n 3, 1) := by decide +kernel
theorem dX5_digest_134 : decode cX5_digest 134 = .ok (.iconst 3, 1) := by decide +kernel
theorem dX5_digest_135 : decode cX5_digest 135 = .ok (.if_icmp .ge 27, 3) := by decide +kernel
theorem dX5_digest_138 : decode cX5_digest 138 = .ok (.lload_n 1, 1) := by decide +kernel
theorem dX5_digest_139 : decode cX5_digest 139 = .ok (.aload_n 0, 1) := by decide +kernel
theorem dX5_digest_140 : decode cX5_digest 140 = .ok (.iload_n 3, 1) := by decide +kernel
theorem dX5_digest_141 : decode cX5_digest 141 = .ok (.iload_n 3, 1) := by decide +kernel
theorem dX5_digest_142 : decode cX5_digest 142 = .ok (.iconst 3, 1) := by decide +kernel
theorem dX5_digest_143 : decode cX5_digest 143 = .ok (.iadd, 1) := by decide +kernel
theorem dX5_digest_144 : decode cX5_digest 144 = .ok (.iload_n 3, 1) := by decide +kernel
theorem dX5_digest_145 : decode cX5_digest 145 = .ok (.bipush 6, 2) := by decide +kernel
theorem dX5_digest_147 : decode cX5_digest 147 = .ok (.iadd, 1) := by decide +kernel
theorem dX5_digest_148 : decode cX5_digest 148 = .ok (.invokevirtual 147, 3) := by decide +kernel
theorem dX5_digest_151 : decode cX5_digest 151 = .ok (.i2l, 1) := by decide +kernel
theorem dX5_digest_152 : decode cX5_digest 152 = .ok (.invokestatic 164, 3) := by decide +kernel
theorem dX5_digest_155 : decode cX5_digest 155 = .ok (.lstore_n 1, 1) := by decide +kernel
theorem dX5_digest_156 : decode cX5_digest 156 = .ok (.iinc 3 1, 3) := by decide +kernel
theorem dX5_digest_159 : decode cX5_digest 159 = .ok (.goto (-26), 3) := by decide +kernel
theorem dX5_digest_162 : decode cX5_digest 162 = .ok (.lload_n 1, 1) := by decide +kernel
theorem dX5_digest_163 : decode cX5_digest 163 = .ok (.aload_n 0, 1) := by decide +kernel
theorem dX5_digest_164 : decode cX5_digest 164 = .ok (.invokevirtual 156, 3) := by decide +kernel
theorem dX5_digest_167 : decode cX5_digest 167 = .ok (.invokestatic 49, 3) := by decide +kernel
theorem dX5_digest_170 : decode cX5_digest 170 = .ok (.i2l, 1) := by decide +kernel
theorem dX5_digest_171 : decode cX5_digest 171 = .ok (.invokestatic 164, 3) := by decide +kernel
theorem dX5_digest_174 : decode cX5_digest 174 = .ok (.lreturn, 1) := by decide +kernel
theorem dJ5_init_d00df_0 : decode cJ5_init_d00df 0 = .ok (.aload_n 0, 1) := by decide +kernel
theorem dJ5_init_d00df_1 : decode cJ5_init_d00df 1 = .ok (.invokespecial 3, 3) := by decide +kernel
theorem dJ5_init_d00df_4 : decode cJ5_init_d00df 4 = .ok (.getstatic 18, 3) := by decide +kernel
theorem dJ5_init_d00df_7 : decode cJ5_init_d00df 7 = .ok (.ifCond .eq 18, 3) := by decide +kernel
theorem dJ5_init_d00df_10 : decode cJ5_init_d00df 10 = .ok (.aload_n 0, 1) := by decide +kernel
theorem dJ5_init_d00df_11 : decode cJ5_init_d00df 11 = .ok (.iload_n 1, 1) := by decide +kernel
theorem dJ5_init_d00df_12 : decode cJ5_init_d00df 12 = .ok (.newarray .byte, 2) := by decide +kernel
theorem dJ5_init_d00df_14 : decode cJ5_init_d00df 14 = .ok (.putfield 15, 3) := by decide +kernel
theorem dJ5_init_d00df_17 : decode cJ5_init_d00df 17 = .ok (.aload_n 0, 1) := by decide +kernel
theorem dJ5_init_d00df_18 : decode cJ5_init_d00df 18 = .ok (.iconst 0, 1) := by decide +kernel
theorem dJ5_init_d00df_19 : decode cJ5_init_d00df 19 = .ok (.putfield 22, 3) := by decide +kernel
theorem dJ5_init_d00df_22 : decode cJ5_init_d00df 22 = .ok (.goto 16, 3) := by decide +kernel
theorem dJ5_init_d00df_25 : decode cJ5_init_d00df 25 = .ok (.aload_n 0, 1) := by decide +kernel
theorem dJ5_init_d00df_26 : decode cJ5_init_d00df 26 = .ok (.iload_n 1, 1) := by decide +kernel
theorem dJ5_init_d00df_27 : decode cJ5_init_d00df 27 = .ok (.invokestatic 26, 3) := by decide +kernel
theorem dJ5_init_d00df_30 : decode cJ5_init_d00df 30 = .ok (.putfield 15, 3) := by decide +kernel
theorem dJ5_init_d00df_33 : decode cJ5_init_d00df 33 = .ok (.aload_n 0, 1) := by decide +kernel
theorem dJ5_init_d00df_34 : decode cJ5_init_d00df 34 = .ok (.iconst 1, 1) := by decide +kernel
theorem dJ5_init_d00df_35 : decode cJ5_init_d00df 35 = .ok (.putfield 22, 3) := by decide +kernel
theorem dJ5_init_d00df_38 : decode cJ5_init_d00df 38 = .ok (.return_, 1) := by decide +kernel
theorem dJ5_length_8abf5_0 : decode cJ5_length_8abf5 0 = .ok (.aload_n 0, 1) := by decide +kernel
theorem dJ5_length_8abf5_1 : decode cJ5_length_8abf5 1 = .ok (.getfield 79, 3) := by decide +kernel
theorem dJ5_length_8abf5_4 : decode cJ5_length_8abf5 4 = .ok (.ireturn, 1) := by decide +kernel
theorem dJ5_ensureCapacityInternal_d00df_0 : decode cJ5_ensureCapacityInternal_d00df 0 = .ok (.aload_n 0, 1) := by decide +kernel
theorem dJ5_ensureCapacityInternal_d00df_1 : decode cJ5_ensureCapacityInternal_d00df 1 = .ok (.getfield 15, 3) := by decide +kernel
theorem dJ5_ensureCapacityInternal_d00df_4 : decode cJ5_ensureCapacityInternal_d00df 4 = .ok (.arraylength, 1) := by decide +kernel
theorem dJ5_ensureCapacityInternal_d00df_5 : decode cJ5_ensureCapacityInternal_d00df 5 = .ok (.aload_n 0, 1) := by decide +kernel
theorem dJ5_ensureCapacityInternal_d00df_6 : decode cJ5_ensureCapacityInternal_d00df 6 = .ok (.getfield 22, 3) := by decide +kernel
theorem dJ5_ensureCapacityInternal_d00df_9 : decode cJ5_ensureCapacityInternal_d00df 9 = .ok (.ishr, 1) := by decide +kernel
theorem dJ5_ensureCapacityInternal_d00df_10 : decode cJ5_ensureCapacityInternal_d00df 10 = .ok (.istore_n 2, 1) := by decide +kernel
theorem dJ5_ensureCapacityInternal_d00df_11 : decode cJ5_ensureCapacityInternal_d00df 11 = .ok (.iload_n 1, 1) := by decide +kernel
theorem dJ5_ensureCapacityInternal_d00df_12 : decode cJ5_ensureCapacityInternal_d00df 12 = .ok (.iload_n 2, 1) := by decide +kernel
theorem dJ5_ensureCapacityInternal_d00df_13 : decode cJ5_ensureCapacityInternal_d00df 13 = .ok (.isub, 1) := by decide +kernel
theorem dJ5_ensureCapacityInternal_d00df_14 : decode cJ5_ensureCapacityInternal_d00df 14 = .ok (.ifCond .le 24, 3) := by decide +kernel
theorem dJ5_ensureCapacityInternal_d00df_17 : decode cJ5_ensureCapacityInternal_d00df 17 = .ok (.aload_n 0, 1) := by decide +kernel
theorem dJ5_ensureCapacityInternal_d00df_18 : decode cJ5_ensureCapacityInternal_d00df 18 = .ok (.aload_n 0, 1) := by decide +kernel
theorem dJ5_ensureCapacityInternal_d00df_19 : decode cJ5_ensureCapacityInternal_d00df 19 = .ok (.getfield 15, 3) := by decide +kernel
theorem dJ5_ensureCapacityInternal_d00df_22 : decode cJ5_ensureCapacityInternal_d00df 22 = .ok (.aload_n 0, 1) := by decide +kernel
theorem dJ5_ensureCapacityInternal_d00df_23 : decode cJ5_ensureCapacityInternal_d00df 23 = .ok (.iload_n 1, 1) := by decide +kernel
theorem dJ5_ensureCapacityInternal_d00df_24 : decode cJ5_ensureCapacityInternal_d00df 24 = .ok (.invokevirtual 104, 3) := by decide +kernel
theorem dJ5_ensureCapacityInternal_d00df_27 : decode cJ5_ensureCapacityInternal_d00df 27 = .ok (.aload_n 0, 1) := by decide +kernel
theorem dJ5_ensureCapacityInternal_d00df_28 : decode cJ5_ensureCapacityInternal_d00df 28 = .ok (.getfield 22, 3) := by decide +kernel
theorem dJ5_ensureCapacityInternal_d00df_31 : decode cJ5_ensureCapacityInternal_d00df 31 = .ok (.ishl, 1) := by decide +kernel
theorem dJ5_ensureCapacityInternal_d00df_32 : decode cJ5_ensureCapacityInternal_d00df 32 = .ok (.invokestatic 108, 3) := by decide +kernel
theorem dJ5_ensureCapacityInternal_d00df_35 : decode cJ5_ensureCapacityInternal_d00df 35 = .ok (.putfield 15, 3) := by decide +kernel
theorem dJ5_ensureCapacityInternal_d00df_38 : decode cJ5_ensureCapacityInternal_d00df 38 = .ok (.return_, 1) := by decide +kernel
theorem dJ5_newCapacity_0f7a4_0 : decode cJ5_newCapacity_0f7a4 0 = .ok (.aload_n 0, 1) := by decide +kernel
theorem dJ5_newCapacity_0f7a4_1 : decode cJ5_newCapacity_0f7a4 1 = .ok (.getfield 15, 3) := by decide +kernel
theorem dJ5_newCapacity_0f7a4_4 : decode cJ5_newCapacity_0f7a4 4 = .ok (.arraylength, 1) := by decide +kernel
theorem dJ5_newCapacity_0f7a4_5 : decode cJ5_newCapacity_0f7a4 5 = .ok (.istore_n 2, 1) := by decide +kernel
theorem dJ5_newCapacity_0f7a4_6 : decode cJ5_newCapacity_0f7a4 6 = .ok (.iload_n 1, 1) := by decide +kernel
theorem dJ5_newCapacity_0f7a4_7 : decode cJ5_newCapacity_0f7a4 7 = .ok (.aload_n 0, 1) := by decide +kernel
theorem dJ5_newCapacity_0f7a4_8 : decode cJ5_newCapacity_0f7a4 8 = .ok (.getfield 22, 3) := by decide +kernel
theorem dJ5_newCapacity_0f7a4_11 : decode cJ5_newCapacity_0f7a4 11 = .ok (.ishl, 1) := by decide +kernel
theorem dJ5_newCapacity_0f7a4_12 : decode cJ5_newCapacity_0f7a4 12 = .ok (.istore_n 3, 1) := by decide +kernel
theorem dJ5_newCapacity_0f7a4_13 : decode cJ5_newCapacity_0f7a4 13 = .ok (.iload_n 3, 1) := by decide +kernel
theorem dJ5_newCapacity_0f7a4_14 : decode cJ5_newCapacity_0f7a4 14 = .ok (.iload_n 2, 1) := by decide +kernel
theorem dJ5_newCapacity_0f7a4_15 : decode cJ5_newCapacity_0f7a4 15 = .ok (.isub, 1) := by decide +kernel
theorem dJ5_newCapacity_0f7a4_16 : decode cJ5_newCapacity_0f7a4 16 = .ok (.istore 4, 2) := by decide +kernel
theorem dJ5_newCapacity_0f7a4_18 : decode cJ5_newCapacity_0f7a4 18 = .ok (.iload_n 2, 1) := by decide +kernel
theorem dJ5_newCapacity_0f7a4_19 : decode cJ5_newCapacity_0f7a4 19 = .ok (.iload 4, 2) := by decide +kernel
theorem dJ5_newCapacity_0f7a4_21 : decode cJ5_newCapacity_0f7a4 21 = .ok (.iload_n 2, 1) := by decide +kernel
theorem dJ5_newCapacity_0f7a4_22 : decode cJ5_newCapacity_0f7a4 22 = .ok (.iconst 2, 1) := by decide +kernel
theorem dJ5_newCapacity_0f7a4_23 : decode cJ5_newCapacity_0f7a4 23 = .ok (.aload_n 0, 1) := by decide +kernel
theorem dJ5_newCapacity_0f7a4_24 : decode cJ5_newCapacity_0f7a4 24 = .ok (.getfield 22, 3) := by decide +kernel
theorem dJ5_newCapacity_0f7a4_27 : decode cJ5_newCapacity_0f7a4 27 = .ok (.ishl, 1) := by decide +kernel
theorem dJ5_newCapacity_0f7a4_28 : decode cJ5_newCapacity_0f7a4 28 = .ok (.iadd, 1) := by decide +kernel
theorem dJ5_newCapacity_0f7a4_29 : decode cJ5_newCapacity_0f7a4 29 = .ok (.invokestatic 114, 3) := by decide +kernel
theorem dJ5_newCapacity_0f7a4_32 : decode cJ5_newCapacity_0f7a4 32 = .ok (.istore 5, 2) := by decide +kernel
theorem dJ5_newCapacity_0f7a4_34 : decode cJ5_newCapacity_0f7a4 34 = .ok (.iload 5, 2) := by decide +kernel
theorem dJ5_newCapacity_0f7a4_36 : decode cJ5_newCapacity_0f7a4 36 = .ok (.ldc 39, 2) := by decide +kernel
theorem dJ5_newCapacity_0f7a4_38 : decode cJ5_newCapacity_0f7a4 38 = .ok (.if_icmp .ne 13, 3) := by decide +kernel
theorem dJ5_newCapacity_0f7a4_41 : decode cJ5_newCapacity_0f7a4 41 = .ok (.new 120, 3) := by decide +kernel
theorem dJ5_newCapacity_0f7a4_44 : decode cJ5_newCapacity_0f7a4 44 = .ok (.dup, 1) := by decide +kernel
theorem dJ5_newCapacity_0f7a4_45 : decode cJ5_newCapacity_0f7a4 45 = .ok (.ldc 122, 2) := by decide +kernel
theorem dJ5_newCapacity_0f7a4_47 : decode cJ5_newCapacity_0f7a4 47 = .ok (.invokespecial 124, 3) := by decide +kernel
theorem dJ5_newCapacity_0f7a4_50 : decode cJ5_newCapacity_0f7a4 50 = .ok (.athrow, 1) := by decide +kernel
theorem dJ5_newCapacity_0f7a4_51 : decode cJ5_newCapacity_0f7a4 51 = .ok (.iload 5, 2) := by decide +kernel
theorem dJ5_newCapacity_0f7a4_53 : decode cJ5_newCapacity_0f7a4 53 = .ok (.aload_n 0, 1) := by decide +kernel
theorem dJ5_newCapacity_0f7a4_54 : decode cJ5_newCapacity_0f7a4 54 = .ok (.getfield 22, 3) := by decide +kernel
theorem dJ5_newCapacity_0f7a4_57 : decode cJ5_newCapacity_0f7a4 57 = .ok (.ishr, 1) := by decide +kernel
theorem dJ5_newCapacity_0f7a4_58 : decode cJ5_newCapacity_0f7a4 58 = .ok (.ireturn, 1) := by decide +kernel
theorem dJ5_inflate_da8c8_0 : decode cJ5_inflate_da8c8 0 = .ok (.aload_n 0, 1) := by decide +kernel
theorem dJ5_inflate_da8c8_1 : decode cJ5_inflate_da8c8 1 = .ok (.invokevirtual 83, 3) := by decide +kernel
theorem dJ5_inflate_da8c8_4 : decode cJ5_inflate_da8c8 4 = .ok (.ifCond .ne 4, 3) := by decide +kernel
theorem dJ5_inflate_da8c8_7 : decode cJ5_inflate_da8c8 7 = .ok (.return_, 1) := by decide +kernel
theorem dJ5_inflate_da8c8_8 : decode cJ5_inflate_da8c8 8 = .ok (.aload_n 0, 1) := by decide +kernel
theorem dJ5_inflate_da8c8_9 : decode cJ5_inflate_da8c8 9 = .ok (.getfield 15, 3) := by decide +kernel
theorem dJ5_inflate_da8c8_12 : decode cJ5_inflate_da8c8 12 = .ok (.arraylength, 1) := by decide +kernel
theorem dJ5_inflate_da8c8_13 : decode cJ5_inflate_da8c8 13 = .ok (.invokestatic 26, 3) := by decide +kernel
theorem dJ5_inflate_da8c8_16 : decode cJ5_inflate_da8c8 16 = .ok (.astore_n 1, 1) := by decide +kernel
theorem dJ5_inflate_da8c8_17 : decode cJ5_inflate_da8c8 17 = .ok (.aload_n 0, 1) := by decide +kernel
theorem dJ5_inflate_da8c8_18 : decode cJ5_inflate_da8c8 18 = .ok (.getfield 15, 3) := by decide +kernel
theorem dJ5_inflate_da8c8_21 : decode cJ5_inflate_da8c8 21 = .ok (.iconst 0, 1) := by decide +kernel
theorem dJ5_inflate_da8c8_22 : decode cJ5_inflate_da8c8 22 = .ok (.aload_n 1, 1) := by decide +kernel
theorem dJ5_inflate_da8c8_23 : decode cJ5_inflate_da8c8 23 = .ok (.iconst 0, 1) := by decide +kernel
theorem dJ5_inflate_da8c8_24 : decode cJ5_inflate_da8c8 24 = .ok (.aload_n 0, 1) := by decide +kernel
theorem dJ5_inflate_da8c8_25 : decode cJ5_inflate_da8c8 25 = .ok (.getfield 79, 3) := by decide +kernel
theorem dJ5_inflate_da8c8_28 : decode cJ5_inflate_da8c8 28 = .ok (.invokestatic 125, 3) := by decide +kernel
theorem dJ5_inflate_da8c8_31 : decode cJ5_inflate_da8c8 31 = .ok (.aload_n 0, 1) := by decide +kernel
theorem dJ5_inflate_da8c8_32 : decode cJ5_inflate_da8c8 32 = .ok (.aload_n 1, 1) := by decide +kernel
theorem dJ5_inflate_da8c8_33 : decode cJ5_inflate_da8c8 33 = .ok (.putfield 15, 3) := by decide +kernel
theorem dJ5_inflate_da8c8_36 : decode cJ5_inflate_da8c8 36 = .ok (.aload_n 0, 1) := by decide +kernel
theorem dJ5_inflate_da8c8_37 : decode cJ5_inflate_da8c8 37 = .ok (.iconst 1, 1) := by decide +kernel
theorem dJ5_inflate_da8c8_38 : decode cJ5_inflate_da8c8 38 = .ok (.putfield 22, 3) := by decide +kernel
theorem dJ5_inflate_da8c8_41 : decode cJ5_inflate_da8c8 41 = .ok (.return_, 1) := by decide +kernel
theorem dJ5_append_cf1ce_0 : decode cJ5_append_cf1ce 0 = .ok (.aload_n 1, 1) := by decide +kernel
theorem dJ5_append_cf1ce_1 : decode cJ5_append_cf1ce 1 = .ok (.ifnonnull 8, 3) := by decide +kernel
theorem dJ5_append_cf1ce_4 : decode cJ5_append_cf1ce 4 = .ok (.aload_n 0, 1) := by decide +kernel
theorem dJ5_append_cf1ce_5 : decode cJ5_append_cf1ce 5 = .ok (.invokevirtual 204, 3) := by decide +kernel
theorem dJ5_append_cf1ce_8 : decode cJ5_append_cf1ce 8 = .ok (.areturn, 1) := by decide +kernel
theorem dJ5_append_cf1ce_9 : decode cJ5_append_cf1ce 9 = .ok (.aload_n 1, 1) := by decide +kernel
theorem dJ5_append_cf1ce_10 : decode cJ5_append_cf1ce 10 = .ok (.invokevirtual 32, 3) := by decide +kernel
theorem dJ5_append_cf1ce_13 : decode cJ5_append_cf1ce 13 = .ok (.istore_n 2, 1) := by decide +kernel
theorem dJ5_append_cf1ce_14 : decode cJ5_append_cf1ce 14 = .ok (.aload_n 0, 1) := by decide +kernel
theorem dJ5_append_cf1ce_15 : decode cJ5_append_cf1ce 15 = .ok (.aload_n 0, 1) := by decide +kernel
theorem dJ5_append_cf1ce_16 : decode cJ5_append_cf1ce 16 = .ok (.getfield 79, 3) := by decide +kernel
theorem dJ5_append_cf1ce_19 : decode cJ5_append_cf1ce 19 = .ok (.iload_n 2, 1) := by decide +kernel
theorem dJ5_append_cf1ce_20 : decode cJ5_append_cf1ce 20 = .ok (.iadd, 1) := by decide +kernel
theorem dJ5_append_cf1ce_21 : decode cJ5_append_cf1ce 21 = .ok (.invokevirtual 100, 3) := by decide +kernel
theorem dJ5_append_cf1ce_24 : decode cJ5_append_cf1ce 24 = .ok (.aload_n 0, 1) := by decide +kernel
theorem dJ5_append_cf1ce_25 : decode cJ5_append_cf1ce 25 = .ok (.aload_n 0, 1) := by decide +kernel
theorem dJ5_append_cf1ce_26 : decode cJ5_append_cf1ce 26 = .ok (.getfield 79, 3) := by decide +kernel
theorem dJ5_append_cf1ce_29 : decode cJ5_append_cf1ce 29 = .ok (.aload_n 1, 1) := by decide +kernel
theorem dJ5_append_cf1ce_30 : decode cJ5_append_cf1ce 30 = .ok (.invokevirtual 208, 3) := by decide +kernel
theorem dJ5_append_cf1ce_33 : decode cJ5_append_cf1ce 33 = .ok (.aload_n 0, 1) := by decide +kernel
theorem dJ5_append_cf1ce_34 : decode cJ5_append_cf1ce 34 = .ok (.dup, 1) := by decide +kernel
theorem dJ5_append_cf1ce_35 : decode cJ5_append_cf1ce 35 = .ok (.getfield 79, 3) := by decide +kernel
theorem dJ5_append_cf1ce_38 : decode cJ5_append_cf1ce 38 = .ok (.iload_n 2, 1) := by decide +kernel
theorem dJ5_append_cf1ce_39 : decode cJ5_append_cf1ce 39 = .ok (.iadd, 1) := by decide +kernel
theorem dJ5_append_cf1ce_40 : decode cJ5_append_cf1ce 40 = .ok (.putfield 79, 3) := by decide +kernel
theorem dJ5_append_cf1ce_43 : decode cJ5_append_cf1ce 43 = .ok (.aload_n 0, 1) := by decide +kernel
theorem dJ5_append_cf1ce_44 : decode cJ5_append_cf1ce 44 = .ok (.areturn, 1) := by decide +kernel
theorem dJ5_appendNull_278bc_0 : decode cJ5_appendNull_278bc 0 = .ok (.aload_n 0, 1) := by decide +kernel
theorem dJ5_appendNull_278bc_1 : decode cJ5_appendNull_278bc 1 = .ok (.aload_n 0, 1) := by decide +kernel
theorem dJ5_appendNull_278bc_2 : decode cJ5_appendNull_278bc 2 = .ok (.getfield 79, 3) := by decide +kernel
theorem dJ5_appendNull_278bc_5 : decode cJ5_appendNull_278bc 5 = .ok (.iconst 4, 1) := by decide +kernel
theorem dJ5_appendNull_278bc_6 : decode cJ5_appendNull_278bc 6 = .ok (.iadd, 1) := by decide +kernel
theorem dJ5_appendNull_278bc_7 : decode cJ5_appendNull_278bc 7 = .ok (.invokevirtual 100, 3) := by decide +kernel
theorem dJ5_appendNull_278bc_10 : decode cJ5_appendNull_278bc 10 = .ok (.aload_n 0, 1) := by decide +kernel
theorem dJ5_appendNull_278bc_11 : decode cJ5_appendNull_278bc 11 = .ok (.getfield 79, 3) := by decide +kernel
theorem dJ5_appendNull_278bc_14 : decode cJ5_appendNull_278bc 14 = .ok (.istore_n 1, 1) := by decide +kernel
theorem dJ5_appendNull_278bc_15 : decode cJ5_appendNull_278bc 15 = .ok (.aload_n 0, 1) := by decide +kernel
theorem dJ5_appendNull_278bc_16 : decode cJ5_appendNull_278bc 16 = .ok (.getfield 15, 3) := by decide +kernel
theorem dJ5_appendNull_278bc_19 : decode cJ5_appendNull_278bc 19 = .ok (.astore_n 2, 1) := by decide +kernel
theorem dJ5_appendNull_278bc_20 : decode cJ5_appendNull_278bc 20 = .ok (.aload_n 0, 1) := by decide +kernel
theorem dJ5_appendNull_278bc_21 : decode cJ5_appendNull_278bc 21 = .ok (.invokevirtual 83, 3) := by decide +kernel
theorem dJ5_appendNull_278bc_24 : decode cJ5_appendNull_278bc 24 = .ok (.ifCond .eq 38, 3) := by decide +kernel
theorem dJ5_appendNull_278bc_27 : decode cJ5_appendNull_278bc 27 = .ok (.aload_n 2, 1) := by decide +kernel
theorem dJ5_appendNull_278bc_28 : decode cJ5_appendNull_278bc 28 = .ok (.iload_n 1, 1) := by decide +kernel
theorem dJ5_appendNull_278bc_29 : decode cJ5_appendNull_278bc 29 = .ok (.iinc 1 1, 3) := by decide +kernel
theorem dJ5_appendNull_278bc_32 : decode cJ5_appendNull_278bc 32 = .ok (.bipush 110, 2) := by decide +kernel
theorem dJ5_appendNull_278bc_34 : decode cJ5_appendNull_278bc 34 = .ok (.bastore, 1) := by decide +kernel
theorem dJ5_appendNull_278bc_35 : decode cJ5_appendNull_278bc 35 = .ok (.aload_n 2, 1) := by decide +kernel
theorem dJ5_appendNull_278bc_36 : decode cJ5_appendNull_278bc 36 = .ok (.iload_n 1, 1) := by decide +kernel
theorem dJ5_appendNull_278bc_37 : decode cJ5_appendNull_278bc 37 = .ok (.iinc 1 1, 3) := by decide +kernel
theorem dJ5_appendNull_278bc_40 : decode cJ5_appendNull_278bc 40 = .ok (.bipush 117, 2) := by decide +kernel
theorem dJ5_appendNull_278bc_42 : decode cJ5_appendNull_278bc 42 = .ok (.bastore, 1) := by decide +kernel
theorem dJ5_appendNull_278bc_43 : decode cJ5_appendNull_278bc 43 = .ok (.aload_n 2, 1) := by decide +kernel
theorem dJ5_appendNull_278bc_44 : decode cJ5_appendNull_278bc 44 = .ok (.iload_n 1, 1) := by decide +kernel
theorem dJ5_appendNull_278bc_45 : decode cJ5_appendNull_278bc 45 = .ok (.iinc 1 1, 3) := by decide +kernel
theorem dJ5_appendNull_278bc_48 : decode cJ5_appendNull_278bc 48 = .ok (.bipush 108, 2) := by decide +kernel
theorem dJ5_appendNull_278bc_50 : decode cJ5_appendNull_278bc 50 = .ok (.bastore, 1) := by decide +kernel
theorem dJ5_appendNull_278bc_51 : decode cJ5_appendNull_278bc 51 = .ok (.aload_n 2, 1) := by decide +kernel
theorem dJ5_appendNull_278bc_52 : decode cJ5_appendNull_278bc 52 = .ok (.iload_n 1, 1) := by decide +kernel
theorem dJ5_appendNull_278bc_53 : decode cJ5_appendNull_278bc 53 = .ok (.iinc 1 1, 3) := by decide +kernel
theorem dJ5_appendNull_278bc_56 : decode cJ5_appendNull_278bc 56 = .ok (.bipush 108, 2) := by decide +kernel
theorem dJ5_appendNull_278bc_58 : decode cJ5_appendNull_278bc 58 = .ok (.bastore, 1) := by decide +kernel
theorem dJ5_appendNull_278bc_59 : decode cJ5_appendNull_278bc 59 = .ok (.goto 17, 3) := by decide +kernel
theorem dJ5_appendNull_278bc_62 : decode cJ5_appendNull_278bc 62 = .ok (.aload_n 2, 1) := by decide +kernel
theorem dJ5_appendNull_278bc_63 : decode cJ5_appendNull_278bc 63 = .ok (.iload_n 1, 1) := by decide +kernel
theorem dJ5_appendNull_278bc_64 : decode cJ5_appendNull_278bc 64 = .ok (.bipush 110, 2) := by decide +kernel
theorem dJ5_appendNull_278bc_66 : decode cJ5_appendNull_278bc 66 = .ok (.bipush 117, 2) := by decide +kernel
theorem dJ5_appendNull_278bc_68 : decode cJ5_appendNull_278bc 68 = .ok (.bipush 108, 2) := by decide +kernel
theorem dJ5_appendNull_278bc_70 : decode cJ5_appendNull_278bc 70 = .ok (.bipush 108, 2) := by decide +kernel
theorem dJ5_appendNull_278bc_72 : decode cJ5_appendNull_278bc 72 = .ok (.invokestatic 226, 3) := by decide +kernel
theorem dJ5_appendNull_278bc_75 : decode cJ5_appendNull_278bc 75 = .ok (.istore_n 1, 1) := by decide +kernel
theorem dJ5_appendNull_278bc_76 : decode cJ5_appendNull_278bc 76 = .ok (.aload_n 0, 1) := by decide +kernel
theorem dJ5_appendNull_278bc_77 : decode cJ5_appendNull_278bc 77 = .ok (.iload_n 1, 1) := by decide +kernel
theorem dJ5_appendNull_278bc_78 : decode cJ5_appendNull_278bc 78 = .ok (.putfield 79, 3) := by decide +kernel
theorem dJ5_appendNull_278bc_81 : decode cJ5_appendNull_278bc 81 = .ok (.aload_n 0, 1) := by decide +kernel
theorem dJ5_appendNull_278bc_82 : decode cJ5_appendNull_278bc 82 = .ok (.areturn, 1) := by decide +kernel
theorem dJ5_append_3fe6f_0 : decode cJ5_append_3fe6f 0 = .ok (.aload_n 0, 1) := by decide +kernel
theorem dJ5_append_3fe6f_1 : decode cJ5_append_3fe6f 1 = .ok (.aload_n 0, 1) := by decide +kernel
theorem dJ5_append_3fe6f_2 : decode cJ5_append_3fe6f 2 = .ok (.getfield 79, 3) := by decide +kernel
theorem dJ5_append_3fe6f_5 : decode cJ5_append_3fe6f 5 = .ok (.iconst 1, 1) := by decide +kernel
theorem dJ5_append_3fe6f_6 : decode cJ5_append_3fe6f 6 = .ok (.iadd, 1) := by decide +kernel
theorem dJ5_append_3fe6f_7 : decode cJ5_append_3fe6f 7 = .ok (.invokevirtual 100, 3) := by decide +kernel
theorem dJ5_append_3fe6f_10 : decode cJ5_append_3fe6f 10 = .ok (.aload_n 0, 1) := by decide +kernel
theorem dJ5_append_3fe6f_11 : decode cJ5_append_3fe6f 11 = .ok (.invokevirtual 83, 3) := by decide +kernel
theorem dJ5_append_3fe6f_14 : decode cJ5_append_3fe6f 14 = .ok (.ifCond .eq 31, 3) := by decide +kernel
theorem dJ5_append_3fe6f_17 : decode cJ5_append_3fe6f 17 = .ok (.iload_n 1, 1) := by decide +kernel
theorem dJ5_append_3fe6f_18 : decode cJ5_append_3fe6f 18 = .ok (.invokestatic 191, 3) := by decide +kernel
theorem dJ5_append_3fe6f_21 : decode cJ5_append_3fe6f 21 = .ok (.ifCond .eq 24, 3) := by decide +kernel
theorem dJ5_append_3fe6f_24 : decode cJ5_append_3fe6f 24 = .ok (.aload_n 0, 1) := by decide +kernel
theorem dJ5_append_3fe6f_25 : decode cJ5_append_3fe6f 25 = .ok (.getfield 15, 3) := by decide +kernel
theorem dJ5_append_3fe6f_28 : decode cJ5_append_3fe6f 28 = .ok (.aload_n 0, 1) := by decide +kernel
theorem dJ5_append_3fe6f_29 : decode cJ5_append_3fe6f 29 = .ok (.dup, 1) := by decide +kernel
theorem dJ5_append_3fe6f_30 : decode cJ5_append_3fe6f 30 = .ok (.getfield 79, 3) := by decide +kernel
theorem dJ5_append_3fe6f_33 : decode cJ5_append_3fe6f 33 = .ok (.dup_x1, 1) := by decide +kernel
theorem dJ5_append_3fe6f_34 : decode cJ5_append_3fe6f 34 = .ok (.iconst 1, 1) := by decide +kernel
theorem dJ5_append_3fe6f_35 : decode cJ5_append_3fe6f 35 = .ok (.iadd, 1) := by decide +kernel
theorem dJ5_append_3fe6f_36 : decode cJ5_append_3fe6f 36 = .ok (.putfield 79, 3) := by decide +kernel
theorem dJ5_append_3fe6f_39 : decode cJ5_append_3fe6f 39 = .ok (.iload_n 1, 1) := by decide +kernel
theorem dJ5_append_3fe6f_40 : decode cJ5_append_3fe6f 40 = .ok (.i2b, 1) := by decide +kernel
theorem dJ5_append_3fe6f_41 : decode cJ5_append_3fe6f 41 = .ok (.bastore, 1) := by decide +kernel
theorem dJ5_append_3fe6f_42 : decode cJ5_append_3fe6f 42 = .ok (.goto 33, 3) := by decide +kernel
theorem dJ5_append_3fe6f_45 : decode cJ5_append_3fe6f 45 = .ok (.aload_n 0, 1) := by decide +kernel
theorem dJ5_append_3fe6f_46 : decode cJ5_append_3fe6f 46 = .ok (.invokevirtual 83, 3) := by decide +kernel
theorem dJ5_append_3fe6f_49 : decode cJ5_append_3fe6f 49 = .ok (.ifCond .eq 7, 3) := by decide +kernel
theorem dJ5_append_3fe6f_52 : decode cJ5_append_3fe6f 52 = .ok (.aload_n 0, 1) := by decide +kernel
theorem dJ5_append_3fe6f_53 : decode cJ5_append_3fe6f 53 = .ok (.invokevirtual 195, 3) := by decide +kernel
theorem dJ5_append_3fe6f_56 : decode cJ5_append_3fe6f 56 = .ok (.aload_n 0, 1) := by decide +kernel
theorem dJ5_append_3fe6f_57 : decode cJ5_append_3fe6f 57 = .ok (.getfield 15, 3) := by decide +kernel
theorem dJ5_append_3fe6f_60 : decode cJ5_append_3fe6f 60 = .ok (.aload_n 0, 1) := by decide +kernel
theorem dJ5_append_3fe6f_61 : decode cJ5_append_3fe6f 61 = .ok (.dup, 1) := by decide +kernel
theorem dJ5_append_3fe6f_62 : decode cJ5_append_3fe6f 62 = .ok (.getfield 79, 3) := by decide +kernel
theorem dJ5_append_3fe6f_65 : decode cJ5_append_3fe6f 65 = .ok (.dup_x1, 1) := by decide +kernel
theorem dJ5_append_3fe6f_66 : decode cJ5_append_3fe6f 66 = .ok (.iconst 1, 1) := by decide +kernel
theorem dJ5_append_3fe6f_67 : decode cJ5_append_3fe6f 67 = .ok (.iadd, 1) := by decide +kernel
theorem dJ5_append_3fe6f_68 : decode cJ5_append_3fe6f 68 = .ok (.putfield 79, 3) := by decide +kernel
theorem dJ5_append_3fe6f_71 : decode cJ5_append_3fe6f 71 = .ok (.iload_n 1, 1) := by decide +kernel
theorem dJ5_append_3fe6f_72 : decode cJ5_append_3fe6f 72 = .ok (.invokestatic 197, 3) := by decide +kernel
theorem dJ5_append_3fe6f_75 : decode cJ5_append_3fe6f 75 = .ok (.aload_n 0, 1) := by decide +kernel
theorem dJ5_append_3fe6f_76 : decode cJ5_append_3fe6f 76 = .ok (.areturn, 1) := by decide +kernel
theorem dJ5_append_c97b9_0 : decode cJ5_append_c97b9 0 = .ok (.aload_n 0, 1) := by decide +kernel
theorem dJ5_append_c97b9_1 : decode cJ5_append_c97b9 1 = .ok (.getfield 79, 3) := by decide +kernel
theorem dJ5_append_c97b9_4 : decode cJ5_append_c97b9 4 = .ok (.istore_n 2, 1) := by decide +kernel
theorem dJ5_append_c97b9_5 : decode cJ5_append_c97b9 5 = .ok (.iload_n 2, 1) := by decide +kernel
theorem dJ5_append_c97b9_6 : decode cJ5_append_c97b9 6 = .ok (.iload_n 1, 1) := by decide +kernel
theorem dJ5_append_c97b9_7 : decode cJ5_append_c97b9 7 = .ok (.invokestatic 245, 3) := by decide +kernel
theorem dJ5_append_c97b9_10 : decode cJ5_append_c97b9 10 = .ok (.iadd, 1) := by decide +kernel
theorem dJ5_append_c97b9_11 : decode cJ5_append_c97b9 11 = .ok (.istore_n 3, 1) := by decide +kernel
theorem dJ5_append_c97b9_12 : decode cJ5_append_c97b9 12 = .ok (.aload_n 0, 1) := by decide +kernel
theorem dJ5_append_c97b9_13 : decode cJ5_append_c97b9 13 = .ok (.iload_n 3, 1) := by decide +kernel
theorem dJ5_append_c97b9_14 : decode cJ5_append_c97b9 14 = .ok (.invokevirtual 100, 3) := by decide +kernel
theorem dJ5_append_c97b9_17 : decode cJ5_append_c97b9 17 = .ok (.aload_n 0, 1) := by decide +kernel
theorem dJ5_append_c97b9_18 : decode cJ5_append_c97b9 18 = .ok (.invokevirtual 83, 3) := by decide +kernel
theorem dJ5_append_c97b9_21 : decode cJ5_append_c97b9 21 = .ok (.ifCond .eq 16, 3) := by decide +kernel
theorem dJ5_append_c97b9_24 : decode cJ5_append_c97b9 24 = .ok (.iload_n 1, 1) := by decide +kernel
theorem dJ5_append_c97b9_25 : decode cJ5_append_c97b9 25 = .ok (.iload_n 3, 1) := by decide +kernel
theorem dJ5_append_c97b9_26 : decode cJ5_append_c97b9 26 = .ok (.aload_n 0, 1) := by decide +kernel
theorem dJ5_append_c97b9_27 : decode cJ5_append_c97b9 27 = .ok (.getfield 15, 3) := by decide +kernel
theorem dJ5_append_c97b9_30 : decode cJ5_append_c97b9 30 = .ok (.invokestatic 248, 3) := by decide +kernel
theorem dJ5_append_c97b9_33 : decode cJ5_append_c97b9 33 = .ok (.pop, 1) := by decide +kernel
theorem dJ5_append_c97b9_34 : decode cJ5_append_c97b9 34 = .ok (.goto 14, 3) := by decide +kernel
theorem dJ5_append_c97b9_37 : decode cJ5_append_c97b9 37 = .ok (.iload_n 1, 1) := by decide +kernel
theorem dJ5_append_c97b9_38 : decode cJ5_append_c97b9 38 = .ok (.iload_n 2, 1) := by decide +kernel
theorem dJ5_append_c97b9_39 : decode cJ5_append_c97b9 39 = .ok (.iload_n 3, 1) := by decide +kernel
theorem dJ5_append_c97b9_40 : decode cJ5_append_c97b9 40 = .ok (.aload_n 0, 1) := by decide +kernel
theorem dJ5_append_c97b9_41 : decode cJ5_append_c97b9 41 = .ok (.getfield 15, 3) := by decide +kernel
theorem dJ5_append_c97b9_44 : decode cJ5_append_c97b9 44 = .ok (.invokestatic 251, 3) := by decide +kernel
theorem dJ5_append_c97b9_47 : decode cJ5_append_c97b9 47 = .ok (.pop, 1) := by decide +kernel
theorem dJ5_append_c97b9_48 : decode cJ5_append_c97b9 48 = .ok (.aload_n 0, 1) := by decide +kernel
theorem dJ5_append_c97b9_49 : decode cJ5_append_c97b9 49 = .ok (.iload_n 3, 1) := by decide +kernel
theorem dJ5_append_c97b9_50 : decode cJ5_append_c97b9 50 = .ok (.putfield 79, 3) := by decide +kernel
theorem dJ5_append_c97b9_53 : decode cJ5_append_c97b9 53 = .ok (.aload_n 0, 1) := by decide +kernel
theorem dJ5_append_c97b9_54 : decode cJ5_append_c97b9 54 = .ok (.areturn, 1) := by decide +kernel
theorem dJ5_getValue_6d5f1_0 : decode cJ5_getValue_6d5f1 0 = .ok (.aload_n 0, 1) := by decide +kernel
theorem dJ5_getValue_6d5f1_1 : decode cJ5_getValue_6d5f1 1 = .ok (.getfield 15, 3) := by decide +kernel
theorem dJ5_getValue_6d5f1_4 : decode cJ5_getValue_6d5f1 4 = .ok (.areturn, 1) := by decide +kernel
theorem dJ5_isLatin1_aae02_0 : decode cJ5_isLatin1_aae02 0 = .ok (.getstatic 18, 3) := by decide +kernel
theorem dJ5_isLatin1_aae02_3 : decode cJ5_isLatin1_aae02 3 = .ok (.ifCond .eq 14, 3) := by decide +kernel
theorem dJ5_isLatin1_aae02_6 : decode cJ5_isLatin1_aae02 6 = .ok (.aload_n 0, 1) := by decide +kernel
theorem dJ5_isLatin1_aae02_7 : decode cJ5_isLatin1_aae02 7 = .ok (.getfield 22, 3) := by decide +kernel
theorem dJ5_isLatin1_aae02_10 : decode cJ5_isLatin1_aae02 10 = .ok (.ifCond .ne 7, 3) := by decide +kernel
theorem dJ5_isLatin1_aae02_13 : decode cJ5_isLatin1_aae02 13 = .ok (.iconst 1, 1) := by decide +kernel
theorem dJ5_isLatin1_aae02_14 : decode cJ5_isLatin1_aae02 14 = .ok (.goto 4, 3) := by decide +kernel
theorem dJ5_isLatin1_aae02_17 : decode cJ5_isLatin1_aae02 17 = .ok (.iconst 0, 1) := by decide +kernel
theorem dJ5_isLatin1_aae02_18 : decode cJ5_isLatin1_aae02 18 = .ok (.ireturn, 1) := by decide +kernel
theorem dJ5_inflateIfNeededFor_a7421_0 : decode cJ5_inflateIfNeededFor_a7421 0 = .ok (.getstatic 18, 3) := by decide +kernel
theorem dJ5_inflateIfNeededFor_a7421_3 : decode cJ5_inflateIfNeededFor_a7421 3 = .ok (.ifCond .eq 18, 3) := by decide +kernel
theorem dJ5_inflateIfNeededFor_a7421_6 : decode cJ5_inflateIfNeededFor_a7421 6 = .ok (.aload_n 0, 1) := by decide +kernel
theorem dJ5_inflateIfNeededFor_a7421_7 : decode cJ5_inflateIfNeededFor_a7421 7 = .ok (.getfield 22, 3) := by decide +kernel
theorem dJ5_inflateIfNeededFor_a7421_10 : decode cJ5_inflateIfNeededFor_a7421 10 = .ok (.aload_n 1, 1) := by decide +kernel
theorem dJ5_inflateIfNeededFor_a7421_11 : decode cJ5_inflateIfNeededFor_a7421 11 = .ok (.invokevirtual 40, 3) := by decide +kernel
theorem dJ5_inflateIfNeededFor_a7421_14 : decode cJ5_inflateIfNeededFor_a7421 14 = .ok (.if_icmp .eq 7, 3) := by decide +kernel
theorem dJ5_inflateIfNeededFor_a7421_17 : decode cJ5_inflateIfNeededFor_a7421 17 = .ok (.aload_n 0, 1) := by decide +kernel
theorem dJ5_inflateIfNeededFor_a7421_18 : decode cJ5_inflateIfNeededFor_a7421 18 = .ok (.invokevirtual 195, 3) := by decide +kernel
theorem dJ5_inflateIfNeededFor_a7421_21 : decode cJ5_inflateIfNeededFor_a7421 21 = .ok (.return_, 1) := by decide +kernel
theorem dJ5_putStringAt_47b60_0 : decode cJ5_putStringAt_47b60 0 = .ok (.aload_n 0, 1) := by decide +kernel
theorem dJ5_putStringAt_47b60_1 : decode cJ5_putStringAt_47b60 1 = .ok (.aload_n 2, 1) := by decide +kernel
theorem dJ5_putStringAt_47b60_2 : decode cJ5_putStringAt_47b60 2 = .ok (.invokevirtual 397, 3) := by decide +kernel
theorem dJ5_putStringAt_47b60_5 : decode cJ5_putStringAt_47b60 5 = .ok (.aload_n 2, 1) := by decide +kernel
theorem dJ5_putStringAt_47b60_6 : decode cJ5_putStringAt_47b60 6 = .ok (.aload_n 0, 1) := by decide +kernel
theorem dJ5_putStringAt_47b60_7 : decode cJ5_putStringAt_47b60 7 = .ok (.getfield 15, 3) := by decide +kernel
theorem dJ5_putStringAt_47b60_10 : decode cJ5_putStringAt_47b60 10 = .ok (.iload_n 1, 1) := by decide +kernel
theorem dJ5_putStringAt_47b60_11 : decode cJ5_putStringAt_47b60 11 = .ok (.aload_n 0, 1) := by decide +kernel
theorem dJ5_putStringAt_47b60_12 : decode cJ5_putStringAt_47b60 12 = .ok (.getfield 22, 3) := by decide +kernel
theorem dJ5_putStringAt_47b60_15 : decode cJ5_putStringAt_47b60 15 = .ok (.invokevirtual 399, 3) := by decide +kernel
theorem dJ5_putStringAt_47b60_18 : decode cJ5_putStringAt_47b60 18 = .ok (.return_, 1) := by decide +kernel
theorem dJ6_getChars_ba4f3_0 : decode cJ6_getChars_ba4f3 0 = .ok (.iload_n 1, 1) := by decide +kernel
theorem dJ6_getChars_ba4f3_1 : decode cJ6_getChars_ba4f3 1 = .ok (.istore 5, 2) := by decide +kernel
theorem dJ6_getChars_ba4f3_3 : decode cJ6_getChars_ba4f3 3 = .ok (.iload_n 0, 1) := by decide +kernel
theorem dJ6_getChars_ba4f3_4 : decode cJ6_getChars_ba4f3 4 = .ok (.ifCond .ge 7, 3) := by decide +kernel
theorem dJ6_getChars_ba4f3_7 : decode cJ6_getChars_ba4f3 7 = .ok (.iconst 1, 1) := by decide +kernel
theorem dJ6_getChars_ba4f3_8 : decode cJ6_getChars_ba4f3 8 = .ok (.goto 4, 3) := by decide +kernel
theorem dJ6_getChars_ba4f3_11 : decode cJ6_getChars_ba4f3 11 = .ok (.iconst 0, 1) := by decide +kernel
theorem dJ6_getChars_ba4f3_12 : decode cJ6_getChars_ba4f3 12 = .ok (.istore 6, 2) := by decide +kernel
theorem dJ6_getChars_ba4f3_14 : decode cJ6_getChars_ba4f3 14 = .ok (.iload 6, 2) := by decide +kernel
theorem dJ6_getChars_ba4f3_16 : decode cJ6_getChars_ba4f3 16 = .ok (.ifCond .ne 6, 3) := by decide +kernel
theorem dJ6_getChars_ba4f3_19 : decode cJ6_getChars_ba4f3 19 = .ok (.iload_n 0, 1) := by decide +kernel
theorem dJ6_getChars_ba4f3_20 : decode cJ6_getChars_ba4f3 20 = .ok (.ineg, 1) := by decide +kernel
theorem dJ6_getChars_ba4f3_21 : decode cJ6_getChars_ba4f3 21 = .ok (.istore_n 0, 1) := by decide +kernel
theorem dJ6_getChars_ba4f3_22 : decode cJ6_getChars_ba4f3 22 = .ok (.iload_n 0, 1) := by decide +kernel
theorem dJ6_getChars_ba4f3_23 : decode cJ6_getChars_ba4f3 23 = .ok (.bipush (-100), 2) := by decide +kernel
theorem dJ6_getChars_ba4f3_25 : decode cJ6_getChars_ba4f3 25 = .ok (.if_icmp .gt 47, 3) := by decide +kernel
theorem dJ6_getChars_ba4f3_28 : decode cJ6_getChars_ba4f3 28 = .ok (.iload_n 0, 1) := by decide +kernel
theorem dJ6_getChars_ba4f3_29 : decode cJ6_getChars_ba4f3 29 = .ok (.bipush 100, 2) := by decide +kernel
theorem dJ6_getChars_ba4f3_31 : decode cJ6_getChars_ba4f3 31 = .ok (.idiv, 1) := by decide +kernel
theorem dJ6_getChars_ba4f3_32 : decode cJ6_getChars_ba4f3 32 = .ok (.istore_n 3, 1) := by decide +kernel
theorem dJ6_getChars_ba4f3_33 : decode cJ6_getChars_ba4f3 33 = .ok (.iload_n 3, 1) := by decide +kernel
theorem dJ6_getChars_ba4f3_34 : decode cJ6_getChars_ba4f3 34 = .ok (.bipush 100, 2) := by decide +kernel
theorem dJ6_getChars_ba4f3_36 : decode cJ6_getChars_ba4f3 36 = .ok (.imul, 1) := by decide +kernel
theorem dJ6_getChars_ba4f3_37 : decode cJ6_getChars_ba4f3 37 = .ok (.iload_n 0, 1) := by decide +kernel
theorem dJ6_getChars_ba4f3_38 : decode cJ6_getChars_ba4f3 38 = .ok (.isub, 1) := by decide +kernel
theorem dJ6_getChars_ba4f3_39 : decode cJ6_getChars_ba4f3 39 = .ok (.istore 4, 2) := by decide +kernel
theorem dJ6_getChars_ba4f3_41 : decode cJ6_getChars_ba4f3 41 = .ok (.iload_n 3, 1) := by decide +kernel
theorem dJ6_getChars_ba4f3_42 : decode cJ6_getChars_ba4f3 42 = .ok (.istore_n 0, 1) := by decide +kernel
theorem dJ6_getChars_ba4f3_43 : decode cJ6_getChars_ba4f3 43 = .ok (.aload_n 2, 1) := by decide +kernel
theorem dJ6_getChars_ba4f3_44 : decode cJ6_getChars_ba4f3 44 = .ok (.iinc 5 (-1), 3) := by decide +kernel
theorem dJ6_getChars_ba4f3_47 : decode cJ6_getChars_ba4f3 47 = .ok (.iload 5, 2) := by decide +kernel
theorem dJ6_getChars_ba4f3_49 : decode cJ6_getChars_ba4f3 49 = .ok (.getstatic 83, 3) := by decide +kernel
theorem dJ6_getChars_ba4f3_52 : decode cJ6_getChars_ba4f3 52 = .ok (.iload 4, 2) := by decide +kernel
theorem dJ6_getChars_ba4f3_54 : decode cJ6_getChars_ba4f3 54 = .ok (.baload, 1) := by decide +kernel
theorem dJ6_getChars_ba4f3_55 : decode cJ6_getChars_ba4f3 55 = .ok (.bastore, 1) := by decide +kernel
theorem dJ6_getChars_ba4f3_56 : decode cJ6_getChars_ba4f3 56 = .ok (.aload_n 2, 1) := by decide +kernel
theorem dJ6_getChars_ba4f3_57 : decode cJ6_getChars_ba4f3 57 = .ok (.iinc 5 (-1), 3) := by decide +kernel
theorem dJ6_getChars_ba4f3_60 : decode cJ6_getChars_ba4f3 60 = .ok (.iload 5, 2) := by decide +kernel
theorem dJ6_getChars_ba4f3_62 : decode cJ6_getChars_ba4f3 62 = .ok (.getstatic 87, 3) := by decide +kernel
theorem dJ6_getChars_ba4f3_65 : decode cJ6_getChars_ba4f3 65 = .ok (.iload 4, 2) := by decide +kernel
theorem dJ6_getChars_ba4f3_67 : decode cJ6_getChars_ba4f3 67 = .ok (.baload, 1) := by decide +kernel
theorem dJ6_getChars_ba4f3_68 : decode cJ6_getChars_ba4f3 68 = .ok (.bastore, 1) := by decide +kernel
theorem dJ6_getChars_ba4f3_69 : decode cJ6_getChars_ba4f3 69 = .ok (.goto (-47), 3) := by decide +kernel
theorem dJ6_getChars_ba4f3_72 : decode cJ6_getChars_ba4f3 72 = .ok (.aload_n 2, 1) := by decide +kernel
theorem dJ6_getChars_ba4f3_73 : decode cJ6_getChars_ba4f3 73 = .ok (.iinc 5 (-1), 3) := by decide +kernel
theorem dJ6_getChars_ba4f3_76 : decode cJ6_getChars_ba4f3 76 = .ok (.iload 5, 2) := by decide +kernel
theorem dJ6_getChars_ba4f3_78 : decode cJ6_getChars_ba4f3 78 = .ok (.getstatic 83, 3) := by decide +kernel
theorem dJ6_getChars_ba4f3_81 : decode cJ6_getChars_ba4f3 81 = .ok (.iload_n 0, 1) := by decide +kernel
theorem dJ6_getChars_ba4f3_82 : decode cJ6_getChars_ba4f3 82 = .ok (.ineg, 1) := by decide +kernel
theorem dJ6_getChars_ba4f3_83 : decode cJ6_getChars_ba4f3 83 = .ok (.baload, 1) := by decide +kernel
theorem dJ6_getChars_ba4f3_84 : decode cJ6_getChars_ba4f3 84 = .ok (.bastore, 1) := by decide +kernel
theorem dJ6_getChars_ba4f3_85 : decode cJ6_getChars_ba4f3 85 = .ok (.iload_n 0, 1) := by decide +kernel
theorem dJ6_getChars_ba4f3_86 : decode cJ6_getChars_ba4f3 86 = .ok (.bipush (-9), 2) := by decide +kernel
theorem dJ6_getChars_ba4f3_88 : decode cJ6_getChars_ba4f3 88 = .ok (.if_icmp .ge 16, 3) := by decide +kernel
theorem dJ6_getChars_ba4f3_91 : decode cJ6_getChars_ba4f3 91 = .ok (.aload_n 2, 1) := by decide +kernel
theorem dJ6_getChars_ba4f3_92 : decode cJ6_getChars_ba4f3 92 = .ok (.iinc 5 (-1), 3) := by decide +kernel
theorem dJ6_getChars_ba4f3_95 : decode cJ6_getChars_ba4f3 95 = .ok (.iload 5, 2) := by decide +kernel
theorem dJ6_getChars_ba4f3_97 : decode cJ6_getChars_ba4f3 97 = .ok (.getstatic 87, 3) := by decide +kernel
theorem dJ6_getChars_ba4f3_100 : decode cJ6_getChars_ba4f3 100 = .ok (.iload_n 0, 1) := by decide +kernel
theorem dJ6_getChars_ba4f3_101 : decode cJ6_getChars_ba4f3 101 = .ok (.ineg, 1) := by decide +kernel
theorem dJ6_getChars_ba4f3_102 : decode cJ6_getChars_ba4f3 102 = .ok (.baload, 1) := by decide +kernel
theorem dJ6_getChars_ba4f3_103 : decode cJ6_getChars_ba4f3 103 = .ok (.bastore, 1) := by decide +kernel
theorem dJ6_getChars_ba4f3_104 : decode cJ6_getChars_ba4f3 104 = .ok (.iload 6, 2) := by decide +kernel
theorem dJ6_getChars_ba4f3_106 : decode cJ6_getChars_ba4f3 106 = .ok (.ifCond .eq 12, 3) := by decide +kernel
theorem dJ6_getChars_ba4f3_109 : decode cJ6_getChars_ba4f3 109 = .ok (.aload_n 2, 1) := by decide +kernel
theorem dJ6_getChars_ba4f3_110 : decode cJ6_getChars_ba4f3 110 = .ok (.iinc 5 (-1), 3) := by decide +kernel
theorem dJ6_getChars_ba4f3_113 : decode cJ6_getChars_ba4f3 113 = .ok (.iload 5, 2) := by decide +kernel
theorem dJ6_getChars_ba4f3_115 : decode cJ6_getChars_ba4f3 115 = .ok (.bipush 45, 2) := by decide +kernel
theorem dJ6_getChars_ba4f3_117 : decode cJ6_getChars_ba4f3 117 = .ok (.bastore, 1) := by decide +kernel
theorem dJ6_getChars_ba4f3_118 : decode cJ6_getChars_ba4f3 118 = .ok (.iload 5, 2) := by decide +kernel
theorem dJ6_getChars_ba4f3_120 : decode cJ6_getChars_ba4f3 120 = .ok (.ireturn, 1) := by decide +kernel
theorem dJ6_stringSize_0f7a4_0 : decode cJ6_stringSize_0f7a4 0 = .ok (.iconst 1, 1) := by decide +kernel
theorem dJ6_stringSize_0f7a4_1 : decode cJ6_stringSize_0f7a4 1 = .ok (.istore_n 1, 1) := by decide +kernel
theorem dJ6_stringSize_0f7a4_2 : decode cJ6_stringSize_0f7a4 2 = .ok (.iload_n 0, 1) := by decide +kernel
theorem dJ6_stringSize_0f7a4_3 : decode cJ6_stringSize_0f7a4 3 = .ok (.ifCond .lt 8, 3) := by decide +kernel
theorem dJ6_stringSize_0f7a4_6 : decode cJ6_stringSize_0f7a4 6 = .ok (.iconst 0, 1) := by decide +kernel
theorem dJ6_stringSize_0f7a4_7 : decode cJ6_stringSize_0f7a4 7 = .ok (.istore_n 1, 1) := by decide +kernel
theorem dJ6_stringSize_0f7a4_8 : decode cJ6_stringSize_0f7a4 8 = .ok (.iload_n 0, 1) := by decide +kernel
theorem dJ6_stringSize_0f7a4_9 : decode cJ6_stringSize_0f7a4 9 = .ok (.ineg, 1) := by decide +kernel
theorem dJ6_stringSize_0f7a4_10 : decode cJ6_stringSize_0f7a4 10 = .ok (.istore_n 0, 1) := by decide +kernel
theorem dJ6_stringSize_0f7a4_11 : decode cJ6_stringSize_0f7a4 11 = .ok (.bipush (-10), 2) := by decide +kernel
theorem dJ6_stringSize_0f7a4_13 : decode cJ6_stringSize_0f7a4 13 = .ok (.istore_n 2, 1) := by decide +kernel
theorem dJ6_stringSize_0f7a4_14 : decode cJ6_stringSize_0f7a4 14 = .ok (.iconst 1, 1) := by decide +kernel
theorem dJ6_stringSize_0f7a4_15 : decode cJ6_stringSize_0f7a4 15 = .ok (.istore_n 3, 1) := by decide +kernel
theorem dJ6_stringSize_0f7a4_16 : decode cJ6_stringSize_0f7a4 16 = .ok (.iload_n 3, 1) := by decide +kernel
theorem dJ6_stringSize_0f7a4_17 : decode cJ6_stringSize_0f7a4 17 = .ok (.bipush 10, 2) := by decide +kernel
theorem dJ6_stringSize_0f7a4_19 : decode cJ6_stringSize_0f7a4 19 = .ok (.if_icmp .ge 23, 3) := by decide +kernel
theorem dJ6_stringSize_0f7a4_22 : decode cJ6_stringSize_0f7a4 22 = .ok (.iload_n 0, 1) := by decide +kernel
theorem dJ6_stringSize_0f7a4_23 : decode cJ6_stringSize_0f7a4 23 = .ok (.iload_n 2, 1) := by decide +kernel
theorem dJ6_stringSize_0f7a4_24 : decode cJ6_stringSize_0f7a4 24 = .ok (.if_icmp .le 7, 3) := by decide +kernel
theorem dJ6_stringSize_0f7a4_27 : decode cJ6_stringSize_0f7a4 27 = .ok (.iload_n 3, 1) := by decide +kernel
theorem dJ6_stringSize_0f7a4_28 : decode cJ6_stringSize_0f7a4 28 = .ok (.iload_n 1, 1) := by decide +kernel
theorem dJ6_stringSize_0f7a4_29 : decode cJ6_stringSize_0f7a4 29 = .ok (.iadd, 1) := by decide +kernel
theorem dJ6_stringSize_0f7a4_30 : decode cJ6_stringSize_0f7a4 30 = .ok (.ireturn, 1) := by decide +kernel
theorem dJ6_stringSize_0f7a4_31 : decode cJ6_stringSize_0f7a4 31 = .ok (.bipush 10, 2) := by decide +kernel
theorem dJ6_stringSize_0f7a4_33 : decode cJ6_stringSize_0f7a4 33 = .ok (.iload_n 2, 1) := by decide +kernel
theorem dJ6_stringSize_0f7a4_34 : decode cJ6_stringSize_0f7a4 34 = .ok (.imul, 1) := by decide +kernel
theorem dJ6_stringSize_0f7a4_35 : decode cJ6_stringSize_0f7a4 35 = .ok (.istore_n 2, 1) := by decide +kernel
theorem dJ6_stringSize_0f7a4_36 : decode cJ6_stringSize_0f7a4 36 = .ok (.iinc 3 1, 3) := by decide +kernel
theorem dJ6_stringSize_0f7a4_39 : decode cJ6_stringSize_0f7a4 39 = .ok (.goto (-23), 3) := by decide +kernel
theorem dJ6_stringSize_0f7a4_42 : decode cJ6_stringSize_0f7a4 42 = .ok (.bipush 10, 2) := by decide +kernel
theorem dJ6_stringSize_0f7a4_44 : decode cJ6_stringSize_0f7a4 44 = .ok (.iload_n 1, 1) := by decide +kernel
theorem dJ6_stringSize_0f7a4_45 : decode cJ6_stringSize_0f7a4 45 = .ok (.iadd, 1) := by decide +kernel
theorem dJ6_stringSize_0f7a4_46 : decode cJ6_stringSize_0f7a4 46 = .ok (.ireturn, 1) := by decide +kernel
theorem dJ9_max_7cf53_0 : decode cJ9_max_7cf53 0 = .ok (.iload_n 0, 1) := by decide +kernel
theorem dJ9_max_7cf53_1 : decode cJ9_max_7cf53 1 = .ok (.iload_n 1, 1) := by decide +kernel
theorem dJ9_max_7cf53_2 : decode cJ9_max_7cf53 2 = .ok (.if_icmp .lt 7, 3) := by decide +kernel
theorem dJ9_max_7cf53_5 : decode cJ9_max_7cf53 5 = .ok (.iload_n 0, 1) := by decide +kernel
theorem dJ9_max_7cf53_6 : decode cJ9_max_7cf53 6 = .ok (.goto 4, 3) := by decide +kernel
theorem dJ9_max_7cf53_9 : decode cJ9_max_7cf53 9 = .ok (.iload_n 1, 1) := by decide +kernel
theorem dJ9_max_7cf53_10 : decode cJ9_max_7cf53 10 = .ok (.ireturn, 1) := by decide +kernel
theorem dJ9_min_7cf53_0 : decode cJ9_min_7cf53 0 = .ok (.iload_n 0, 1) := by decide +kernel
theorem dJ9_min_7cf53_1 : decode cJ9_min_7cf53 1 = .ok (.iload_n 1, 1) := by decide +kernel
theorem dJ9_min_7cf53_2 : decode cJ9_min_7cf53 2 = .ok (.if_icmp .gt 7, 3) := by decide +kernel
theorem dJ9_min_7cf53_5 : decode cJ9_min_7cf53 5 = .ok (.iload_n 0, 1) := by decide +kernel
theorem dJ9_min_7cf53_6 : decode cJ9_min_7cf53 6 = .ok (.goto 4, 3) := by decide +kernel
theorem dJ9_min_7cf53_9 : decode cJ9_min_7cf53 9 = .ok (.iload_n 1, 1) := by decide +kernel
theorem dJ9_min_7cf53_10 : decode cJ9_min_7cf53 10 = .ok (.ireturn, 1) := by decide +kernel
theorem dJ0_init_81219_0 : decode cJ0_init_81219 0 = .ok (.aload_n 0, 1) := by decide +kernel
theorem dJ0_init_81219_1 : decode cJ0_init_81219 1 = .ok (.aload_n 1, 1) := by decide +kernel
theorem dJ0_init_81219_2 : decode cJ0_init_81219 2 = .ok (.aconst_null, 1) := by decide +kernel
theorem dJ0_init_81219_3 : decode cJ0_init_81219 3 = .ok (.invokespecial 489, 3) := by decide +kernel
theorem dJ0_init_81219_6 : decode cJ0_init_81219 6 = .ok (.return_, 1) := by decide +kernel
theorem dJ0_length_8abf5_0 : decode cJ0_length_8abf5 0 = .ok (.aload_n 0, 1) := by decide +kernel
theorem dJ0_length_8abf5_1 : decode cJ0_length_8abf5 1 = .ok (.getfield 9, 3) := by decide +kernel
theorem dJ0_length_8abf5_4 : decode cJ0_length_8abf5 4 = .ok (.arraylength, 1) := by decide +kernel
theorem dJ0_length_8abf5_5 : decode cJ0_length_8abf5 5 = .ok (.aload_n 0, 1) := by decide +kernel
theorem dJ0_length_8abf5_6 : decode cJ0_length_8abf5 6 = .ok (.invokevirtual 335, 3) := by decide +kernel
theorem dJ0_length_8abf5_9 : decode cJ0_length_8abf5 9 = .ok (.ishr, 1) := by decide +kernel
theorem dJ0_length_8abf5_10 : decode cJ0_length_8abf5 10 = .ok (.ireturn, 1) := by decide +kernel
theorem dJ0_getBytes_840e7_0 : decode cJ0_getBytes_840e7 0 = .ok (.aload_n 0, 1) := by decide +kernel
theorem dJ0_getBytes_840e7_1 : decode cJ0_getBytes_840e7 1 = .ok (.invokevirtual 335, 3) := by decide +kernel
theorem dJ0_getBytes_840e7_4 : decode cJ0_getBytes_840e7 4 = .ok (.iload_n 3, 1) := by decide +kernel
theorem dJ0_getBytes_840e7_5 : decode cJ0_getBytes_840e7 5 = .ok (.if_icmp .ne 23, 3) := by decide +kernel
theorem dJ0_getBytes_840e7_8 : decode cJ0_getBytes_840e7 8 = .ok (.aload_n 0, 1) := by decide +kernel
theorem dJ0_getBytes_840e7_9 : decode cJ0_getBytes_840e7 9 = .ok (.getfield 9, 3) := by decide +kernel
theorem dJ0_getBytes_840e7_12 : decode cJ0_getBytes_840e7 12 = .ok (.iconst 0, 1) := by decide +kernel
theorem dJ0_getBytes_840e7_13 : decode cJ0_getBytes_840e7 13 = .ok (.aload_n 1, 1) := by decide +kernel
theorem dJ0_getBytes_840e7_14 : decode cJ0_getBytes_840e7 14 = .ok (.iload_n 2, 1) := by decide +kernel
theorem dJ0_getBytes_840e7_15 : decode cJ0_getBytes_840e7 15 = .ok (.iload_n 3, 1) := by decide +kernel
theorem dJ0_getBytes_840e7_16 : decode cJ0_getBytes_840e7 16 = .ok (.ishl, 1) := by decide +kernel
theorem dJ0_getBytes_840e7_17 : decode cJ0_getBytes_840e7 17 = .ok (.aload_n 0, 1) := by decide +kernel
theorem dJ0_getBytes_840e7_18 : decode cJ0_getBytes_840e7 18 = .ok (.getfield 9, 3) := by decide +kernel
theorem dJ0_getBytes_840e7_21 : decode cJ0_getBytes_840e7 21 = .ok (.arraylength, 1) := by decide +kernel
theorem dJ0_getBytes_840e7_22 : decode cJ0_getBytes_840e7 22 = .ok (.invokestatic 212, 3) := by decide +kernel
theorem dJ0_getBytes_840e7_25 : decode cJ0_getBytes_840e7 25 = .ok (.goto 18, 3) := by decide +kernel
theorem dJ0_getBytes_840e7_28 : decode cJ0_getBytes_840e7 28 = .ok (.aload_n 0, 1) := by decide +kernel
theorem dJ0_getBytes_840e7_29 : decode cJ0_getBytes_840e7 29 = .ok (.getfield 9, 3) := by decide +kernel
theorem dJ0_getBytes_840e7_32 : decode cJ0_getBytes_840e7 32 = .ok (.iconst 0, 1) := by decide +kernel
theorem dJ0_getBytes_840e7_33 : decode cJ0_getBytes_840e7 33 = .ok (.aload_n 1, 1) := by decide +kernel
theorem dJ0_getBytes_840e7_34 : decode cJ0_getBytes_840e7 34 = .ok (.iload_n 2, 1) := by decide +kernel
theorem dJ0_getBytes_840e7_35 : decode cJ0_getBytes_840e7 35 = .ok (.aload_n 0, 1) := by decide +kernel
theorem dJ0_getBytes_840e7_36 : decode cJ0_getBytes_840e7 36 = .ok (.getfield 9, 3) := by decide +kernel
theorem dJ0_getBytes_840e7_39 : decode cJ0_getBytes_840e7 39 = .ok (.arraylength, 1) := by decide +kernel
theorem dJ0_getBytes_840e7_40 : decode cJ0_getBytes_840e7 40 = .ok (.invokestatic 106, 3) := by decide +kernel
theorem dJ0_getBytes_840e7_43 : decode cJ0_getBytes_840e7 43 = .ok (.return_, 1) := by decide +kernel
theorem dJ0_init_db425_0 : decode cJ0_init_db425 0 = .ok (.aload_n 0, 1) := by decide +kernel
theorem dJ0_init_db425_1 : decode cJ0_init_db425 1 = .ok (.invokespecial 1, 3) := by decide +kernel
theorem dJ0_init_db425_4 : decode cJ0_init_db425 4 = .ok (.aload_n 1, 1) := by decide +kernel
theorem dJ0_init_db425_5 : decode cJ0_init_db425 5 = .ok (.invokevirtual 552, 3) := by decide +kernel
theorem dJ0_init_db425_8 : decode cJ0_init_db425 8 = .ok (.astore_n 3, 1) := by decide +kernel
theorem dJ0_init_db425_9 : decode cJ0_init_db425 9 = .ok (.aload_n 1, 1) := by decide +kernel
theorem dJ0_init_db425_10 : decode cJ0_init_db425 10 = .ok (.invokevirtual 549, 3) := by decide +kernel
theorem dJ0_init_db425_13 : decode cJ0_init_db425 13 = .ok (.istore 4, 2) := by decide +kernel
theorem dJ0_init_db425_15 : decode cJ0_init_db425 15 = .ok (.aload_n 1, 1) := by decide +kernel
theorem dJ0_init_db425_16 : decode cJ0_init_db425 16 = .ok (.invokevirtual 1047, 3) := by decide +kernel
theorem dJ0_init_db425_19 : decode cJ0_init_db425 19 = .ok (.ifCond .eq 22, 3) := by decide +kernel
theorem dJ0_init_db425_22 : decode cJ0_init_db425 22 = .ok (.aload_n 0, 1) := by decide +kernel
theorem dJ0_init_db425_23 : decode cJ0_init_db425 23 = .ok (.iconst 0, 1) := by decide +kernel
theorem dJ0_init_db425_24 : decode cJ0_init_db425 24 = .ok (.putfield 15, 3) := by decide +kernel
theorem dJ0_init_db425_27 : decode cJ0_init_db425 27 = .ok (.aload_n 0, 1) := by decide +kernel
theorem dJ0_init_db425_28 : decode cJ0_init_db425 28 = .ok (.aload_n 3, 1) := by decide +kernel
theorem dJ0_init_db425_29 : decode cJ0_init_db425 29 = .ok (.iconst 0, 1) := by decide +kernel
theorem dJ0_init_db425_30 : decode cJ0_init_db425 30 = .ok (.iload 4, 2) := by decide +kernel
theorem dJ0_init_db425_32 : decode cJ0_init_db425 32 = .ok (.invokestatic 54, 3) := by decide +kernel
theorem dJ0_init_db425_35 : decode cJ0_init_db425 35 = .ok (.putfield 9, 3) := by decide +kernel
theorem dJ0_init_db425_38 : decode cJ0_init_db425 38 = .ok (.goto 59, 3) := by decide +kernel
theorem dJ0_init_db425_41 : decode cJ0_init_db425 41 = .ok (.getstatic 38, 3) := by decide +kernel
theorem dJ0_init_db425_44 : decode cJ0_init_db425 44 = .ok (.ifCond .eq 35, 3) := by decide +kernel
theorem dJ0_init_db425_47 : decode cJ0_init_db425 47 = .ok (.aload_n 1, 1) := by decide +kernel
theorem dJ0_init_db425_48 : decode cJ0_init_db425 48 = .ok (.getfield 1048, 3) := by decide +kernel
theorem dJ0_init_db425_51 : decode cJ0_init_db425 51 = .ok (.ifCond .eq 28, 3) := by decide +kernel
theorem dJ0_init_db425_54 : decode cJ0_init_db425 54 = .ok (.aload_n 0, 1) := by decide +kernel
theorem dJ0_init_db425_55 : decode cJ0_init_db425 55 = .ok (.aload_n 3, 1) := by decide +kernel
theorem dJ0_init_db425_56 : decode cJ0_init_db425 56 = .ok (.iconst 0, 1) := by decide +kernel
theorem dJ0_init_db425_57 : decode cJ0_init_db425 57 = .ok (.iload 4, 2) := by decide +kernel
theorem dJ0_init_db425_59 : decode cJ0_init_db425 59 = .ok (.invokestatic 1051, 3) := by decide +kernel
theorem dJ0_init_db425_62 : decode cJ0_init_db425 62 = .ok (.putfield 9, 3) := by decide +kernel
theorem dJ0_init_db425_65 : decode cJ0_init_db425 65 = .ok (.aload_n 0, 1) := by decide +kernel
theorem dJ0_init_db425_66 : decode cJ0_init_db425 66 = .ok (.aload_n 0, 1) := by decide +kernel
theorem dJ0_init_db425_67 : decode cJ0_init_db425 67 = .ok (.getfield 9, 3) := by decide +kernel
theorem dJ0_init_db425_70 : decode cJ0_init_db425 70 = .ok (.iload 4, 2) := by decide +kernel
theorem dJ0_init_db425_72 : decode cJ0_init_db425 72 = .ok (.invokestatic 47, 3) := by decide +kernel
theorem dJ0_init_db425_75 : decode cJ0_init_db425 75 = .ok (.putfield 15, 3) := by decide +kernel
theorem dJ0_init_db425_78 : decode cJ0_init_db425 78 = .ok (.return_, 1) := by decide +kernel
theorem dJ0_init_db425_79 : decode cJ0_init_db425 79 = .ok (.aload_n 0, 1) := by decide +kernel
theorem dJ0_init_db425_80 : decode cJ0_init_db425 80 = .ok (.iconst 1, 1) := by decide +kernel
theorem dJ0_init_db425_81 : decode cJ0_init_db425 81 = .ok (.putfield 15, 3) := by decide +kernel
theorem dJ0_init_db425_84 : decode cJ0_init_db425 84 = .ok (.aload_n 0, 1) := by decide +kernel
theorem dJ0_init_db425_85 : decode cJ0_init_db425 85 = .ok (.aload_n 3, 1) := by decide +kernel
theorem dJ0_init_db425_86 : decode cJ0_init_db425 86 = .ok (.iconst 0, 1) := by decide +kernel
theorem dJ0_init_db425_87 : decode cJ0_init_db425 87 = .ok (.iload 4, 2) := by decide +kernel
theorem dJ0_init_db425_89 : decode cJ0_init_db425 89 = .ok (.iconst 1, 1) := by decide +kernel
theorem dJ0_init_db425_90 : decode cJ0_init_db425 90 = .ok (.ishl, 1) := by decide +kernel
theorem dJ0_init_db425_91 : decode cJ0_init_db425 91 = .ok (.invokestatic 54, 3) := by decide +kernel
theorem dJ0_init_db425_94 : decode cJ0_init_db425 94 = .ok (.putfield 9, 3) := by decide +kernel
theorem dJ0_init_db425_97 : decode cJ0_init_db425 97 = .ok (.return_, 1) := by decide +kernel
theorem dJ0_coder_7d493_0 : decode cJ0_coder_7d493 0 = .ok (.getstatic 38, 3) := by decide +kernel
theorem dJ0_coder_7d493_3 : decode cJ0_coder_7d493 3 = .ok (.ifCond .eq 10, 3) := by decide +kernel
theorem dJ0_coder_7d493_6 : decode cJ0_coder_7d493 6 = .ok (.aload_n 0, 1) := by decide +kernel
theorem dJ0_coder_7d493_7 : decode cJ0_coder_7d493 7 = .ok (.getfield 15, 3) := by decide +kernel
theorem dJ0_coder_7d493_10 : decode cJ0_coder_7d493 10 = .ok (.goto 4, 3) := by decide +kernel
theorem dJ0_coder_7d493_13 : decode cJ0_coder_7d493 13 = .ok (.iconst 1, 1) := by decide +kernel
theorem dJ0_coder_7d493_14 : decode cJ0_coder_7d493 14 = .ok (.ireturn, 1) := by decide +kernel
theorem dJ0_checkIndex_df160_0 : decode cJ0_checkIndex_df160 0 = .ok (.iload_n 0, 1) := by decide +kernel
theorem dJ0_checkIndex_df160_1 : decode cJ0_checkIndex_df160 1 = .ok (.iload_n 1, 1) := by decide +kernel
theorem dJ0_checkIndex_df160_2 : decode cJ0_checkIndex_df160 2 = .ok (.getstatic 1053, 3) := by decide +kernel
theorem dJ0_checkIndex_df160_5 : decode cJ0_checkIndex_df160 5 = .ok (.invokestatic 1059, 3) := by decide +kernel
theorem dJ0_checkIndex_df160_8 : decode cJ0_checkIndex_df160 8 = .ok (.pop, 1) := by decide +kernel
theorem dJ0_checkIndex_df160_9 : decode cJ0_checkIndex_df160 9 = .ok (.return_, 1) := by decide +kernel
theorem dJ0_checkBoundsOffCount_cabcc_0 : decode cJ0_checkBoundsOffCount_cabcc 0 = .ok (.iload_n 0, 1) := by decide +kernel
theorem dJ0_checkBoundsOffCount_cabcc_1 : decode cJ0_checkBoundsOffCount_cabcc 1 = .ok (.iload_n 1, 1) := by decide +kernel
theorem dJ0_checkBoundsOffCount_cabcc_2 : decode cJ0_checkBoundsOffCount_cabcc 2 = .ok (.iload_n 2, 1) := by decide +kernel
theorem dJ0_checkBoundsOffCount_cabcc_3 : decode cJ0_checkBoundsOffCount_cabcc 3 = .ok (.getstatic 1053, 3) := by decide +kernel
theorem dJ0_checkBoundsOffCount_cabcc_6 : decode cJ0_checkBoundsOffCount_cabcc 6 = .ok (.invokestatic 1065, 3) := by decide +kernel
theorem dJ0_checkBoundsOffCount_cabcc_9 : decode cJ0_checkBoundsOffCount_cabcc 9 = .ok (.ireturn, 1) := by decide +kernel
theorem dJ0_checkBoundsBeginEnd_23922_0 : decode cJ0_checkBoundsBeginEnd_23922 0 = .ok (.iload_n 0, 1) := by decide +kernel
theorem dJ0_checkBoundsBeginEnd_23922_1 : decode cJ0_checkBoundsBeginEnd_23922 1 = .ok (.iload_n 1, 1) := by decide +kernel
theorem dJ0_checkBoundsBeginEnd_23922_2 : decode cJ0_checkBoundsBeginEnd_23922 2 = .ok (.iload_n 2, 1) := by decide +kernel
theorem dJ0_checkBoundsBeginEnd_23922_3 : decode cJ0_checkBoundsBeginEnd_23922 3 = .ok (.getstatic 1053, 3) := by decide +kernel
theorem dJ0_checkBoundsBeginEnd_23922_6 : decode cJ0_checkBoundsBeginEnd_23922 6 = .ok (.invokestatic 1062, 3) := by decide +kernel
theorem dJ0_checkBoundsBeginEnd_23922_9 : decode cJ0_checkBoundsBeginEnd_23922 9 = .ok (.pop, 1) := by decide +kernel
theorem dJ0_checkBoundsBeginEnd_23922_10 : decode cJ0_checkBoundsBeginEnd_23922 10 = .ok (.return_, 1) := by decide +kernel
theorem dJ4_init_da8c8_0 : decode cJ4_init_da8c8 0 = .ok (.aload_n 0, 1) := by decide +kernel
theorem dJ4_init_da8c8_1 : decode cJ4_init_da8c8 1 = .ok (.bipush 16, 2) := by decide +kernel
theorem dJ4_init_da8c8_3 : decode cJ4_init_da8c8 3 = .ok (.invokespecial 1, 3) := by decide +kernel
theorem dJ4_init_da8c8_6 : decode cJ4_init_da8c8 6 = .ok (.return_, 1) := by decide +kernel
theorem dJ4_append_15ec4_0 : decode cJ4_append_15ec4 0 = .ok (.aload_n 0, 1) := by decide +kernel
theorem dJ4_append_15ec4_1 : decode cJ4_append_15ec4 1 = .ok (.aload_n 1, 1) := by decide +kernel
theorem dJ4_append_15ec4_2 : decode cJ4_append_15ec4 2 = .ok (.invokespecial 29, 3) := by decide +kernel
theorem dJ4_append_15ec4_5 : decode cJ4_append_15ec4 5 = .ok (.pop, 1) := by decide +kernel
theorem dJ4_append_15ec4_6 : decode cJ4_append_15ec4 6 = .ok (.aload_n 0, 1) := by decide +kernel
theorem dJ4_append_15ec4_7 : decode cJ4_append_15ec4 7 = .ok (.areturn, 1) := by decide +kernel
theorem dJ4_append_cf468_0 : decode cJ4_append_cf468 0 = .ok (.aload_n 0, 1) := by decide +kernel
theorem dJ4_append_cf468_1 : decode cJ4_append_cf468 1 = .ok (.iload_n 1, 1) := by decide +kernel
theorem dJ4_append_cf468_2 : decode cJ4_append_cf468 2 = .ok (.invokespecial 50, 3) := by decide +kernel
theorem dJ4_append_cf468_5 : decode cJ4_append_cf468 5 = .ok (.pop, 1) := by decide +kernel
theorem dJ4_append_cf468_6 : decode cJ4_append_cf468 6 = .ok (.aload_n 0, 1) := by decide +kernel
theorem dJ4_append_cf468_7 : decode cJ4_append_cf468 7 = .ok (.areturn, 1) := by decide +kernel
theorem dJ4_append_bf812_0 : decode cJ4_append_bf812 0 = .ok (.aload_n 0, 1) := by decide +kernel
theorem dJ4_append_bf812_1 : decode cJ4_append_bf812 1 = .ok (.iload_n 1, 1) := by decide +kernel
theorem dJ4_append_bf812_2 : decode cJ4_append_bf812 2 = .ok (.invokespecial 53, 3) := by decide +kernel
theorem dJ4_append_bf812_5 : decode cJ4_append_bf812 5 = .ok (.pop, 1) := by decide +kernel
theorem dJ4_append_bf812_6 : decode cJ4_append_bf812 6 = .ok (.aload_n 0, 1) := by decide +kernel
theorem dJ4_append_bf812_7 : decode cJ4_append_bf812 7 = .ok (.areturn, 1) := by decide +kernel
theorem dJ4_toString_0e30d_0 : decode cJ4_toString_0e30d 0 = .ok (.new 18, 3) := by decide +kernel
theorem dJ4_toString_0e30d_3 : decode cJ4_toString_0e30d 3 = .ok (.dup, 1) := by decide +kernel
theorem dJ4_toString_0e30d_4 : decode cJ4_toString_0e30d 4 = .ok (.aload_n 0, 1) := by decide +kernel
theorem dJ4_toString_0e30d_5 : decode cJ4_toString_0e30d 5 = .ok (.invokespecial 137, 3) := by decide +kernel
theorem dJ4_toString_0e30d_8 : decode cJ4_toString_0e30d 8 = .ok (.areturn, 1) := by decide +kernel
theorem dJ4_length_8abf5_0 : decode cJ4_length_8abf5 0 = .ok (.aload_n 0, 1) := by decide +kernel
theorem dJ4_length_8abf5_1 : decode cJ4_length_8abf5 1 = .ok (.invokespecial 343, 3) := by decide +kernel
theorem dJ4_length_8abf5_4 : decode cJ4_length_8abf5 4 = .ok (.ireturn, 1) := by decide +kernel
theorem dJ1_canEncode_fc78d_0 : decode cJ1_canEncode_fc78d 0 = .ok (.iload_n 0, 1) := by decide +kernel
theorem dJ1_canEncode_fc78d_1 : decode cJ1_canEncode_fc78d 1 = .ok (.sipush 255, 3) := by decide +kernel
theorem dJ1_canEncode_fc78d_4 : decode cJ1_canEncode_fc78d 4 = .ok (.if_icmp .gt 7, 3) := by decide +kernel
theorem dJ1_canEncode_fc78d_7 : decode cJ1_canEncode_fc78d 7 = .ok (.iconst 1, 1) := by decide +kernel
theorem dJ1_canEncode_fc78d_8 : decode cJ1_canEncode_fc78d 8 = .ok (.goto 4, 3) := by decide +kernel
theorem dJ1_canEncode_fc78d_11 : decode cJ1_canEncode_fc78d 11 = .ok (.iconst 0, 1) := by decide +kernel
theorem dJ1_canEncode_fc78d_12 : decode cJ1_canEncode_fc78d 12 = .ok (.ireturn, 1) := by decide +kernel
theorem dJ1_inflate_0e8fd_0 : decode cJ1_inflate_0e8fd 0 = .ok (.aload_n 0, 1) := by decide +kernel
theorem dJ1_inflate_0e8fd_1 : decode cJ1_inflate_0e8fd 1 = .ok (.iload_n 1, 1) := by decide +kernel
theorem dJ1_inflate_0e8fd_2 : decode cJ1_inflate_0e8fd 2 = .ok (.aload_n 2, 1) := by decide +kernel
theorem dJ1_inflate_0e8fd_3 : decode cJ1_inflate_0e8fd 3 = .ok (.iload_n 3, 1) := by decide +kernel
theorem dJ1_inflate_0e8fd_4 : decode cJ1_inflate_0e8fd 4 = .ok (.iload 4, 2) := by decide +kernel
theorem dJ1_inflate_0e8fd_6 : decode cJ1_inflate_0e8fd 6 = .ok (.invokestatic 240, 3) := by decide +kernel
theorem dJ1_inflate_0e8fd_9 : decode cJ1_inflate_0e8fd 9 = .ok (.return_, 1) := by decide +kernel
theorem dJ2_newBytesFor_77867_0 : decode cJ2_newBytesFor_77867 0 = .ok (.iload_n 0, 1) := by decide +kernel
theorem dJ2_newBytesFor_77867_1 : decode cJ2_newBytesFor_77867 1 = .ok (.invokestatic 11, 3) := by decide +kernel
theorem dJ2_newBytesFor_77867_4 : decode cJ2_newBytesFor_77867 4 = .ok (.newarray .byte, 2) := by decide +kernel
theorem dJ2_newBytesFor_77867_6 : decode cJ2_newBytesFor_77867 6 = .ok (.areturn, 1) := by decide +kernel
theorem dJ2_newBytesLength_0f7a4_0 : decode cJ2_newBytesLength_0f7a4 0 = .ok (.iload_n 0, 1) := by decide +kernel
theorem dJ2_newBytesLength_0f7a4_1 : decode cJ2_newBytesLength_0f7a4 1 = .ok (.ifCond .ge 11, 3) := by decide +kernel
theorem dJ2_newBytesLength_0f7a4_4 : decode cJ2_newBytesLength_0f7a4 4 = .ok (.new 17, 3) := by decide +kernel
theorem dJ2_newBytesLength_0f7a4_7 : decode cJ2_newBytesLength_0f7a4 7 = .ok (.dup, 1) := by decide +kernel
theorem dJ2_newBytesLength_0f7a4_8 : decode cJ2_newBytesLength_0f7a4 8 = .ok (.invokespecial 19, 3) := by decide +kernel
theorem dJ2_newBytesLength_0f7a4_11 : decode cJ2_newBytesLength_0f7a4 11 = .ok (.athrow, 1) := by decide +kernel
theorem dJ2_newBytesLength_0f7a4_12 : decode cJ2_newBytesLength_0f7a4 12 = .ok (.iload_n 0, 1) := by decide +kernel
theorem dJ2_newBytesLength_0f7a4_13 : decode cJ2_newBytesLength_0f7a4 13 = .ok (.ldc 20, 2) := by decide +kernel
theorem dJ2_newBytesLength_0f7a4_15 : decode cJ2_newBytesLength_0f7a4 15 = .ok (.if_icmp .lt 40, 3) := by decide +kernel
theorem dJ2_newBytesLength_0f7a4_18 : decode cJ2_newBytesLength_0f7a4 18 = .ok (.new 21, 3) := by decide +kernel
theorem dJ2_newBytesLength_0f7a4_21 : decode cJ2_newBytesLength_0f7a4 21 = .ok (.dup, 1) := by decide +kernel
theorem dJ2_newBytesLength_0f7a4_22 : decode cJ2_newBytesLength_0f7a4 22 = .ok (.new 23, 3) := by decide +kernel
theorem dJ2_newBytesLength_0f7a4_25 : decode cJ2_newBytesLength_0f7a4 25 = .ok (.dup, 1) := by decide +kernel
theorem dJ2_newBytesLength_0f7a4_26 : decode cJ2_newBytesLength_0f7a4 26 = .ok (.invokespecial 25, 3) := by decide +kernel
theorem dJ2_newBytesLength_0f7a4_29 : decode cJ2_newBytesLength_0f7a4 29 = .ok (.ldc 26, 2) := by decide +kernel
theorem dJ2_newBytesLength_0f7a4_31 : decode cJ2_newBytesLength_0f7a4 31 = .ok (.invokevirtual 28, 3) := by decide +kernel
theorem dJ2_newBytesLength_0f7a4_34 : decode cJ2_newBytesLength_0f7a4 34 = .ok (.iload_n 0, 1) := by decide +kernel
theorem dJ2_newBytesLength_0f7a4_35 : decode cJ2_newBytesLength_0f7a4 35 = .ok (.invokevirtual 32, 3) := by decide +kernel
theorem dJ2_newBytesLength_0f7a4_38 : decode cJ2_newBytesLength_0f7a4 38 = .ok (.ldc 35, 2) := by decide +kernel
theorem dJ2_newBytesLength_0f7a4_40 : decode cJ2_newBytesLength_0f7a4 40 = .ok (.invokevirtual 28, 3) := by decide +kernel
theorem dJ2_newBytesLength_0f7a4_43 : decode cJ2_newBytesLength_0f7a4 43 = .ok (.ldc 20, 2) := by decide +kernel
theorem dJ2_newBytesLength_0f7a4_45 : decode cJ2_newBytesLength_0f7a4 45 = .ok (.invokevirtual 32, 3) := by decide +kernel
theorem dJ2_newBytesLength_0f7a4_48 : decode cJ2_newBytesLength_0f7a4 48 = .ok (.invokevirtual 37, 3) := by decide +kernel
theorem dJ2_newBytesLength_0f7a4_51 : decode cJ2_newBytesLength_0f7a4 51 = .ok (.invokespecial 41, 3) := by decide +kernel
theorem dJ2_newBytesLength_0f7a4_54 : decode cJ2_newBytesLength_0f7a4 54 = .ok (.athrow, 1) := by decide +kernel
theorem dJ2_newBytesLength_0f7a4_55 : decode cJ2_newBytesLength_0f7a4 55 = .ok (.iload_n 0, 1) := by decide +kernel
theorem dJ2_newBytesLength_0f7a4_56 : decode cJ2_newBytesLength_0f7a4 56 = .ok (.iconst 1, 1) := by decide +kernel
theorem dJ2_newBytesLength_0f7a4_57 : decode cJ2_newBytesLength_0f7a4 57 = .ok (.ishl, 1) := by decide +kernel
theorem dJ2_newBytesLength_0f7a4_58 : decode cJ2_newBytesLength_0f7a4 58 = .ok (.ireturn, 1) := by decide +kernel
theorem dJ2_putChar_b72d1_0 : decode cJ2_putChar_b72d1 0 = .ok (.getstatic 44, 3) := by decide +kernel
theorem dJ2_putChar_b72d1_3 : decode cJ2_putChar_b72d1 3 = .ok (.ifCond .ne 25, 3) := by decide +kernel
theorem dJ2_putChar_b72d1_6 : decode cJ2_putChar_b72d1 6 = .ok (.iload_n 1, 1) := by decide +kernel
theorem dJ2_putChar_b72d1_7 : decode cJ2_putChar_b72d1 7 = .ok (.ifCond .lt 11, 3) := by decide +kernel
theorem dJ2_putChar_b72d1_10 : decode cJ2_putChar_b72d1 10 = .ok (.iload_n 1, 1) := by decide +kernel
theorem dJ2_putChar_b72d1_11 : decode cJ2_putChar_b72d1 11 = .ok (.aload_n 0, 1) := by decide +kernel
theorem dJ2_putChar_b72d1_12 : decode cJ2_putChar_b72d1 12 = .ok (.invokestatic 48, 3) := by decide +kernel
theorem dJ2_putChar_b72d1_15 : decode cJ2_putChar_b72d1 15 = .ok (.if_icmp .lt 13, 3) := by decide +kernel
theorem dJ2_putChar_b72d1_18 : decode cJ2_putChar_b72d1 18 = .ok (.new 52, 3) := by decide +kernel
theorem dJ2_putChar_b72d1_21 : decode cJ2_putChar_b72d1 21 = .ok (.dup, 1) := by decide +kernel
theorem dJ2_putChar_b72d1_22 : decode cJ2_putChar_b72d1 22 = .ok (.ldc 54, 2) := by decide +kernel
theorem dJ2_putChar_b72d1_24 : decode cJ2_putChar_b72d1 24 = .ok (.invokespecial 56, 3) := by decide +kernel
theorem dJ2_putChar_b72d1_27 : decode cJ2_putChar_b72d1 27 = .ok (.athrow, 1) := by decide +kernel
theorem dJ2_putChar_b72d1_28 : decode cJ2_putChar_b72d1 28 = .ok (.iload_n 1, 1) := by decide +kernel
theorem dJ2_putChar_b72d1_29 : decode cJ2_putChar_b72d1 29 = .ok (.iconst 1, 1) := by decide +kernel
theorem dJ2_putChar_b72d1_30 : decode cJ2_putChar_b72d1 30 = .ok (.ishl, 1) := by decide +kernel
theorem dJ2_putChar_b72d1_31 : decode cJ2_putChar_b72d1 31 = .ok (.istore_n 1, 1) := by decide +kernel
theorem dJ2_putChar_b72d1_32 : decode cJ2_putChar_b72d1 32 = .ok (.aload_n 0, 1) := by decide +kernel
theorem dJ2_putChar_b72d1_33 : decode cJ2_putChar_b72d1 33 = .ok (.iload_n 1, 1) := by decide +kernel
theorem dJ2_putChar_b72d1_34 : decode cJ2_putChar_b72d1 34 = .ok (.iinc 1 1, 3) := by decide +kernel
theorem dJ2_putChar_b72d1_37 : decode cJ2_putChar_b72d1 37 = .ok (.iload_n 2, 1) := by decide +kernel
theorem dJ2_putChar_b72d1_38 : decode cJ2_putChar_b72d1 38 = .ok (.getstatic 59, 3) := by decide +kernel
theorem dJ2_putChar_b72d1_41 : decode cJ2_putChar_b72d1 41 = .ok (.ishr, 1) := by decide +kernel
theorem dJ2_putChar_b72d1_42 : decode cJ2_putChar_b72d1 42 = .ok (.i2b, 1) := by decide +kernel
theorem dJ2_putChar_b72d1_43 : decode cJ2_putChar_b72d1 43 = .ok (.bastore, 1) := by decide +kernel
theorem dJ2_putChar_b72d1_44 : decode cJ2_putChar_b72d1 44 = .ok (.aload_n 0, 1) := by decide +kernel
theorem dJ2_putChar_b72d1_45 : decode cJ2_putChar_b72d1 45 = .ok (.iload_n 1, 1) := by decide +kernel
theorem dJ2_putChar_b72d1_46 : decode cJ2_putChar_b72d1 46 = .ok (.iload_n 2, 1) := by decide +kernel
theorem dJ2_putChar_b72d1_47 : decode cJ2_putChar_b72d1 47 = .ok (.getstatic 63, 3) := by decide +kernel
theorem dJ2_putChar_b72d1_50 : decode cJ2_putChar_b72d1 50 = .ok (.ishr, 1) := by decide +kernel
theorem dJ2_putChar_b72d1_51 : decode cJ2_putChar_b72d1 51 = .ok (.i2b, 1) := by decide +kernel
theorem dJ2_putChar_b72d1_52 : decode cJ2_putChar_b72d1 52 = .ok (.bastore, 1) := by decide +kernel
theorem dJ2_putChar_b72d1_53 : decode cJ2_putChar_b72d1 53 = .ok (.return_, 1) := by decide +kernel
theorem dJ2_getChar_3b067_0 : decode cJ2_getChar_3b067 0 = .ok (.getstatic 44, 3) := by decide +kernel
theorem dJ2_getChar_3b067_3 : decode cJ2_getChar_3b067 3 = .ok (.ifCond .ne 25, 3) := by decide +kernel
theorem dJ2_getChar_3b067_6 : decode cJ2_getChar_3b067 6 = .ok (.iload_n 1, 1) := by decide +kernel
theorem dJ2_getChar_3b067_7 : decode cJ2_getChar_3b067 7 = .ok (.ifCond .lt 11, 3) := by decide +kernel
theorem dJ2_getChar_3b067_10 : decode cJ2_getChar_3b067 10 = .ok (.iload_n 1, 1) := by decide +kernel
theorem dJ2_getChar_3b067_11 : decode cJ2_getChar_3b067 11 = .ok (.aload_n 0, 1) := by decide +kernel
theorem dJ2_getChar_3b067_12 : decode cJ2_getChar_3b067 12 = .ok (.invokestatic 48, 3) := by decide +kernel
theorem dJ2_getChar_3b067_15 : decode cJ2_getChar_3b067 15 = .ok (.if_icmp .lt 13, 3) := by decide +kernel
theorem dJ2_getChar_3b067_18 : decode cJ2_getChar_3b067 18 = .ok (.new 52, 3) := by decide +kernel
theorem dJ2_getChar_3b067_21 : decode cJ2_getChar_3b067 21 = .ok (.dup, 1) := by decide +kernel
theorem dJ2_getChar_3b067_22 : decode cJ2_getChar_3b067 22 = .ok (.ldc 54, 2) := by decide +kernel
theorem dJ2_getChar_3b067_24 : decode cJ2_getChar_3b067 24 = .ok (.invokespecial 56, 3) := by decide +kernel
theorem dJ2_getChar_3b067_27 : decode cJ2_getChar_3b067 27 = .ok (.athrow, 1) := by decide +kernel
theorem dJ2_getChar_3b067_28 : decode cJ2_getChar_3b067 28 = .ok (.iload_n 1, 1) := by decide +kernel
theorem dJ2_getChar_3b067_29 : decode cJ2_getChar_3b067 29 = .ok (.iconst 1, 1) := by decide +kernel
theorem dJ2_getChar_3b067_30 : decode cJ2_getChar_3b067 30 = .ok (.ishl, 1) := by decide +kernel
theorem dJ2_getChar_3b067_31 : decode cJ2_getChar_3b067 31 = .ok (.istore_n 1, 1) := by decide +kernel
theorem dJ2_getChar_3b067_32 : decode cJ2_getChar_3b067 32 = .ok (.aload_n 0, 1) := by decide +kernel
theorem dJ2_getChar_3b067_33 : decode cJ2_getChar_3b067 33 = .ok (.iload_n 1, 1) := by decide +kernel
theorem dJ2_getChar_3b067_34 : decode cJ2_getChar_3b067 34 = .ok (.iinc 1 1, 3) := by decide +kernel
theorem dJ2_getChar_3b067_37 : decode cJ2_getChar_3b067 37 = .ok (.baload, 1) := by decide +kernel
theorem dJ2_getChar_3b067_38 : decode cJ2_getChar_3b067 38 = .ok (.sipush 255, 3) := by decide +kernel
theorem dJ2_getChar_3b067_41 : decode cJ2_getChar_3b067 41 = .ok (.iand, 1) := by decide +kernel
theorem dJ2_getChar_3b067_42 : decode cJ2_getChar_3b067 42 = .ok (.getstatic 59, 3) := by decide +kernel
theorem dJ2_getChar_3b067_45 : decode cJ2_getChar_3b067 45 = .ok (.ishl, 1) := by decide +kernel
theorem dJ2_getChar_3b067_46 : decode cJ2_getChar_3b067 46 = .ok (.aload_n 0, 1) := by decide +kernel
theorem dJ2_getChar_3b067_47 : decode cJ2_getChar_3b067 47 = .ok (.iload_n 1, 1) := by decide +kernel
theorem dJ2_getChar_3b067_48 : decode cJ2_getChar_3b067 48 = .ok (.baload, 1) := by decide +kernel
theorem dJ2_getChar_3b067_49 : decode cJ2_getChar_3b067 49 = .ok (.sipush 255, 3) := by decide +kernel
theorem dJ2_getChar_3b067_52 : decode cJ2_getChar_3b067 52 = .ok (.iand, 1) := by decide +kernel
theorem dJ2_getChar_3b067_53 : decode cJ2_getChar_3b067 53 = .ok (.getstatic 63, 3) := by decide +kernel
theorem dJ2_getChar_3b067_56 : decode cJ2_getChar_3b067 56 = .ok (.ishl, 1) := by decide +kernel
theorem dJ2_getChar_3b067_57 : decode cJ2_getChar_3b067 57 = .ok (.ior, 1) := by decide +kernel
theorem dJ2_getChar_3b067_58 : decode cJ2_getChar_3b067 58 = .ok (.i2c, 1) := by decide +kernel
theorem dJ2_getChar_3b067_59 : decode cJ2_getChar_3b067 59 = .ok (.ireturn, 1) := by decide +kernel
theorem dJ2_length_9d52b_0 : decode cJ2_length_9d52b 0 = .ok (.aload_n 0, 1) := by decide +kernel
theorem dJ2_length_9d52b_1 : decode cJ2_length_9d52b 1 = .ok (.arraylength, 1) := by decide +kernel
theorem dJ2_length_9d52b_2 : decode cJ2_length_9d52b 2 = .ok (.iconst 1, 1) := by decide +kernel
theorem dJ2_length_9d52b_3 : decode cJ2_length_9d52b 3 = .ok (.ishr, 1) := by decide +kernel
theorem dJ2_length_9d52b_4 : decode cJ2_length_9d52b 4 = .ok (.ireturn, 1) := by decide +kernel
theorem dJ2_coderFromArrayLen_85cad_0 : decode cJ2_coderFromArrayLen_85cad 0 = .ok (.iload_n 1, 1) := by decide +kernel
theorem dJ2_coderFromArrayLen_85cad_1 : decode cJ2_coderFromArrayLen_85cad 1 = .ok (.aload_n 0, 1) := by decide +kernel
theorem dJ2_coderFromArrayLen_85cad_2 : decode cJ2_coderFromArrayLen_85cad 2 = .ok (.arraylength, 1) := by decide +kernel
theorem dJ2_coderFromArrayLen_85cad_3 : decode cJ2_coderFromArrayLen_85cad 3 = .ok (.isub, 1) := by decide +kernel
theorem dJ2_coderFromArrayLen_85cad_4 : decode cJ2_coderFromArrayLen_85cad 4 = .ok (.bipush 31, 2) := by decide +kernel
theorem dJ2_coderFromArrayLen_85cad_6 : decode cJ2_coderFromArrayLen_85cad 6 = .ok (.iushr, 1) := by decide +kernel
theorem dJ2_coderFromArrayLen_85cad_7 : decode cJ2_coderFromArrayLen_85cad 7 = .ok (.i2b, 1) := by decide +kernel
theorem dJ2_coderFromArrayLen_85cad_8 : decode cJ2_coderFromArrayLen_85cad 8 = .ok (.ireturn, 1) := by decide +kernel
theorem dJ2_compress_39247_0 : decode cJ2_compress_39247 0 = .ok (.iload_n 2, 1) := by decide +kernel
theorem dJ2_compress_39247_1 : decode cJ2_compress_39247 1 = .ok (.newarray .byte, 2) := by decide +kernel
theorem dJ2_compress_39247_3 : decode cJ2_compress_39247 3 = .ok (.astore_n 3, 1) := by decide +kernel
theorem dJ2_compress_39247_4 : decode cJ2_compress_39247 4 = .ok (.aload_n 0, 1) := by decide +kernel
theorem dJ2_compress_39247_5 : decode cJ2_compress_39247 5 = .ok (.iload_n 1, 1) := by decide +kernel
theorem dJ2_compress_39247_6 : decode cJ2_compress_39247 6 = .ok (.aload_n 3, 1) := by decide +kernel
theorem dJ2_compress_39247_7 : decode cJ2_compress_39247 7 = .ok (.iconst 0, 1) := by decide +kernel
theorem dJ2_compress_39247_8 : decode cJ2_compress_39247 8 = .ok (.iload_n 2, 1) := by decide +kernel
theorem dJ2_compress_39247_9 : decode cJ2_compress_39247 9 = .ok (.invokestatic 123, 3) := by decide +kernel
theorem dJ2_compress_39247_12 : decode cJ2_compress_39247 12 = .ok (.istore 4, 2) := by decide +kernel
theorem dJ2_compress_39247_14 : decode cJ2_compress_39247 14 = .ok (.iload 4, 2) := by decide +kernel
theorem dJ2_compress_39247_16 : decode cJ2_compress_39247 16 = .ok (.iload_n 2, 1) := by decide +kernel
theorem dJ2_compress_39247_17 : decode cJ2_compress_39247 17 = .ok (.if_icmp .eq 47, 3) := by decide +kernel
theorem dJ2_compress_39247_20 : decode cJ2_compress_39247 20 = .ok (.aload_n 0, 1) := by decide +kernel
theorem dJ2_compress_39247_21 : decode cJ2_compress_39247 21 = .ok (.iload_n 1, 1) := by decide +kernel
theorem dJ2_compress_39247_22 : decode cJ2_compress_39247 22 = .ok (.iconst 1, 1) := by decide +kernel
theorem dJ2_compress_39247_23 : decode cJ2_compress_39247 23 = .ok (.ishl, 1) := by decide +kernel
theorem dJ2_compress_39247_24 : decode cJ2_compress_39247 24 = .ok (.iload_n 1, 1) := by decide +kernel
theorem dJ2_compress_39247_25 : decode cJ2_compress_39247 25 = .ok (.iload_n 2, 1) := by decide +kernel
theorem dJ2_compress_39247_26 : decode cJ2_compress_39247 26 = .ok (.iadd, 1) := by decide +kernel
theorem dJ2_compress_39247_27 : decode cJ2_compress_39247 27 = .ok (.invokestatic 11, 3) := by decide +kernel
theorem dJ2_compress_39247_30 : decode cJ2_compress_39247 30 = .ok (.invokestatic 126, 3) := by decide +kernel
theorem dJ2_compress_39247_33 : decode cJ2_compress_39247 33 = .ok (.astore 5, 2) := by decide +kernel
theorem dJ2_compress_39247_35 : decode cJ2_compress_39247 35 = .ok (.aload 5, 2) := by decide +kernel
theorem dJ2_compress_39247_37 : decode cJ2_compress_39247 37 = .ok (.iload 4, 2) := by decide +kernel
theorem dJ2_compress_39247_39 : decode cJ2_compress_39247 39 = .ok (.invokestatic 71, 3) := by decide +kernel
theorem dJ2_compress_39247_42 : decode cJ2_compress_39247 42 = .ok (.sipush 255, 3) := by decide +kernel
theorem dJ2_compress_39247_45 : decode cJ2_compress_39247 45 = .ok (.if_icmp .gt 16, 3) := by decide +kernel
theorem dJ2_compress_39247_48 : decode cJ2_compress_39247 48 = .ok (.aload 5, 2) := by decide +kernel
theorem dJ2_compress_39247_50 : decode cJ2_compress_39247 50 = .ok (.iconst 0, 1) := by decide +kernel
theorem dJ2_compress_39247_51 : decode cJ2_compress_39247 51 = .ok (.aload_n 3, 1) := by decide +kernel
theorem dJ2_compress_39247_52 : decode cJ2_compress_39247 52 = .ok (.iconst 0, 1) := by decide +kernel
theorem dJ2_compress_39247_53 : decode cJ2_compress_39247 53 = .ok (.iload_n 2, 1) := by decide +kernel
theorem dJ2_compress_39247_54 : decode cJ2_compress_39247 54 = .ok (.invokestatic 123, 3) := by decide +kernel
theorem dJ2_compress_39247_57 : decode cJ2_compress_39247 57 = .ok (.iload_n 2, 1) := by decide +kernel
theorem dJ2_compress_39247_58 : decode cJ2_compress_39247 58 = .ok (.if_icmp .eq 6, 3) := by decide +kernel
theorem dJ2_compress_39247_61 : decode cJ2_compress_39247 61 = .ok (.aload 5, 2) := by decide +kernel
theorem dJ2_compress_39247_63 : decode cJ2_compress_39247 63 = .ok (.areturn, 1) := by decide +kernel
theorem dJ2_compress_39247_64 : decode cJ2_compress_39247 64 = .ok (.aload_n 3, 1) := by decide +kernel
theorem dJ2_compress_39247_65 : decode cJ2_compress_39247 65 = .ok (.areturn, 1) := by decide +kernel
theorem dJ2_compress_5af95_0 : decode cJ2_compress_5af95 0 = .ok (.iload_n 1, 1) := by decide +kernel
theorem dJ2_compress_5af95_1 : decode cJ2_compress_5af95 1 = .ok (.iload 4, 2) := by decide +kernel
theorem dJ2_compress_5af95_3 : decode cJ2_compress_5af95 3 = .ok (.aload_n 0, 1) := by decide +kernel
theorem dJ2_compress_5af95_4 : decode cJ2_compress_5af95 4 = .ok (.invokestatic 173, 3) := by decide +kernel
theorem dJ2_compress_5af95_7 : decode cJ2_compress_5af95 7 = .ok (.iconst 0, 1) := by decide +kernel
theorem dJ2_compress_5af95_8 : decode cJ2_compress_5af95 8 = .ok (.istore 5, 2) := by decide +kernel
theorem dJ2_compress_5af95_10 : decode cJ2_compress_5af95 10 = .ok (.iload 5, 2) := by decide +kernel
theorem dJ2_compress_5af95_12 : decode cJ2_compress_5af95 12 = .ok (.iload 4, 2) := by decide +kernel
theorem dJ2_compress_5af95_14 : decode cJ2_compress_5af95 14 = .ok (.if_icmp .ge 39, 3) := by decide +kernel
theorem dJ2_compress_5af95_17 : decode cJ2_compress_5af95 17 = .ok (.aload_n 0, 1) := by decide +kernel
theorem dJ2_compress_5af95_18 : decode cJ2_compress_5af95 18 = .ok (.iload_n 1, 1) := by decide +kernel
theorem dJ2_compress_5af95_19 : decode cJ2_compress_5af95 19 = .ok (.invokestatic 71, 3) := by decide +kernel
theorem dJ2_compress_5af95_22 : decode cJ2_compress_5af95 22 = .ok (.istore 6, 2) := by decide +kernel
theorem dJ2_compress_5af95_24 : decode cJ2_compress_5af95 24 = .ok (.iload 6, 2) := by decide +kernel
theorem dJ2_compress_5af95_26 : decode cJ2_compress_5af95 26 = .ok (.sipush 255, 3) := by decide +kernel
theorem dJ2_compress_5af95_29 : decode cJ2_compress_5af95 29 = .ok (.if_icmp .le 6, 3) := by decide +kernel
theorem dJ2_compress_5af95_32 : decode cJ2_compress_5af95 32 = .ok (.iload 5, 2) := by decide +kernel
theorem dJ2_compress_5af95_34 : decode cJ2_compress_5af95 34 = .ok (.ireturn, 1) := by decide +kernel
theorem dJ2_compress_5af95_35 : decode cJ2_compress_5af95 35 = .ok (.aload_n 2, 1) := by decide +kernel
theorem dJ2_compress_5af95_36 : decode cJ2_compress_5af95 36 = .ok (.iload_n 3, 1) := by decide +kernel
theorem dJ2_compress_5af95_37 : decode cJ2_compress_5af95 37 = .ok (.iload 6, 2) := by decide +kernel
theorem dJ2_compress_5af95_39 : decode cJ2_compress_5af95 39 = .ok (.i2b, 1) := by decide +kernel
theorem dJ2_compress_5af95_40 : decode cJ2_compress_5af95 40 = .ok (.bastore, 1) := by decide +kernel
theorem dJ2_compress_5af95_41 : decode cJ2_compress_5af95 41 = .ok (.iinc 1 1, 3) := by decide +kernel
theorem dJ2_compress_5af95_44 : decode cJ2_compress_5af95 44 = .ok (.iinc 3 1, 3) := by decide +kernel
theorem dJ2_compress_5af95_47 : decode cJ2_compress_5af95 47 = .ok (.iinc 5 1, 3) := by decide +kernel
theorem dJ2_compress_5af95_50 : decode cJ2_compress_5af95 50 = .ok (.goto (-40), 3) := by decide +kernel
theorem dJ2_compress_5af95_53 : decode cJ2_compress_5af95 53 = .ok (.iload 4, 2) := by decide +kernel
theorem dJ2_compress_5af95_55 : decode cJ2_compress_5af95 55 = .ok (.ireturn, 1) := by decide +kernel
theorem dJ2_putCharSB_b72d1_0 : decode cJ2_putCharSB_b72d1 0 = .ok (.iload_n 1, 1) := by decide +kernel
theorem dJ2_putCharSB_b72d1_1 : decode cJ2_putCharSB_b72d1 1 = .ok (.aload_n 0, 1) := by decide +kernel
theorem dJ2_putCharSB_b72d1_2 : decode cJ2_putCharSB_b72d1 2 = .ok (.invokestatic 67, 3) := by decide +kernel
theorem dJ2_putCharSB_b72d1_5 : decode cJ2_putCharSB_b72d1 5 = .ok (.aload_n 0, 1) := by decide +kernel
theorem dJ2_putCharSB_b72d1_6 : decode cJ2_putCharSB_b72d1 6 = .ok (.iload_n 1, 1) := by decide +kernel
theorem dJ2_putCharSB_b72d1_7 : decode cJ2_putCharSB_b72d1 7 = .ok (.iload_n 2, 1) := by decide +kernel
theorem dJ2_putCharSB_b72d1_8 : decode cJ2_putCharSB_b72d1 8 = .ok (.invokestatic 111, 3) := by decide +kernel
theorem dJ2_putCharSB_b72d1_11 : decode cJ2_putCharSB_b72d1 11 = .ok (.return_, 1) := by decide +kernel
theorem dJ2_getChars_46870_0 : decode cJ2_getChars_46870 0 = .ok (.iload_n 1, 1) := by decide +kernel
theorem dJ2_getChars_46870_1 : decode cJ2_getChars_46870 1 = .ok (.iload_n 2, 1) := by decide +kernel
theorem dJ2_getChars_46870_2 : decode cJ2_getChars_46870 2 = .ok (.aload_n 3, 1) := by decide +kernel
theorem dJ2_getChars_46870_3 : decode cJ2_getChars_46870 3 = .ok (.invokestatic 96, 3) := by decide +kernel
theorem dJ2_getChars_46870_6 : decode cJ2_getChars_46870 6 = .ok (.iload_n 0, 1) := by decide +kernel
theorem dJ2_getChars_46870_7 : decode cJ2_getChars_46870 7 = .ok (.iload_n 2, 1) := by decide +kernel
theorem dJ2_getChars_46870_8 : decode cJ2_getChars_46870 8 = .ok (.aload_n 3, 1) := by decide +kernel
theorem dJ2_getChars_46870_9 : decode cJ2_getChars_46870 9 = .ok (.invokestatic 393, 3) := by decide +kernel
theorem dJ2_getChars_46870_12 : decode cJ2_getChars_46870 12 = .ok (.istore 4, 2) := by decide +kernel
theorem dJ2_getChars_46870_14 : decode cJ2_getChars_46870 14 = .ok (.getstatic 44, 3) := by decide +kernel
theorem dJ2_getChars_46870_17 : decode cJ2_getChars_46870 17 = .ok (.ifCond .ne 17, 3) := by decide +kernel
theorem dJ2_getChars_46870_20 : decode cJ2_getChars_46870 20 = .ok (.iload_n 1, 1) := by decide +kernel
theorem dJ2_getChars_46870_21 : decode cJ2_getChars_46870 21 = .ok (.iload 4, 2) := by decide +kernel
theorem dJ2_getChars_46870_23 : decode cJ2_getChars_46870 23 = .ok (.if_icmp .eq 11, 3) := by decide +kernel
theorem dJ2_getChars_46870_26 : decode cJ2_getChars_46870 26 = .ok (.new 52, 3) := by decide +kernel
theorem dJ2_getChars_46870_29 : decode cJ2_getChars_46870 29 = .ok (.dup, 1) := by decide +kernel
theorem dJ2_getChars_46870_30 : decode cJ2_getChars_46870 30 = .ok (.invokespecial 66, 3) := by decide +kernel
theorem dJ2_getChars_46870_33 : decode cJ2_getChars_46870 33 = .ok (.athrow, 1) := by decide +kernel
theorem dJ2_getChars_46870_34 : decode cJ2_getChars_46870 34 = .ok (.iload 4, 2) := by decide +kernel
theorem dJ2_getChars_46870_36 : decode cJ2_getChars_46870 36 = .ok (.ireturn, 1) := by decide +kernel
theorem dJ2_putCharsAt_cd4e5_0 : decode cJ2_putCharsAt_cd4e5 0 = .ok (.iload_n 1, 1) := by decide +kernel
theorem dJ2_putCharsAt_cd4e5_1 : decode cJ2_putCharsAt_cd4e5 1 = .ok (.iconst 4, 1) := by decide +kernel
theorem dJ2_putCharsAt_cd4e5_2 : decode cJ2_putCharsAt_cd4e5 2 = .ok (.iadd, 1) := by decide +kernel
theorem dJ2_putCharsAt_cd4e5_3 : decode cJ2_putCharsAt_cd4e5 3 = .ok (.istore 6, 2) := by decide +kernel
theorem dJ2_putCharsAt_cd4e5_5 : decode cJ2_putCharsAt_cd4e5 5 = .ok (.iload_n 1, 1) := by decide +kernel
theorem dJ2_putCharsAt_cd4e5_6 : decode cJ2_putCharsAt_cd4e5 6 = .ok (.iload 6, 2) := by decide +kernel
theorem dJ2_putCharsAt_cd4e5_8 : decode cJ2_putCharsAt_cd4e5 8 = .ok (.aload_n 0, 1) := by decide +kernel
theorem dJ2_putCharsAt_cd4e5_9 : decode cJ2_putCharsAt_cd4e5 9 = .ok (.invokestatic 96, 3) := by decide +kernel
theorem dJ2_putCharsAt_cd4e5_12 : decode cJ2_putCharsAt_cd4e5 12 = .ok (.aload_n 0, 1) := by decide +kernel
theorem dJ2_putCharsAt_cd4e5_13 : decode cJ2_putCharsAt_cd4e5 13 = .ok (.iload_n 1, 1) := by decide +kernel
theorem dJ2_putCharsAt_cd4e5_14 : decode cJ2_putCharsAt_cd4e5 14 = .ok (.iinc 1 1, 3) := by decide +kernel
theorem dJ2_putCharsAt_cd4e5_17 : decode cJ2_putCharsAt_cd4e5 17 = .ok (.iload_n 2, 1) := by decide +kernel
theorem dJ2_putCharsAt_cd4e5_18 : decode cJ2_putCharsAt_cd4e5 18 = .ok (.invokestatic 111, 3) := by decide +kernel
theorem dJ2_putCharsAt_cd4e5_21 : decode cJ2_putCharsAt_cd4e5 21 = .ok (.aload_n 0, 1) := by decide +kernel
theorem dJ2_putCharsAt_cd4e5_22 : decode cJ2_putCharsAt_cd4e5 22 = .ok (.iload_n 1, 1) := by decide +kernel
theorem dJ2_putCharsAt_cd4e5_23 : decode cJ2_putCharsAt_cd4e5 23 = .ok (.iinc 1 1, 3) := by decide +kernel
theorem dJ2_putCharsAt_cd4e5_26 : decode cJ2_putCharsAt_cd4e5 26 = .ok (.iload_n 3, 1) := by decide +kernel
theorem dJ2_putCharsAt_cd4e5_27 : decode cJ2_putCharsAt_cd4e5 27 = .ok (.invokestatic 111, 3) := by decide +kernel
theorem dJ2_putCharsAt_cd4e5_30 : decode cJ2_putCharsAt_cd4e5 30 = .ok (.aload_n 0, 1) := by decide +kernel
theorem dJ2_putCharsAt_cd4e5_31 : decode cJ2_putCharsAt_cd4e5 31 = .ok (.iload_n 1, 1) := by decide +kernel
theorem dJ2_putCharsAt_cd4e5_32 : decode cJ2_putCharsAt_cd4e5 32 = .ok (.iinc 1 1, 3) := by decide +kernel
theorem dJ2_putCharsAt_cd4e5_35 : decode cJ2_putCharsAt_cd4e5 35 = .ok (.iload 4, 2) := by decide +kernel
theorem dJ2_putCharsAt_cd4e5_37 : decode cJ2_putCharsAt_cd4e5 37 = .ok (.invokestatic 111, 3) := by decide +kernel
theorem dJ2_putCharsAt_cd4e5_40 : decode cJ2_putCharsAt_cd4e5 40 = .ok (.aload_n 0, 1) := by decide +kernel
theorem dJ2_putCharsAt_cd4e5_41 : decode cJ2_putCharsAt_cd4e5 41 = .ok (.iload_n 1, 1) := by decide +kernel
theorem dJ2_putCharsAt_cd4e5_42 : decode cJ2_putCharsAt_cd4e5 42 = .ok (.iinc 1 1, 3) := by decide +kernel
theorem dJ2_putCharsAt_cd4e5_45 : decode cJ2_putCharsAt_cd4e5 45 = .ok (.iload 5, 2) := by decide +kernel
theorem dJ2_putCharsAt_cd4e5_47 : decode cJ2_putCharsAt_cd4e5 47 = .ok (.invokestatic 111, 3) := by decide +kernel
theorem dJ2_putCharsAt_cd4e5_50 : decode cJ2_putCharsAt_cd4e5 50 = .ok (.getstatic 44, 3) := by decide +kernel
theorem dJ2_putCharsAt_cd4e5_53 : decode cJ2_putCharsAt_cd4e5 53 = .ok (.ifCond .ne 17, 3) := by decide +kernel
theorem dJ2_putCharsAt_cd4e5_56 : decode cJ2_putCharsAt_cd4e5 56 = .ok (.iload_n 1, 1) := by decide +kernel
theorem dJ2_putCharsAt_cd4e5_57 : decode cJ2_putCharsAt_cd4e5 57 = .ok (.iload 6, 2) := by decide +kernel
theorem dJ2_putCharsAt_cd4e5_59 : decode cJ2_putCharsAt_cd4e5 59 = .ok (.if_icmp .eq 11, 3) := by decide +kernel
theorem dJ2_putCharsAt_cd4e5_62 : decode cJ2_putCharsAt_cd4e5 62 = .ok (.new 52, 3) := by decide +kernel
theorem dJ2_putCharsAt_cd4e5_65 : decode cJ2_putCharsAt_cd4e5 65 = .ok (.dup, 1) := by decide +kernel
theorem dJ2_putCharsAt_cd4e5_66 : decode cJ2_putCharsAt_cd4e5 66 = .ok (.invokespecial 66, 3) := by decide +kernel
theorem dJ2_putCharsAt_cd4e5_69 : decode cJ2_putCharsAt_cd4e5 69 = .ok (.athrow, 1) := by decide +kernel
theorem dJ2_putCharsAt_cd4e5_70 : decode cJ2_putCharsAt_cd4e5 70 = .ok (.iload 6, 2) := by decide +kernel
theorem dJ2_putCharsAt_cd4e5_72 : decode cJ2_putCharsAt_cd4e5 72 = .ok (.ireturn, 1) := by decide +kernel
theorem dJ2_inflate_0e8fd_0 : decode cJ2_inflate_0e8fd 0 = .ok (.iload_n 3, 1) := by decide +kernel
theorem dJ2_inflate_0e8fd_1 : decode cJ2_inflate_0e8fd 1 = .ok (.iload 4, 2) := by decide +kernel
theorem dJ2_inflate_0e8fd_3 : decode cJ2_inflate_0e8fd 3 = .ok (.aload_n 2, 1) := by decide +kernel
theorem dJ2_inflate_0e8fd_4 : decode cJ2_inflate_0e8fd 4 = .ok (.invokestatic 173, 3) := by decide +kernel
theorem dJ2_inflate_0e8fd_7 : decode cJ2_inflate_0e8fd 7 = .ok (.iconst 0, 1) := by decide +kernel
theorem dJ2_inflate_0e8fd_8 : decode cJ2_inflate_0e8fd 8 = .ok (.istore 5, 2) := by decide +kernel
theorem dJ2_inflate_0e8fd_10 : decode cJ2_inflate_0e8fd 10 = .ok (.iload 5, 2) := by decide +kernel
theorem dJ2_inflate_0e8fd_12 : decode cJ2_inflate_0e8fd 12 = .ok (.iload 4, 2) := by decide +kernel
theorem dJ2_inflate_0e8fd_14 : decode cJ2_inflate_0e8fd 14 = .ok (.if_icmp .ge 27, 3) := by decide +kernel
theorem dJ2_inflate_0e8fd_17 : decode cJ2_inflate_0e8fd 17 = .ok (.aload_n 2, 1) := by decide +kernel
theorem dJ2_inflate_0e8fd_18 : decode cJ2_inflate_0e8fd 18 = .ok (.iload_n 3, 1) := by decide +kernel
theorem dJ2_inflate_0e8fd_19 : decode cJ2_inflate_0e8fd 19 = .ok (.iinc 3 1, 3) := by decide +kernel
theorem dJ2_inflate_0e8fd_22 : decode cJ2_inflate_0e8fd 22 = .ok (.aload_n 0, 1) := by decide +kernel
theorem dJ2_inflate_0e8fd_23 : decode cJ2_inflate_0e8fd 23 = .ok (.iload_n 1, 1) := by decide +kernel
theorem dJ2_inflate_0e8fd_24 : decode cJ2_inflate_0e8fd 24 = .ok (.iinc 1 1, 3) := by decide +kernel
theorem dJ2_inflate_0e8fd_27 : decode cJ2_inflate_0e8fd 27 = .ok (.baload, 1) := by decide +kernel
theorem dJ2_inflate_0e8fd_28 : decode cJ2_inflate_0e8fd 28 = .ok (.sipush 255, 3) := by decide +kernel
theorem dJ2_inflate_0e8fd_31 : decode cJ2_inflate_0e8fd 31 = .ok (.iand, 1) := by decide +kernel
theorem dJ2_inflate_0e8fd_32 : decode cJ2_inflate_0e8fd 32 = .ok (.invokestatic 111, 3) := by decide +kernel
theorem dJ2_inflate_0e8fd_35 : decode cJ2_inflate_0e8fd 35 = .ok (.iinc 5 1, 3) := by decide +kernel
theorem dJ2_inflate_0e8fd_38 : decode cJ2_inflate_0e8fd 38 = .ok (.goto (-28), 3) := by decide +kernel
theorem dJ2_inflate_0e8fd_41 : decode cJ2_inflate_0e8fd 41 = .ok (.return_, 1) := by decide +kernel
theorem dJ2_getChars_ba4f3_0 : decode cJ2_getChars_ba4f3 0 = .ok (.iload_n 1, 1) := by decide +kernel
theorem dJ2_getChars_ba4f3_1 : decode cJ2_getChars_ba4f3 1 = .ok (.istore 5, 2) := by decide +kernel
theorem dJ2_getChars_ba4f3_3 : decode cJ2_getChars_ba4f3 3 = .ok (.iload_n 0, 1) := by decide +kernel
theorem dJ2_getChars_ba4f3_4 : decode cJ2_getChars_ba4f3 4 = .ok (.ifCond .ge 7, 3) := by decide +kernel
theorem dJ2_getChars_ba4f3_7 : decode cJ2_getChars_ba4f3 7 = .ok (.iconst 1, 1) := by decide +kernel
theorem dJ2_getChars_ba4f3_8 : decode cJ2_getChars_ba4f3 8 = .ok (.goto 4, 3) := by decide +kernel
theorem dJ2_getChars_ba4f3_11 : decode cJ2_getChars_ba4f3 11 = .ok (.iconst 0, 1) := by decide +kernel
theorem dJ2_getChars_ba4f3_12 : decode cJ2_getChars_ba4f3 12 = .ok (.istore 6, 2) := by decide +kernel
theorem dJ2_getChars_ba4f3_14 : decode cJ2_getChars_ba4f3 14 = .ok (.iload 6, 2) := by decide +kernel
theorem dJ2_getChars_ba4f3_16 : decode cJ2_getChars_ba4f3 16 = .ok (.ifCond .ne 6, 3) := by decide +kernel
theorem dJ2_getChars_ba4f3_19 : decode cJ2_getChars_ba4f3 19 = .ok (.iload_n 0, 1) := by decide +kernel
theorem dJ2_getChars_ba4f3_20 : decode cJ2_getChars_ba4f3 20 = .ok (.ineg, 1) := by decide +kernel
theorem dJ2_getChars_ba4f3_21 : decode cJ2_getChars_ba4f3 21 = .ok (.istore_n 0, 1) := by decide +kernel
theorem dJ2_getChars_ba4f3_22 : decode cJ2_getChars_ba4f3 22 = .ok (.iload_n 0, 1) := by decide +kernel
theorem dJ2_getChars_ba4f3_23 : decode cJ2_getChars_ba4f3 23 = .ok (.bipush (-100), 2) := by decide +kernel
theorem dJ2_getChars_ba4f3_25 : decode cJ2_getChars_ba4f3 25 = .ok (.if_icmp .gt 51, 3) := by decide +kernel
theorem dJ2_getChars_ba4f3_28 : decode cJ2_getChars_ba4f3 28 = .ok (.iload_n 0, 1) := by decide +kernel
theorem dJ2_getChars_ba4f3_29 : decode cJ2_getChars_ba4f3 29 = .ok (.bipush 100, 2) := by decide +kernel
theorem dJ2_getChars_ba4f3_31 : decode cJ2_getChars_ba4f3 31 = .ok (.idiv, 1) := by decide +kernel
theorem dJ2_getChars_ba4f3_32 : decode cJ2_getChars_ba4f3 32 = .ok (.istore_n 3, 1) := by decide +kernel
theorem dJ2_getChars_ba4f3_33 : decode cJ2_getChars_ba4f3 33 = .ok (.iload_n 3, 1) := by decide +kernel
theorem dJ2_getChars_ba4f3_34 : decode cJ2_getChars_ba4f3 34 = .ok (.bipush 100, 2) := by decide +kernel
theorem dJ2_getChars_ba4f3_36 : decode cJ2_getChars_ba4f3 36 = .ok (.imul, 1) := by decide +kernel
theorem dJ2_getChars_ba4f3_37 : decode cJ2_getChars_ba4f3 37 = .ok (.iload_n 0, 1) := by decide +kernel
theorem dJ2_getChars_ba4f3_38 : decode cJ2_getChars_ba4f3 38 = .ok (.isub, 1) := by decide +kernel
theorem dJ2_getChars_ba4f3_39 : decode cJ2_getChars_ba4f3 39 = .ok (.istore 4, 2) := by decide +kernel
theorem dJ2_getChars_ba4f3_41 : decode cJ2_getChars_ba4f3 41 = .ok (.iload_n 3, 1) := by decide +kernel
theorem dJ2_getChars_ba4f3_42 : decode cJ2_getChars_ba4f3 42 = .ok (.istore_n 0, 1) := by decide +kernel
theorem dJ2_getChars_ba4f3_43 : decode cJ2_getChars_ba4f3 43 = .ok (.aload_n 2, 1) := by decide +kernel
theorem dJ2_getChars_ba4f3_44 : decode cJ2_getChars_ba4f3 44 = .ok (.iinc 5 (-1), 3) := by decide +kernel
theorem dJ2_getChars_ba4f3_47 : decode cJ2_getChars_ba4f3 47 = .ok (.iload 5, 2) := by decide +kernel
theorem dJ2_getChars_ba4f3_49 : decode cJ2_getChars_ba4f3 49 = .ok (.getstatic 403, 3) := by decide +kernel
theorem dJ2_getChars_ba4f3_52 : decode cJ2_getChars_ba4f3 52 = .ok (.iload 4, 2) := by decide +kernel
theorem dJ2_getChars_ba4f3_54 : decode cJ2_getChars_ba4f3 54 = .ok (.baload, 1) := by decide +kernel
theorem dJ2_getChars_ba4f3_55 : decode cJ2_getChars_ba4f3 55 = .ok (.invokestatic 111, 3) := by decide +kernel
theorem dJ2_getChars_ba4f3_58 : decode cJ2_getChars_ba4f3 58 = .ok (.aload_n 2, 1) := by decide +kernel
theorem dJ2_getChars_ba4f3_59 : decode cJ2_getChars_ba4f3 59 = .ok (.iinc 5 (-1), 3) := by decide +kernel
theorem dJ2_getChars_ba4f3_62 : decode cJ2_getChars_ba4f3 62 = .ok (.iload 5, 2) := by decide +kernel
theorem dJ2_getChars_ba4f3_64 : decode cJ2_getChars_ba4f3 64 = .ok (.getstatic 407, 3) := by decide +kernel
theorem dJ2_getChars_ba4f3_67 : decode cJ2_getChars_ba4f3 67 = .ok (.iload 4, 2) := by decide +kernel
theorem dJ2_getChars_ba4f3_69 : decode cJ2_getChars_ba4f3 69 = .ok (.baload, 1) := by decide +kernel
theorem dJ2_getChars_ba4f3_70 : decode cJ2_getChars_ba4f3 70 = .ok (.invokestatic 111, 3) := by decide +kernel
theorem dJ2_getChars_ba4f3_73 : decode cJ2_getChars_ba4f3 73 = .ok (.goto (-51), 3) := by decide +kernel
theorem dJ2_getChars_ba4f3_76 : decode cJ2_getChars_ba4f3 76 = .ok (.aload_n 2, 1) := by decide +kernel
theorem dJ2_getChars_ba4f3_77 : decode cJ2_getChars_ba4f3 77 = .ok (.iinc 5 (-1), 3) := by decide +kernel
theorem dJ2_getChars_ba4f3_80 : decode cJ2_getChars_ba4f3 80 = .ok (.iload 5, 2) := by decide +kernel
theorem dJ2_getChars_ba4f3_82 : decode cJ2_getChars_ba4f3 82 = .ok (.getstatic 403, 3) := by decide +kernel
theorem dJ2_getChars_ba4f3_85 : decode cJ2_getChars_ba4f3 85 = .ok (.iload_n 0, 1) := by decide +kernel
theorem dJ2_getChars_ba4f3_86 : decode cJ2_getChars_ba4f3 86 = .ok (.ineg, 1) := by decide +kernel
theorem dJ2_getChars_ba4f3_87 : decode cJ2_getChars_ba4f3 87 = .ok (.baload, 1) := by decide +kernel
theorem dJ2_getChars_ba4f3_88 : decode cJ2_getChars_ba4f3 88 = .ok (.invokestatic 111, 3) := by decide +kernel
theorem dJ2_getChars_ba4f3_91 : decode cJ2_getChars_ba4f3 91 = .ok (.iload_n 0, 1) := by decide +kernel
theorem dJ2_getChars_ba4f3_92 : decode cJ2_getChars_ba4f3 92 = .ok (.bipush (-9), 2) := by decide +kernel
theorem dJ2_getChars_ba4f3_94 : decode cJ2_getChars_ba4f3 94 = .ok (.if_icmp .ge 18, 3) := by decide +kernel
theorem dJ2_getChars_ba4f3_97 : decode cJ2_getChars_ba4f3 97 = .ok (.aload_n 2, 1) := by decide +kernel
theorem dJ2_getChars_ba4f3_98 : decode cJ2_getChars_ba4f3 98 = .ok (.iinc 5 (-1), 3) := by decide +kernel
theorem dJ2_getChars_ba4f3_101 : decode cJ2_getChars_ba4f3 101 = .ok (.iload 5, 2) := by decide +kernel
theorem dJ2_getChars_ba4f3_103 : decode cJ2_getChars_ba4f3 103 = .ok (.getstatic 407, 3) := by decide +kernel
theorem dJ2_getChars_ba4f3_106 : decode cJ2_getChars_ba4f3 106 = .ok (.iload_n 0, 1) := by decide +kernel
theorem dJ2_getChars_ba4f3_107 : decode cJ2_getChars_ba4f3 107 = .ok (.ineg, 1) := by decide +kernel
theorem dJ2_getChars_ba4f3_108 : decode cJ2_getChars_ba4f3 108 = .ok (.baload, 1) := by decide +kernel
theorem dJ2_getChars_ba4f3_109 : decode cJ2_getChars_ba4f3 109 = .ok (.invokestatic 111, 3) := by decide +kernel
theorem dJ2_getChars_ba4f3_112 : decode cJ2_getChars_ba4f3 112 = .ok (.iload 6, 2) := by decide +kernel
theorem dJ2_getChars_ba4f3_114 : decode cJ2_getChars_ba4f3 114 = .ok (.ifCond .eq 14, 3) := by decide +kernel
theorem dJ2_getChars_ba4f3_117 : decode cJ2_getChars_ba4f3 117 = .ok (.aload_n 2, 1) := by decide +kernel
theorem dJ2_getChars_ba4f3_118 : decode cJ2_getChars_ba4f3 118 = .ok (.iinc 5 (-1), 3) := by decide +kernel
theorem dJ2_getChars_ba4f3_121 : decode cJ2_getChars_ba4f3 121 = .ok (.iload 5, 2) := by decide +kernel
theorem dJ2_getChars_ba4f3_123 : decode cJ2_getChars_ba4f3 123 = .ok (.bipush 45, 2) := by decide +kernel
theorem dJ2_getChars_ba4f3_125 : decode cJ2_getChars_ba4f3 125 = .ok (.invokestatic 111, 3) := by decide +kernel
theorem dJ2_getChars_ba4f3_128 : decode cJ2_getChars_ba4f3 128 = .ok (.iload 5, 2) := by decide +kernel
theorem dJ2_getChars_ba4f3_130 : decode cJ2_getChars_ba4f3 130 = .ok (.ireturn, 1) := by decide +kernel
theorem dJ2_checkIndex_2214a_0 : decode cJ2_checkIndex_2214a 0 = .ok (.iload_n 0, 1) := by decide +kernel
theorem dJ2_checkIndex_2214a_1 : decode cJ2_checkIndex_2214a 1 = .ok (.aload_n 1, 1) := by decide +kernel
theorem dJ2_checkIndex_2214a_2 : decode cJ2_checkIndex_2214a 2 = .ok (.invokestatic 48, 3) := by decide +kernel
theorem dJ2_checkIndex_2214a_5 : decode cJ2_checkIndex_2214a 5 = .ok (.invokestatic 414, 3) := by decide +kernel
theorem dJ2_checkIndex_2214a_8 : decode cJ2_checkIndex_2214a 8 = .ok (.return_, 1) := by decide +kernel
theorem dJ2_checkBoundsBeginEnd_d044e_0 : decode cJ2_checkBoundsBeginEnd_d044e 0 = .ok (.iload_n 0, 1) := by decide +kernel
theorem dJ2_checkBoundsBeginEnd_d044e_1 : decode cJ2_checkBoundsBeginEnd_d044e 1 = .ok (.iload_n 1, 1) := by decide +kernel
theorem dJ2_checkBoundsBeginEnd_d044e_2 : decode cJ2_checkBoundsBeginEnd_d044e 2 = .ok (.aload_n 2, 1) := by decide +kernel
theorem dJ2_checkBoundsBeginEnd_d044e_3 : decode cJ2_checkBoundsBeginEnd_d044e 3 = .ok (.invokestatic 48, 3) := by decide +kernel
theorem dJ2_checkBoundsBeginEnd_d044e_6 : decode cJ2_checkBoundsBeginEnd_d044e 6 = .ok (.invokestatic 241, 3) := by decide +kernel
theorem dJ2_checkBoundsBeginEnd_d044e_9 : decode cJ2_checkBoundsBeginEnd_d044e 9 = .ok (.return_, 1) := by decide +kernel
theorem dJ2_checkBoundsOffCount_d044e_0 : decode cJ2_checkBoundsOffCount_d044e 0 = .ok (.iload_n 0, 1) := by decide +kernel
theorem dJ2_checkBoundsOffCount_d044e_1 : decode cJ2_checkBoundsOffCount_d044e 1 = .ok (.iload_n 1, 1) := by decide +kernel
theorem dJ2_checkBoundsOffCount_d044e_2 : decode cJ2_checkBoundsOffCount_d044e 2 = .ok (.aload_n 2, 1) := by decide +kernel
theorem dJ2_checkBoundsOffCount_d044e_3 : decode cJ2_checkBoundsOffCount_d044e 3 = .ok (.invokestatic 48, 3) := by decide +kernel
theorem dJ2_checkBoundsOffCount_d044e_6 : decode cJ2_checkBoundsOffCount_d044e 6 = .ok (.invokestatic 419, 3) := by decide +kernel
theorem dJ2_checkBoundsOffCount_d044e_9 : decode cJ2_checkBoundsOffCount_d044e 9 = .ok (.pop, 1) := by decide +kernel
theorem dJ2_checkBoundsOffCount_d044e_10 : decode cJ2_checkBoundsOffCount_d044e 10 = .ok (.return_, 1) := by decide +kernel
theorem dJ7_copyOf_9075b_0 : decode cJ7_copyOf_9075b 0 = .ok (.iload_n 1, 1) := by decide +kernel
theorem dJ7_copyOf_9075b_1 : decode cJ7_copyOf_9075b 1 = .ok (.aload_n 0, 1) := by decide +kernel
theorem dJ7_copyOf_9075b_2 : decode cJ7_copyOf_9075b 2 = .ok (.arraylength, 1) := by decide +kernel
theorem dJ7_copyOf_9075b_3 : decode cJ7_copyOf_9075b 3 = .ok (.if_icmp .ne 11, 3) := by decide +kernel
theorem dJ7_copyOf_9075b_6 : decode cJ7_copyOf_9075b 6 = .ok (.aload_n 0, 1) := by decide +kernel
theorem dJ7_copyOf_9075b_7 : decode cJ7_copyOf_9075b 7 = .ok (.invokevirtual 310, 3) := by decide +kernel
theorem dJ7_copyOf_9075b_10 : decode cJ7_copyOf_9075b 10 = .ok (.checkcast 311, 3) := by decide +kernel
theorem dJ7_copyOf_9075b_13 : decode cJ7_copyOf_9075b 13 = .ok (.areturn, 1) := by decide +kernel
theorem dJ7_copyOf_9075b_14 : decode cJ7_copyOf_9075b 14 = .ok (.iload_n 1, 1) := by decide +kernel
theorem dJ7_copyOf_9075b_15 : decode cJ7_copyOf_9075b 15 = .ok (.newarray .byte, 2) := by decide +kernel
theorem dJ7_copyOf_9075b_17 : decode cJ7_copyOf_9075b 17 = .ok (.astore_n 2, 1) := by decide +kernel
theorem dJ7_copyOf_9075b_18 : decode cJ7_copyOf_9075b 18 = .ok (.aload_n 0, 1) := by decide +kernel
theorem dJ7_copyOf_9075b_19 : decode cJ7_copyOf_9075b 19 = .ok (.iconst 0, 1) := by decide +kernel
theorem dJ7_copyOf_9075b_20 : decode cJ7_copyOf_9075b 20 = .ok (.aload_n 2, 1) := by decide +kernel
theorem dJ7_copyOf_9075b_21 : decode cJ7_copyOf_9075b 21 = .ok (.iconst 0, 1) := by decide +kernel
theorem dJ7_copyOf_9075b_22 : decode cJ7_copyOf_9075b 22 = .ok (.aload_n 0, 1) := by decide +kernel
theorem dJ7_copyOf_9075b_23 : decode cJ7_copyOf_9075b 23 = .ok (.arraylength, 1) := by decide +kernel
theorem dJ7_copyOf_9075b_24 : decode cJ7_copyOf_9075b 24 = .ok (.iload_n 1, 1) := by decide +kernel
theorem dJ7_copyOf_9075b_25 : decode cJ7_copyOf_9075b 25 = .ok (.invokestatic 304, 3) := by decide +kernel
theorem dJ7_copyOf_9075b_28 : decode cJ7_copyOf_9075b 28 = .ok (.invokestatic 150, 3) := by decide +kernel
theorem dJ7_copyOf_9075b_31 : decode cJ7_copyOf_9075b 31 = .ok (.aload_n 2, 1) := by decide +kernel
theorem dJ7_copyOf_9075b_32 : decode cJ7_copyOf_9075b 32 = .ok (.areturn, 1) := by decide +kernel
theorem dJ7_checkLength_df160_0 : decode cJ7_checkLength_df160 0 = .ok (.iload_n 1, 1) := by decide +kernel
theorem dJ7_checkLength_df160_1 : decode cJ7_checkLength_df160 1 = .ok (.iload_n 0, 1) := by decide +kernel
theorem dJ7_checkLength_df160_2 : decode cJ7_checkLength_df160 2 = .ok (.if_icmp .ge 35, 3) := by decide +kernel
theorem dJ7_checkLength_df160_5 : decode cJ7_checkLength_df160 5 = .ok (.new 43, 3) := by decide +kernel
theorem dJ7_checkLength_df160_8 : decode cJ7_checkLength_df160 8 = .ok (.dup, 1) := by decide +kernel
theorem dJ7_checkLength_df160_9 : decode cJ7_checkLength_df160 9 = .ok (.new 45, 3) := by decide +kernel
theorem dJ7_checkLength_df160_12 : decode cJ7_checkLength_df160 12 = .ok (.dup, 1) := by decide +kernel
theorem dJ7_checkLength_df160_13 : decode cJ7_checkLength_df160 13 = .ok (.invokespecial 47, 3) := by decide +kernel
theorem dJ7_checkLength_df160_16 : decode cJ7_checkLength_df160 16 = .ok (.iload_n 0, 1) := by decide +kernel
theorem dJ7_checkLength_df160_17 : decode cJ7_checkLength_df160 17 = .ok (.invokevirtual 54, 3) := by decide +kernel
theorem dJ7_checkLength_df160_20 : decode cJ7_checkLength_df160 20 = .ok (.ldc_w 337, 3) := by decide +kernel
theorem dJ7_checkLength_df160_23 : decode cJ7_checkLength_df160 23 = .ok (.invokevirtual 50, 3) := by decide +kernel
theorem dJ7_checkLength_df160_26 : decode cJ7_checkLength_df160 26 = .ok (.iload_n 1, 1) := by decide +kernel
theorem dJ7_checkLength_df160_27 : decode cJ7_checkLength_df160 27 = .ok (.invokevirtual 54, 3) := by decide +kernel
theorem dJ7_checkLength_df160_30 : decode cJ7_checkLength_df160 30 = .ok (.invokevirtual 61, 3) := by decide +kernel
theorem dJ7_checkLength_df160_33 : decode cJ7_checkLength_df160 33 = .ok (.invokespecial 65, 3) := by decide +kernel
theorem dJ7_checkLength_df160_36 : decode cJ7_checkLength_df160 36 = .ok (.athrow, 1) := by decide +kernel
theorem dJ7_checkLength_df160_37 : decode cJ7_checkLength_df160 37 = .ok (.return_, 1) := by decide +kernel
theorem dJ7_copyOfRange_39247_0 : decode cJ7_copyOfRange_39247 0 = .ok (.iload_n 1, 1) := by decide +kernel
theorem dJ7_copyOfRange_39247_1 : decode cJ7_copyOfRange_39247 1 = .ok (.ifCond .ne 9, 3) := by decide +kernel
theorem dJ7_copyOfRange_39247_4 : decode cJ7_copyOfRange_39247 4 = .ok (.iload_n 2, 1) := by decide +kernel
theorem dJ7_copyOfRange_39247_5 : decode cJ7_copyOfRange_39247 5 = .ok (.aload_n 0, 1) := by decide +kernel
theorem dJ7_copyOfRange_39247_6 : decode cJ7_copyOfRange_39247 6 = .ok (.arraylength, 1) := by decide +kernel
theorem dJ7_copyOfRange_39247_7 : decode cJ7_copyOfRange_39247 7 = .ok (.if_icmp .eq 10, 3) := by decide +kernel
theorem dJ7_copyOfRange_39247_10 : decode cJ7_copyOfRange_39247 10 = .ok (.aload_n 0, 1) := by decide +kernel
theorem dJ7_copyOfRange_39247_11 : decode cJ7_copyOfRange_39247 11 = .ok (.iload_n 1, 1) := by decide +kernel
theorem dJ7_copyOfRange_39247_12 : decode cJ7_copyOfRange_39247 12 = .ok (.iload_n 2, 1) := by decide +kernel
theorem dJ7_copyOfRange_39247_13 : decode cJ7_copyOfRange_39247 13 = .ok (.invokestatic 339, 3) := by decide +kernel
theorem dJ7_copyOfRange_39247_16 : decode cJ7_copyOfRange_39247 16 = .ok (.areturn, 1) := by decide +kernel
theorem dJ7_copyOfRange_39247_17 : decode cJ7_copyOfRange_39247 17 = .ok (.aload_n 0, 1) := by decide +kernel
theorem dJ7_copyOfRange_39247_18 : decode cJ7_copyOfRange_39247 18 = .ok (.invokevirtual 310, 3) := by decide +kernel
theorem dJ7_copyOfRange_39247_21 : decode cJ7_copyOfRange_39247 21 = .ok (.checkcast 311, 3) := by decide +kernel
theorem dJ7_copyOfRange_39247_24 : decode cJ7_copyOfRange_39247 24 = .ok (.areturn, 1) := by decide +kernel
theorem dJ7_copyOfRangeByte_39247_0 : decode cJ7_copyOfRangeByte_39247 0 = .ok (.iload_n 1, 1) := by decide +kernel
theorem dJ7_copyOfRangeByte_39247_1 : decode cJ7_copyOfRangeByte_39247 1 = .ok (.iload_n 2, 1) := by decide +kernel
theorem dJ7_copyOfRangeByte_39247_2 : decode cJ7_copyOfRangeByte_39247 2 = .ok (.invokestatic 343, 3) := by decide +kernel
theorem dJ7_copyOfRangeByte_39247_5 : decode cJ7_copyOfRangeByte_39247 5 = .ok (.iload_n 2, 1) := by decide +kernel
theorem dJ7_copyOfRangeByte_39247_6 : decode cJ7_copyOfRangeByte_39247 6 = .ok (.iload_n 1, 1) := by decide +kernel
theorem dJ7_copyOfRangeByte_39247_7 : decode cJ7_copyOfRangeByte_39247 7 = .ok (.isub, 1) := by decide +kernel
theorem dJ7_copyOfRangeByte_39247_8 : decode cJ7_copyOfRangeByte_39247 8 = .ok (.istore_n 3, 1) := by decide +kernel
theorem dJ7_copyOfRangeByte_39247_9 : decode cJ7_copyOfRangeByte_39247 9 = .ok (.iload_n 3, 1) := by decide +kernel
theorem dJ7_copyOfRangeByte_39247_10 : decode cJ7_copyOfRangeByte_39247 10 = .ok (.newarray .byte, 2) := by decide +kernel
theorem dJ7_copyOfRangeByte_39247_12 : decode cJ7_copyOfRangeByte_39247 12 = .ok (.astore 4, 2) := by decide +kernel
theorem dJ7_copyOfRangeByte_39247_14 : decode cJ7_copyOfRangeByte_39247 14 = .ok (.aload_n 0, 1) := by decide +kernel
theorem dJ7_copyOfRangeByte_39247_15 : decode cJ7_copyOfRangeByte_39247 15 = .ok (.iload_n 1, 1) := by decide +kernel
theorem dJ7_copyOfRangeByte_39247_16 : decode cJ7_copyOfRangeByte_39247 16 = .ok (.aload 4, 2) := by decide +kernel
theorem dJ7_copyOfRangeByte_39247_18 : decode cJ7_copyOfRangeByte_39247 18 = .ok (.iconst 0, 1) := by decide +kernel
theorem dJ7_copyOfRangeByte_39247_19 : decode cJ7_copyOfRangeByte_39247 19 = .ok (.aload_n 0, 1) := by decide +kernel
theorem dJ7_copyOfRangeByte_39247_20 : decode cJ7_copyOfRangeByte_39247 20 = .ok (.arraylength, 1) := by decide +kernel
theorem dJ7_copyOfRangeByte_39247_21 : decode cJ7_copyOfRangeByte_39247 21 = .ok (.iload_n 1, 1) := by decide +kernel
theorem dJ7_copyOfRangeByte_39247_22 : decode cJ7_copyOfRangeByte_39247 22 = .ok (.isub, 1) := by decide +kernel
theorem dJ7_copyOfRangeByte_39247_23 : decode cJ7_copyOfRangeByte_39247 23 = .ok (.iload_n 3, 1) := by decide +kernel
theorem dJ7_copyOfRangeByte_39247_24 : decode cJ7_copyOfRangeByte_39247 24 = .ok (.invokestatic 304, 3) := by decide +kernel
theorem dJ7_copyOfRangeByte_39247_27 : decode cJ7_copyOfRangeByte_39247 27 = .ok (.invokestatic 150, 3) := by decide +kernel
theorem dJ7_copyOfRangeByte_39247_30 : decode cJ7_copyOfRangeByte_39247 30 = .ok (.aload 4, 2) := by decide +kernel
theorem dJ7_copyOfRangeByte_39247_32 : decode cJ7_copyOfRangeByte_39247 32 = .ok (.areturn, 1) := by decide +kernel
theorem dJ8_newLength_cabcc_0 : decode cJ8_newLength_cabcc 0 = .ok (.iload_n 0, 1) := by decide +kernel
theorem dJ8_newLength_cabcc_1 : decode cJ8_newLength_cabcc 1 = .ok (.iload_n 1, 1) := by decide +kernel
theorem dJ8_newLength_cabcc_2 : decode cJ8_newLength_cabcc 2 = .ok (.iload_n 2, 1) := by decide +kernel
theorem dJ8_newLength_cabcc_3 : decode cJ8_newLength_cabcc 3 = .ok (.invokestatic 194, 3) := by decide +kernel
theorem dJ8_newLength_cabcc_6 : decode cJ8_newLength_cabcc 6 = .ok (.iadd, 1) := by decide +kernel
theorem dJ8_newLength_cabcc_7 : decode cJ8_newLength_cabcc 7 = .ok (.istore_n 3, 1) := by decide +kernel
theorem dJ8_newLength_cabcc_8 : decode cJ8_newLength_cabcc 8 = .ok (.iconst 0, 1) := by decide +kernel
theorem dJ8_newLength_cabcc_9 : decode cJ8_newLength_cabcc 9 = .ok (.iload_n 3, 1) := by decide +kernel
theorem dJ8_newLength_cabcc_10 : decode cJ8_newLength_cabcc 10 = .ok (.if_icmp .ge 11, 3) := by decide +kernel
theorem dJ8_newLength_cabcc_13 : decode cJ8_newLength_cabcc 13 = .ok (.iload_n 3, 1) := by decide +kernel
theorem dJ8_newLength_cabcc_14 : decode cJ8_newLength_cabcc 14 = .ok (.ldc 200, 2) := by decide +kernel
theorem dJ8_newLength_cabcc_16 : decode cJ8_newLength_cabcc 16 = .ok (.if_icmp .gt 5, 3) := by decide +kernel
theorem dJ8_newLength_cabcc_19 : decode cJ8_newLength_cabcc 19 = .ok (.iload_n 3, 1) := by decide +kernel
theorem dJ8_newLength_cabcc_20 : decode cJ8_newLength_cabcc 20 = .ok (.ireturn, 1) := by decide +kernel
theorem dJ8_newLength_cabcc_21 : decode cJ8_newLength_cabcc 21 = .ok (.iload_n 0, 1) := by decide +kernel
theorem dJ8_newLength_cabcc_22 : decode cJ8_newLength_cabcc 22 = .ok (.iload_n 1, 1) := by decide +kernel
theorem dJ8_newLength_cabcc_23 : decode cJ8_newLength_cabcc 23 = .ok (.invokestatic 201, 3) := by decide +kernel
theorem dJ8_newLength_cabcc_26 : decode cJ8_newLength_cabcc 26 = .ok (.ireturn, 1) := by decide +kernel
theorem dJ8_hugeLength_7cf53_0 : decode cJ8_hugeLength_7cf53 0 = .ok (.iload_n 0, 1) := by decide +kernel
theorem dJ8_hugeLength_7cf53_1 : decode cJ8_hugeLength_7cf53 1 = .ok (.iload_n 1, 1) := by decide +kernel
theorem dJ8_hugeLength_7cf53_2 : decode cJ8_hugeLength_7cf53 2 = .ok (.iadd, 1) := by decide +kernel
theorem dJ8_hugeLength_7cf53_3 : decode cJ8_hugeLength_7cf53 3 = .ok (.istore_n 2, 1) := by decide +kernel
theorem dJ8_hugeLength_7cf53_4 : decode cJ8_hugeLength_7cf53 4 = .ok (.iload_n 2, 1) := by decide +kernel
theorem dJ8_hugeLength_7cf53_5 : decode cJ8_hugeLength_7cf53 5 = .ok (.ifCond .ge 44, 3) := by decide +kernel
theorem dJ8_hugeLength_7cf53_8 : decode cJ8_hugeLength_7cf53 8 = .ok (.new 204, 3) := by decide +kernel
theorem dJ8_hugeLength_7cf53_11 : decode cJ8_hugeLength_7cf53 11 = .ok (.dup, 1) := by decide +kernel
theorem dJ8_hugeLength_7cf53_12 : decode cJ8_hugeLength_7cf53 12 = .ok (.new 89, 3) := by decide +kernel
theorem dJ8_hugeLength_7cf53_15 : decode cJ8_hugeLength_7cf53 15 = .ok (.dup, 1) := by decide +kernel
theorem dJ8_hugeLength_7cf53_16 : decode cJ8_hugeLength_7cf53 16 = .ok (.invokespecial 91, 3) := by decide +kernel
theorem dJ8_hugeLength_7cf53_19 : decode cJ8_hugeLength_7cf53 19 = .ok (.ldc 206, 2) := by decide +kernel
theorem dJ8_hugeLength_7cf53_21 : decode cJ8_hugeLength_7cf53 21 = .ok (.invokevirtual 94, 3) := by decide +kernel
theorem dJ8_hugeLength_7cf53_24 : decode cJ8_hugeLength_7cf53 24 = .ok (.iload_n 0, 1) := by decide +kernel
theorem dJ8_hugeLength_7cf53_25 : decode cJ8_hugeLength_7cf53 25 = .ok (.invokevirtual 98, 3) := by decide +kernel
theorem dJ8_hugeLength_7cf53_28 : decode cJ8_hugeLength_7cf53 28 = .ok (.ldc 208, 2) := by decide +kernel
theorem dJ8_hugeLength_7cf53_30 : decode cJ8_hugeLength_7cf53 30 = .ok (.invokevirtual 94, 3) := by decide +kernel
theorem dJ8_hugeLength_7cf53_33 : decode cJ8_hugeLength_7cf53 33 = .ok (.iload_n 1, 1) := by decide +kernel
theorem dJ8_hugeLength_7cf53_34 : decode cJ8_hugeLength_7cf53 34 = .ok (.invokevirtual 98, 3) := by decide +kernel
theorem dJ8_hugeLength_7cf53_37 : decode cJ8_hugeLength_7cf53 37 = .ok (.ldc 210, 2) := by decide +kernel
theorem dJ8_hugeLength_7cf53_39 : decode cJ8_hugeLength_7cf53 39 = .ok (.invokevirtual 94, 3) := by decide +kernel
theorem dJ8_hugeLength_7cf53_42 : decode cJ8_hugeLength_7cf53 42 = .ok (.invokevirtual 101, 3) := by decide +kernel
theorem dJ8_hugeLength_7cf53_45 : decode cJ8_hugeLength_7cf53 45 = .ok (.invokespecial 212, 3) := by decide +kernel
theorem dJ8_hugeLength_7cf53_48 : decode cJ8_hugeLength_7cf53 48 = .ok (.athrow, 1) := by decide +kernel
theorem dJ8_hugeLength_7cf53_49 : decode cJ8_hugeLength_7cf53 49 = .ok (.iload_n 2, 1) := by decide +kernel
theorem dJ8_hugeLength_7cf53_50 : decode cJ8_hugeLength_7cf53 50 = .ok (.ldc 200, 2) := by decide +kernel
theorem dJ8_hugeLength_7cf53_52 : decode cJ8_hugeLength_7cf53 52 = .ok (.if_icmp .gt 6, 3) := by decide +kernel
theorem dJ8_hugeLength_7cf53_55 : decode cJ8_hugeLength_7cf53 55 = .ok (.ldc 200, 2) := by decide +kernel
theorem dJ8_hugeLength_7cf53_57 : decode cJ8_hugeLength_7cf53 57 = .ok (.ireturn, 1) := by decide +kernel
theorem dJ8_hugeLength_7cf53_58 : decode cJ8_hugeLength_7cf53 58 = .ok (.iload_n 2, 1) := by decide +kernel
theorem dJ8_hugeLength_7cf53_59 : decode cJ8_hugeLength_7cf53 59 = .ok (.ireturn, 1) := by decide +kernel
theorem dJ3_checkIndex_8e157_0 : decode cJ3_checkIndex_8e157 0 = .ok (.iload_n 0, 1) := by decide +kernel
theorem dJ3_checkIndex_8e157_1 : decode cJ3_checkIndex_8e157 1 = .ok (.ifCond .lt 8, 3) := by decide +kernel
theorem dJ3_checkIndex_8e157_4 : decode cJ3_checkIndex_8e157 4 = .ok (.iload_n 0, 1) := by decide +kernel
theorem dJ3_checkIndex_8e157_5 : decode cJ3_checkIndex_8e157 5 = .ok (.iload_n 1, 1) := by decide +kernel
theorem dJ3_checkIndex_8e157_6 : decode cJ3_checkIndex_8e157 6 = .ok (.if_icmp .lt 10, 3) := by decide +kernel
theorem dJ3_checkIndex_8e157_9 : decode cJ3_checkIndex_8e157 9 = .ok (.aload_n 2, 1) := by decide +kernel
theorem dJ3_checkIndex_8e157_10 : decode cJ3_checkIndex_8e157 10 = .ok (.iload_n 0, 1) := by decide +kernel
theorem dJ3_checkIndex_8e157_11 : decode cJ3_checkIndex_8e157 11 = .ok (.iload_n 1, 1) := by decide +kernel
theorem dJ3_checkIndex_8e157_12 : decode cJ3_checkIndex_8e157 12 = .ok (.invokestatic 95, 3) := by decide +kernel
theorem dJ3_checkIndex_8e157_15 : decode cJ3_checkIndex_8e157 15 = .ok (.athrow, 1) := by decide +kernel
theorem dJ3_checkIndex_8e157_16 : decode cJ3_checkIndex_8e157 16 = .ok (.iload_n 0, 1) := by decide +kernel
theorem dJ3_checkIndex_8e157_17 : decode cJ3_checkIndex_8e157 17 = .ok (.ireturn, 1) := by decide +kernel
theorem dJ3_checkFromToIndex_8c36e_0 : decode cJ3_checkFromToIndex_8c36e 0 = .ok (.iload_n 0, 1) := by decide +kernel
theorem dJ3_checkFromToIndex_8c36e_1 : decode cJ3_checkFromToIndex_8c36e 1 = .ok (.ifCond .lt 13, 3) := by decide +kernel
theorem dJ3_checkFromToIndex_8c36e_4 : decode cJ3_checkFromToIndex_8c36e 4 = .ok (.iload_n 0, 1) := by decide +kernel
theorem dJ3_checkFromToIndex_8c36e_5 : decode cJ3_checkFromToIndex_8c36e 5 = .ok (.iload_n 1, 1) := by decide +kernel
theorem dJ3_checkFromToIndex_8c36e_6 : decode cJ3_checkFromToIndex_8c36e 6 = .ok (.if_icmp .gt 8, 3) := by decide +kernel
theorem dJ3_checkFromToIndex_8c36e_9 : decode cJ3_checkFromToIndex_8c36e 9 = .ok (.iload_n 1, 1) := by decide +kernel
theorem dJ3_checkFromToIndex_8c36e_10 : decode cJ3_checkFromToIndex_8c36e 10 = .ok (.iload_n 2, 1) := by decide +kernel
theorem dJ3_checkFromToIndex_8c36e_11 : decode cJ3_checkFromToIndex_8c36e 11 = .ok (.if_icmp .le 11, 3) := by decide +kernel
theorem dJ3_checkFromToIndex_8c36e_14 : decode cJ3_checkFromToIndex_8c36e 14 = .ok (.aload_n 3, 1) := by decide +kernel
theorem dJ3_checkFromToIndex_8c36e_15 : decode cJ3_checkFromToIndex_8c36e 15 = .ok (.iload_n 0, 1) := by decide +kernel
theorem dJ3_checkFromToIndex_8c36e_16 : decode cJ3_checkFromToIndex_8c36e 16 = .ok (.iload_n 1, 1) := by decide +kernel
theorem dJ3_checkFromToIndex_8c36e_17 : decode cJ3_checkFromToIndex_8c36e 17 = .ok (.iload_n 2, 1) := by decide +kernel
theorem dJ3_checkFromToIndex_8c36e_18 : decode cJ3_checkFromToIndex_8c36e 18 = .ok (.invokestatic 99, 3) := by decide +kernel
theorem dJ3_checkFromToIndex_8c36e_21 : decode cJ3_checkFromToIndex_8c36e 21 = .ok (.athrow, 1) := by decide +kernel
theorem dJ3_checkFromToIndex_8c36e_22 : decode cJ3_checkFromToIndex_8c36e 22 = .ok (.iload_n 0, 1) := by decide +kernel
theorem dJ3_checkFromToIndex_8c36e_23 : decode cJ3_checkFromToIndex_8c36e 23 = .ok (.ireturn, 1) := by decide +kernel
theorem dJ3_checkFromIndexSize_8c36e_0 : decode cJ3_checkFromIndexSize_8c36e 0 = .ok (.iload_n 2, 1) := by decide +kernel
theorem dJ3_checkFromIndexSize_8c36e_1 : decode cJ3_checkFromIndexSize_8c36e 1 = .ok (.iload_n 0, 1) := by decide +kernel
theorem dJ3_checkFromIndexSize_8c36e_2 : decode cJ3_checkFromIndexSize_8c36e 2 = .ok (.ior, 1) := by decide +kernel
theorem dJ3_checkFromIndexSize_8c36e_3 : decode cJ3_checkFromIndexSize_8c36e 3 = .ok (.iload_n 1, 1) := by decide +kernel
theorem dJ3_checkFromIndexSize_8c36e_4 : decode cJ3_checkFromIndexSize_8c36e 4 = .ok (.ior, 1) := by decide +kernel
theorem dJ3_checkFromIndexSize_8c36e_5 : decode cJ3_checkFromIndexSize_8c36e 5 = .ok (.ifCond .lt 10, 3) := by decide +kernel
theorem dJ3_checkFromIndexSize_8c36e_8 : decode cJ3_checkFromIndexSize_8c36e 8 = .ok (.iload_n 1, 1) := by decide +kernel
theorem dJ3_checkFromIndexSize_8c36e_9 : decode cJ3_checkFromIndexSize_8c36e 9 = .ok (.iload_n 2, 1) := by decide +kernel
theorem dJ3_checkFromIndexSize_8c36e_10 : decode cJ3_checkFromIndexSize_8c36e 10 = .ok (.iload_n 0, 1) := by decide +kernel
theorem dJ3_checkFromIndexSize_8c36e_11 : decode cJ3_checkFromIndexSize_8c36e 11 = .ok (.isub, 1) := by decide +kernel
end
section
theorem dJ3_checkFromIndexSize_8c36e_12 : decode cJ3_checkFromIndexSize_8c36e 12 = .ok (.if_icmp .le 11, 3) := by decide +kernel
theorem dJ3_checkFromIndexSize_8c36e_15 : decode cJ3_checkFromIndexSize_8c36e 15 = .ok (.aload_n 3, 1) := by decide +kernel
theorem dJ3_checkFromIndexSize_8c36e_16 : decode cJ3_checkFromIndexSize_8c36e 16 = .ok (.iload_n 0, 1) := by decide +kernel
theorem dJ3_checkFromIndexSize_8c36e_17 : decode cJ3_checkFromIndexSize_8c36e 17 = .ok (.iload_n 1, 1) := by decide +kernel
theorem dJ3_checkFromIndexSize_8c36e_18 : decode cJ3_checkFromIndexSize_8c36e 18 = .ok (.iload_n 2, 1) := by decide +kernel
theorem dJ3_checkFromIndexSize_8c36e_19 : decode cJ3_checkFromIndexSize_8c36e 19 = .ok (.invokestatic 103, 3) := by decide +kernel
theorem dJ3_checkFromIndexSize_8c36e_22 : decode cJ3_checkFromIndexSize_8c36e 22 = .ok (.athrow, 1) := by decide +kernel
theorem dJ3_checkFromIndexSize_8c36e_23 : decode cJ3_checkFromIndexSize_8c36e 23 = .ok (.iload_n 0, 1) := by decide +kernel
theorem dJ3_checkFromIndexSize_8c36e_24 : decode cJ3_checkFromIndexSize_8c36e 24 = .ok (.ireturn, 1) := by decide +kernel
theorem dL_write_0 : decode cL_write 0 = .ok (.aload 5, 2) := by decide +kernel
theorem dL_write_2 : decode cL_write 2 = .ok (.aload_n 0, 1) := by decide +kernel
theorem dL_write_3 : decode cL_write 3 = .ok (.iload_n 1, 1) := by decide +kernel
theorem dL_write_4 : decode cL_write 4 = .ok (.iload_n 2, 1) := by decide +kernel
theorem dL_write_5 : decode cL_write 5 = .ok (.iload_n 3, 1) := by decide +kernel
theorem dL_write_6 : decode cL_write 6 = .ok (.iload 4, 2) := by decide +kernel
theorem dL_write_8 : decode cL_write 8 = .ok (.invokevirtual 7, 3) := by decide +kernel
theorem dL_write_11 : decode cL_write 11 = .ok (.i2l, 1) := by decide +kernel
theorem dL_write_12 : decode cL_write 12 = .ok (.putfield 13, 3) := by decide +kernel
theorem dL_write_15 : decode cL_write 15 = .ok (.goto 15, 3) := by decide +kernel
theorem dL_write_18 : decode cL_write 18 = .ok (.astore 6, 2) := by decide +kernel
theorem dL_write_20 : decode cL_write 20 = .ok (.iconst 1, 1) := by decide +kernel
theorem dL_write_21 : decode cL_write 21 = .ok (.ireturn, 1) := by decide +kernel
theorem dL_write_22 : decode cL_write 22 = .ok (.astore 6, 2) := by decide +kernel
theorem dL_write_24 : decode cL_write 24 = .ok (.iconst 2, 1) := by decide +kernel
theorem dL_write_25 : decode cL_write 25 = .ok (.ireturn, 1) := by decide +kernel
theorem dL_write_26 : decode cL_write 26 = .ok (.astore 6, 2) := by decide +kernel
theorem dL_write_28 : decode cL_write 28 = .ok (.iconst 3, 1) := by decide +kernel
theorem dL_write_29 : decode cL_write 29 = .ok (.ireturn, 1) := by decide +kernel
theorem dL_write_30 : decode cL_write 30 = .ok (.iconst 0, 1) := by decide +kernel
theorem dL_write_31 : decode cL_write 31 = .ok (.ireturn, 1) := by decide +kernel
theorem dL_fill_0 : decode cL_fill 0 = .ok (.aload 4, 2) := by decide +kernel
theorem dL_fill_2 : decode cL_fill 2 = .ok (.aload_n 0, 1) := by decide +kernel
theorem dL_fill_3 : decode cL_fill 3 = .ok (.iload_n 1, 1) := by decide +kernel
theorem dL_fill_4 : decode cL_fill 4 = .ok (.iload_n 2, 1) := by decide +kernel
theorem dL_fill_5 : decode cL_fill 5 = .ok (.iload_n 3, 1) := by decide +kernel
theorem dL_fill_6 : decode cL_fill 6 = .ok (.invokevirtual 25, 3) := by decide +kernel
theorem dL_fill_9 : decode cL_fill 9 = .ok (.i2l, 1) := by decide +kernel
theorem dL_fill_10 : decode cL_fill 10 = .ok (.putfield 13, 3) := by decide +kernel
theorem dL_fill_13 : decode cL_fill 13 = .ok (.goto 11, 3) := by decide +kernel
theorem dL_fill_16 : decode cL_fill 16 = .ok (.astore 5, 2) := by decide +kernel
theorem dL_fill_18 : decode cL_fill 18 = .ok (.iconst 1, 1) := by decide +kernel
theorem dL_fill_19 : decode cL_fill 19 = .ok (.ireturn, 1) := by decide +kernel
theorem dL_fill_20 : decode cL_fill 20 = .ok (.astore 5, 2) := by decide +kernel
theorem dL_fill_22 : decode cL_fill 22 = .ok (.iconst 2, 1) := by decide +kernel
theorem dL_fill_23 : decode cL_fill 23 = .ok (.ireturn, 1) := by decide +kernel
theorem dL_fill_24 : decode cL_fill 24 = .ok (.iconst 0, 1) := by decide +kernel
theorem dL_fill_25 : decode cL_fill 25 = .ok (.ireturn, 1) := by decide +kernel
theorem dL_cut_0 : decode cL_cut 0 = .ok (.aload 4, 2) := by decide +kernel
theorem dL_cut_2 : decode cL_cut 2 = .ok (.aload_n 0, 1) := by decide +kernel
theorem dL_cut_3 : decode cL_cut 3 = .ok (.iload_n 1, 1) := by decide +kernel
theorem dL_cut_4 : decode cL_cut 4 = .ok (.iload_n 2, 1) := by decide +kernel
theorem dL_cut_5 : decode cL_cut 5 = .ok (.iload_n 3, 1) := by decide +kernel
theorem dL_cut_6 : decode cL_cut 6 = .ok (.invokevirtual 29, 3) := by decide +kernel
theorem dL_cut_9 : decode cL_cut 9 = .ok (.i2l, 1) := by decide +kernel
theorem dL_cut_10 : decode cL_cut 10 = .ok (.putfield 13, 3) := by decide +kernel
theorem dL_cut_13 : decode cL_cut 13 = .ok (.goto 11, 3) := by decide +kernel
theorem dL_cut_16 : decode cL_cut 16 = .ok (.astore 5, 2) := by decide +kernel
theorem dL_cut_18 : decode cL_cut 18 = .ok (.iconst 1, 1) := by decide +kernel
theorem dL_cut_19 : decode cL_cut 19 = .ok (.ireturn, 1) := by decide +kernel
theorem dL_cut_20 : decode cL_cut 20 = .ok (.astore 5, 2) := by decide +kernel
theorem dL_cut_22 : decode cL_cut 22 = .ok (.iconst 2, 1) := by decide +kernel
theorem dL_cut_23 : decode cL_cut 23 = .ok (.ireturn, 1) := by decide +kernel
theorem dL_cut_24 : decode cL_cut 24 = .ok (.iconst 0, 1) := by decide +kernel
theorem dL_cut_25 : decode cL_cut 25 = .ok (.ireturn, 1) := by decide +kernel
theorem dL_take_0 : decode cL_take 0 = .ok (.aload 4, 2) := by decide +kernel
theorem dL_take_2 : decode cL_take 2 = .ok (.aload_n 0, 1) := by decide +kernel
theorem dL_take_3 : decode cL_take 3 = .ok (.iload_n 1, 1) := by decide +kernel
theorem dL_take_4 : decode cL_take 4 = .ok (.iload_n 2, 1) := by decide +kernel
theorem dL_take_5 : decode cL_take 5 = .ok (.iload_n 3, 1) := by decide +kernel
theorem dL_take_6 : decode cL_take 6 = .ok (.invokevirtual 32, 3) := by decide +kernel
theorem dL_take_9 : decode cL_take 9 = .ok (.i2l, 1) := by decide +kernel
theorem dL_take_10 : decode cL_take 10 = .ok (.putfield 13, 3) := by decide +kernel
theorem dL_take_13 : decode cL_take 13 = .ok (.goto 11, 3) := by decide +kernel
theorem dL_take_16 : decode cL_take 16 = .ok (.astore 5, 2) := by decide +kernel
theorem dL_take_18 : decode cL_take 18 = .ok (.iconst 1, 1) := by decide +kernel
theorem dL_take_19 : decode cL_take 19 = .ok (.ireturn, 1) := by decide +kernel
theorem dL_take_20 : decode cL_take 20 = .ok (.astore 5, 2) := by decide +kernel
theorem dL_take_22 : decode cL_take 22 = .ok (.iconst 2, 1) := by decide +kernel
theorem dL_take_23 : decode cL_take 23 = .ok (.ireturn, 1) := by decide +kernel
theorem dL_take_24 : decode cL_take 24 = .ok (.iconst 0, 1) := by decide +kernel
theorem dL_take_25 : decode cL_take 25 = .ok (.ireturn, 1) := by decide +kernel
theorem dL_put_0 : decode cL_put 0 = .ok (.aload 4, 2) := by decide +kernel
theorem dL_put_2 : decode cL_put 2 = .ok (.aload_n 0, 1) := by decide +kernel
theorem dL_put_3 : decode cL_put 3 = .ok (.iload_n 1, 1) := by decide +kernel
theorem dL_put_4 : decode cL_put 4 = .ok (.iload_n 2, 1) := by decide +kernel
theorem dL_put_5 : decode cL_put 5 = .ok (.iload_n 3, 1) := by decide +kernel
theorem dL_put_6 : decode cL_put 6 = .ok (.invokevirtual 35, 3) := by decide +kernel
theorem dL_put_9 : decode cL_put 9 = .ok (.i2l, 1) := by decide +kernel
theorem dL_put_10 : decode cL_put 10 = .ok (.putfield 13, 3) := by decide +kernel
theorem dL_put_13 : decode cL_put 13 = .ok (.goto 15, 3) := by decide +kernel
theorem dL_put_16 : decode cL_put 16 = .ok (.astore 5, 2) := by decide +kernel
theorem dL_put_18 : decode cL_put 18 = .ok (.iconst 1, 1) := by decide +kernel
theorem dL_put_19 : decode cL_put 19 = .ok (.ireturn, 1) := by decide +kernel
theorem dL_put_20 : decode cL_put 20 = .ok (.astore 5, 2) := by decide +kernel
theorem dL_put_22 : decode cL_put 22 = .ok (.iconst 2, 1) := by decide +kernel
theorem dL_put_23 : decode cL_put 23 = .ok (.ireturn, 1) := by decide +kernel
theorem dL_put_24 : decode cL_put 24 = .ok (.astore 5, 2) := by decide +kernel
theorem dL_put_26 : decode cL_put 26 = .ok (.iconst 3, 1) := by decide +kernel
theorem dL_put_27 : decode cL_put 27 = .ok (.ireturn, 1) := by decide +kernel
theorem dL_put_28 : decode cL_put 28 = .ok (.iconst 0, 1) := by decide +kernel
theorem dL_put_29 : decode cL_put 29 = .ok (.ireturn, 1) := by decide +kernel
theorem dL_copy_0 : decode cL_copy 0 = .ok (.aload_n 3, 1) := by decide +kernel
theorem dL_copy_1 : decode cL_copy 1 = .ok (.aload_n 0, 1) := by decide +kernel
theorem dL_copy_2 : decode cL_copy 2 = .ok (.iload_n 1, 1) := by decide +kernel
theorem dL_copy_3 : decode cL_copy 3 = .ok (.iload_n 2, 1) := by decide +kernel
theorem dL_copy_4 : decode cL_copy 4 = .ok (.invokevirtual 38, 3) := by decide +kernel
theorem dL_copy_7 : decode cL_copy 7 = .ok (.i2l, 1) := by decide +kernel
theorem dL_copy_8 : decode cL_copy 8 = .ok (.putfield 13, 3) := by decide +kernel
theorem dL_copy_11 : decode cL_copy 11 = .ok (.goto 7, 3) := by decide +kernel
theorem dL_copy_14 : decode cL_copy 14 = .ok (.astore 4, 2) := by decide +kernel
theorem dL_copy_16 : decode cL_copy 16 = .ok (.iconst 1, 1) := by decide +kernel
theorem dL_copy_17 : decode cL_copy 17 = .ok (.ireturn, 1) := by decide +kernel
theorem dL_copy_18 : decode cL_copy 18 = .ok (.iconst 0, 1) := by decide +kernel
theorem dL_copy_19 : decode cL_copy 19 = .ok (.ireturn, 1) := by decide +kernel
theorem dL_leave_0 : decode cL_leave 0 = .ok (.aload_n 2, 1) := by decide +kernel
theorem dL_leave_1 : decode cL_leave 1 = .ok (.aload_n 0, 1) := by decide +kernel
theorem dL_leave_2 : decode cL_leave 2 = .ok (.iload_n 1, 1) := by decide +kernel
theorem dL_leave_3 : decode cL_leave 3 = .ok (.invokevirtual 42, 3) := by decide +kernel
theorem dL_leave_6 : decode cL_leave 6 = .ok (.i2l, 1) := by decide +kernel
theorem dL_leave_7 : decode cL_leave 7 = .ok (.putfield 13, 3) := by decide +kernel
theorem dL_leave_10 : decode cL_leave 10 = .ok (.goto 6, 3) := by decide +kernel
theorem dL_leave_13 : decode cL_leave 13 = .ok (.astore_n 3, 1) := by decide +kernel
theorem dL_leave_14 : decode cL_leave 14 = .ok (.iconst 1, 1) := by decide +kernel
theorem dL_leave_15 : decode cL_leave 15 = .ok (.ireturn, 1) := by decide +kernel
theorem dL_leave_16 : decode cL_leave 16 = .ok (.iconst 0, 1) := by decide +kernel
theorem dL_leave_17 : decode cL_leave 17 = .ok (.ireturn, 1) := by decide +kernel
theorem dL_insides_0 : decode cL_insides 0 = .ok (.aload_n 3, 1) := by decide +kernel
theorem dL_insides_1 : decode cL_insides 1 = .ok (.aload_n 0, 1) := by decide +kernel
theorem dL_insides_2 : decode cL_insides 2 = .ok (.iload_n 1, 1) := by decide +kernel
theorem dL_insides_3 : decode cL_insides 3 = .ok (.iload_n 2, 1) := by decide +kernel
theorem dL_insides_4 : decode cL_insides 4 = .ok (.invokevirtual 46, 3) := by decide +kernel
theorem dL_insides_7 : decode cL_insides 7 = .ok (.i2l, 1) := by decide +kernel
theorem dL_insides_8 : decode cL_insides 8 = .ok (.putfield 13, 3) := by decide +kernel
theorem dL_insides_11 : decode cL_insides 11 = .ok (.goto 15, 3) := by decide +kernel
theorem dL_insides_14 : decode cL_insides 14 = .ok (.astore 4, 2) := by decide +kernel
theorem dL_insides_16 : decode cL_insides 16 = .ok (.iconst 1, 1) := by decide +kernel
theorem dL_insides_17 : decode cL_insides 17 = .ok (.ireturn, 1) := by decide +kernel
theorem dL_insides_18 : decode cL_insides 18 = .ok (.astore 4, 2) := by decide +kernel
theorem dL_insides_20 : decode cL_insides 20 = .ok (.iconst 2, 1) := by decide +kernel
theorem dL_insides_21 : decode cL_insides 21 = .ok (.ireturn, 1) := by decide +kernel
theorem dL_insides_22 : decode cL_insides 22 = .ok (.astore 4, 2) := by decide +kernel
theorem dL_insides_24 : decode cL_insides 24 = .ok (.iconst 3, 1) := by decide +kernel
theorem dL_insides_25 : decode cL_insides 25 = .ok (.ireturn, 1) := by decide +kernel
theorem dL_insides_26 : decode cL_insides 26 = .ok (.iconst 0, 1) := by decide +kernel
theorem dL_insides_27 : decode cL_insides 27 = .ok (.ireturn, 1) := by decide +kernel
theorem dL_text_0 : decode cL_text 0 = .ok (.aload_n 2, 1) := by decide +kernel
theorem dL_text_1 : decode cL_text 1 = .ok (.aload_n 0, 1) := by decide +kernel
theorem dL_text_2 : decode cL_text 2 = .ok (.iload_n 1, 1) := by decide +kernel
theorem dL_text_3 : decode cL_text 3 = .ok (.invokevirtual 49, 3) := by decide +kernel
theorem dL_text_6 : decode cL_text 6 = .ok (.putfield 53, 3) := by decide +kernel
theorem dL_text_9 : decode cL_text 9 = .ok (.goto 6, 3) := by decide +kernel
theorem dL_text_12 : decode cL_text 12 = .ok (.astore_n 3, 1) := by decide +kernel
theorem dL_text_13 : decode cL_text 13 = .ok (.iconst 1, 1) := by decide +kernel
theorem dL_text_14 : decode cL_text 14 = .ok (.ireturn, 1) := by decide +kernel
theorem dL_text_15 : decode cL_text 15 = .ok (.iconst 0, 1) := by decide +kernel
theorem dL_text_16 : decode cL_text 16 = .ok (.ireturn, 1) := by decide +kernel
theorem dL_length_0 : decode cL_length 0 = .ok (.aload_n 2, 1) := by decide +kernel
theorem dL_length_1 : decode cL_length 1 = .ok (.aload_n 0, 1) := by decide +kernel
theorem dL_length_2 : decode cL_length 2 = .ok (.iload_n 1, 1) := by decide +kernel
theorem dL_length_3 : decode cL_length 3 = .ok (.invokevirtual 57, 3) := by decide +kernel
theorem dL_length_6 : decode cL_length 6 = .ok (.i2l, 1) := by decide +kernel
theorem dL_length_7 : decode cL_length 7 = .ok (.putfield 13, 3) := by decide +kernel
theorem dL_length_10 : decode cL_length 10 = .ok (.goto 6, 3) := by decide +kernel
theorem dL_length_13 : decode cL_length 13 = .ok (.astore_n 3, 1) := by decide +kernel
theorem dL_length_14 : decode cL_length 14 = .ok (.iconst 1, 1) := by decide +kernel
theorem dL_length_15 : decode cL_length 15 = .ok (.ireturn, 1) := by decide +kernel
theorem dL_length_16 : decode cL_length 16 = .ok (.iconst 0, 1) := by decide +kernel
theorem dL_length_17 : decode cL_length 17 = .ok (.ireturn, 1) := by decide +kernel
theorem dL_signAt_0 : decode cL_signAt 0 = .ok (.aload_n 3, 1) := by decide +kernel
theorem dL_signAt_1 : decode cL_signAt 1 = .ok (.aload_n 0, 1) := by decide +kernel
theorem dL_signAt_2 : decode cL_signAt 2 = .ok (.iload_n 1, 1) := by decide +kernel
theorem dL_signAt_3 : decode cL_signAt 3 = .ok (.iload_n 2, 1) := by decide +kernel
theorem dL_signAt_4 : decode cL_signAt 4 = .ok (.invokevirtual 60, 3) := by decide +kernel
theorem dL_signAt_7 : decode cL_signAt 7 = .ok (.i2l, 1) := by decide +kernel
theorem dL_signAt_8 : decode cL_signAt 8 = .ok (.putfield 13, 3) := by decide +kernel
theorem dL_signAt_11 : decode cL_signAt 11 = .ok (.goto 7, 3) := by decide +kernel
theorem dL_signAt_14 : decode cL_signAt 14 = .ok (.astore 4, 2) := by decide +kernel
theorem dL_signAt_16 : decode cL_signAt 16 = .ok (.iconst 1, 1) := by decide +kernel
theorem dL_signAt_17 : decode cL_signAt 17 = .ok (.ireturn, 1) := by decide +kernel
theorem dL_signAt_18 : decode cL_signAt 18 = .ok (.iconst 0, 1) := by decide +kernel
theorem dL_signAt_19 : decode cL_signAt 19 = .ok (.ireturn, 1) := by decide +kernel
theorem dL_part_0 : decode cL_part 0 = .ok (.aload 4, 2) := by decide +kernel
theorem dL_part_2 : decode cL_part 2 = .ok (.aload_n 0, 1) := by decide +kernel
theorem dL_part_3 : decode cL_part 3 = .ok (.iload_n 1, 1) := by decide +kernel
theorem dL_part_4 : decode cL_part 4 = .ok (.iload_n 2, 1) := by decide +kernel
theorem dL_part_5 : decode cL_part 5 = .ok (.iload_n 3, 1) := by decide +kernel
theorem dL_part_6 : decode cL_part 6 = .ok (.invokevirtual 63, 3) := by decide +kernel
theorem dL_part_9 : decode cL_part 9 = .ok (.putfield 53, 3) := by decide +kernel
theorem dL_part_12 : decode cL_part 12 = .ok (.goto 7, 3) := by decide +kernel
theorem dL_part_15 : decode cL_part 15 = .ok (.astore 5, 2) := by decide +kernel
theorem dL_part_17 : decode cL_part 17 = .ok (.iconst 1, 1) := by decide +kernel
theorem dL_part_18 : decode cL_part 18 = .ok (.ireturn, 1) := by decide +kernel
theorem dL_part_19 : decode cL_part 19 = .ok (.iconst 0, 1) := by decide +kernel
theorem dL_part_20 : decode cL_part 20 = .ok (.ireturn, 1) := by decide +kernel
theorem dL_isEmpty_0 : decode cL_isEmpty 0 = .ok (.aload_n 2, 1) := by decide +kernel
theorem dL_isEmpty_1 : decode cL_isEmpty 1 = .ok (.aload_n 0, 1) := by decide +kernel
theorem dL_isEmpty_2 : decode cL_isEmpty 2 = .ok (.iload_n 1, 1) := by decide +kernel
theorem dL_isEmpty_3 : decode cL_isEmpty 3 = .ok (.invokevirtual 67, 3) := by decide +kernel
theorem dL_isEmpty_6 : decode cL_isEmpty 6 = .ok (.ifCond .eq 7, 3) := by decide +kernel
theorem dL_isEmpty_9 : decode cL_isEmpty 9 = .ok (.lconst 1, 1) := by decide +kernel
theorem dL_isEmpty_10 : decode cL_isEmpty 10 = .ok (.goto 4, 3) := by decide +kernel
theorem dL_isEmpty_13 : decode cL_isEmpty 13 = .ok (.lconst 0, 1) := by decide +kernel
theorem dL_isEmpty_14 : decode cL_isEmpty 14 = .ok (.putfield 13, 3) := by decide +kernel
theorem dL_isEmpty_17 : decode cL_isEmpty 17 = .ok (.goto 9, 3) := by decide +kernel
theorem dL_isEmpty_20 : decode cL_isEmpty 20 = .ok (.astore_n 3, 1) := by decide +kernel
theorem dL_isEmpty_21 : decode cL_isEmpty 21 = .ok (.iconst 1, 1) := by decide +kernel
theorem dL_isEmpty_22 : decode cL_isEmpty 22 = .ok (.ireturn, 1) := by decide +kernel
theorem dL_isEmpty_23 : decode cL_isEmpty 23 = .ok (.astore_n 3, 1) := by decide +kernel
theorem dL_isEmpty_24 : decode cL_isEmpty 24 = .ok (.iconst 2, 1) := by decide +kernel
theorem dL_isEmpty_25 : decode cL_isEmpty 25 = .ok (.ireturn, 1) := by decide +kernel
theorem dL_isEmpty_26 : decode cL_isEmpty 26 = .ok (.iconst 0, 1) := by decide +kernel
theorem dL_isEmpty_27 : decode cL_isEmpty 27 = .ok (.ireturn, 1) := by decide +kernel
theorem dL_compare_0 : decode cL_compare 0 = .ok (.aload_n 3, 1) := by decide +kernel
theorem dL_compare_1 : decode cL_compare 1 = .ok (.aload_n 0, 1) := by decide +kernel
theorem dL_compare_2 : decode cL_compare 2 = .ok (.iload_n 1, 1) := by decide +kernel
theorem dL_compare_3 : decode cL_compare 3 = .ok (.iload_n 2, 1) := by decide +kernel
theorem dL_compare_4 : decode cL_compare 4 = .ok (.invokevirtual 71, 3) := by decide +kernel
theorem dL_compare_7 : decode cL_compare 7 = .ok (.i2l, 1) := by decide +kernel
theorem dL_compare_8 : decode cL_compare 8 = .ok (.putfield 13, 3) := by decide +kernel
theorem dL_compare_11 : decode cL_compare 11 = .ok (.goto 7, 3) := by decide +kernel
theorem dL_compare_14 : decode cL_compare 14 = .ok (.astore 4, 2) := by decide +kernel
theorem dL_compare_16 : decode cL_compare 16 = .ok (.iconst 1, 1) := by decide +kernel
theorem dL_compare_17 : decode cL_compare 17 = .ok (.ireturn, 1) := by decide +kernel
theorem dL_compare_18 : decode cL_compare 18 = .ok (.iconst 0, 1) := by decide +kernel
theorem dL_compare_19 : decode cL_compare 19 = .ok (.ireturn, 1) := by decide +kernel
theorem dL_compareParts_0 : decode cL_compareParts 0 = .ok (.aload 5, 2) := by decide +kernel
theorem dL_compareParts_2 : decode cL_compareParts 2 = .ok (.aload_n 0, 1) := by decide +kernel
theorem dL_compareParts_3 : decode cL_compareParts 3 = .ok (.iload_n 1, 1) := by decide +kernel
theorem dL_compareParts_4 : decode cL_compareParts 4 = .ok (.iload_n 2, 1) := by decide +kernel
theorem dL_compareParts_5 : decode cL_compareParts 5 = .ok (.iload_n 3, 1) := by decide +kernel
theorem dL_compareParts_6 : decode cL_compareParts 6 = .ok (.iload 4, 2) := by decide +kernel
theorem dL_compareParts_8 : decode cL_compareParts 8 = .ok (.invokevirtual 74, 3) := by decide +kernel
theorem dL_compareParts_11 : decode cL_compareParts 11 = .ok (.i2l, 1) := by decide +kernel
theorem dL_compareParts_12 : decode cL_compareParts 12 = .ok (.putfield 13, 3) := by decide +kernel
theorem dL_compareParts_15 : decode cL_compareParts 15 = .ok (.goto 7, 3) := by decide +kernel
theorem dL_compareParts_18 : decode cL_compareParts 18 = .ok (.astore 6, 2) := by decide +kernel
theorem dL_compareParts_20 : decode cL_compareParts 20 = .ok (.iconst 1, 1) := by decide +kernel
theorem dL_compareParts_21 : decode cL_compareParts 21 = .ok (.ireturn, 1) := by decide +kernel
theorem dL_compareParts_22 : decode cL_compareParts 22 = .ok (.iconst 0, 1) := by decide +kernel
theorem dL_compareParts_23 : decode cL_compareParts 23 = .ok (.ireturn, 1) := by decide +kernel
theorem dL_isLike_0 : decode cL_isLike 0 = .ok (.aload_n 3, 1) := by decide +kernel
theorem dL_isLike_1 : decode cL_isLike 1 = .ok (.aload_n 0, 1) := by decide +kernel
theorem dL_isLike_2 : decode cL_isLike 2 = .ok (.iload_n 1, 1) := by decide +kernel
theorem dL_isLike_3 : decode cL_isLike 3 = .ok (.iload_n 2, 1) := by decide +kernel
theorem dL_isLike_4 : decode cL_isLike 4 = .ok (.invokevirtual 77, 3) := by decide +kernel
theorem dL_isLike_7 : decode cL_isLike 7 = .ok (.i2l, 1) := by decide +kernel
theorem dL_isLike_8 : decode cL_isLike 8 = .ok (.putfield 13, 3) := by decide +kernel
theorem dL_isLike_11 : decode cL_isLike 11 = .ok (.goto 11, 3) := by decide +kernel
theorem dL_isLike_14 : decode cL_isLike 14 = .ok (.astore 4, 2) := by decide +kernel
theorem dL_isLike_16 : decode cL_isLike 16 = .ok (.iconst 1, 1) := by decide +kernel
theorem dL_isLike_17 : decode cL_isLike 17 = .ok (.ireturn, 1) := by decide +kernel
theorem dL_isLike_18 : decode cL_isLike 18 = .ok (.astore 4, 2) := by decide +kernel
theorem dL_isLike_20 : decode cL_isLike 20 = .ok (.iconst 2, 1) := by decide +kernel
theorem dL_isLike_21 : decode cL_isLike 21 = .ok (.ireturn, 1) := by decide +kernel
theorem dL_isLike_22 : decode cL_isLike 22 = .ok (.iconst 0, 1) := by decide +kernel
theorem dL_isLike_23 : decode cL_isLike 23 = .ok (.ireturn, 1) := by decide +kernel
theorem dL_order_0 : decode cL_order 0 = .ok (.aload 4, 2) := by decide +kernel
theorem dL_order_2 : decode cL_order 2 = .ok (.aload_n 0, 1) := by decide +kernel
theorem dL_order_3 : decode cL_order 3 = .ok (.iload_n 1, 1) := by decide +kernel
theorem dL_order_4 : decode cL_order 4 = .ok (.iload_n 2, 1) := by decide +kernel
theorem dL_order_5 : decode cL_order 5 = .ok (.iload_n 3, 1) := by decide +kernel
theorem dL_order_6 : decode cL_order 6 = .ok (.invokevirtual 80, 3) := by decide +kernel
theorem dL_order_9 : decode cL_order 9 = .ok (.i2l, 1) := by decide +kernel
theorem dL_order_10 : decode cL_order 10 = .ok (.putfield 13, 3) := by decide +kernel
theorem dL_order_13 : decode cL_order 13 = .ok (.goto 11, 3) := by decide +kernel
theorem dL_order_16 : decode cL_order 16 = .ok (.astore 5, 2) := by decide +kernel
theorem dL_order_18 : decode cL_order 18 = .ok (.iconst 1, 1) := by decide +kernel
theorem dL_order_19 : decode cL_order 19 = .ok (.ireturn, 1) := by decide +kernel
theorem dL_order_20 : decode cL_order 20 = .ok (.astore 5, 2) := by decide +kernel
theorem dL_order_22 : decode cL_order 22 = .ok (.iconst 2, 1) := by decide +kernel
theorem dL_order_23 : decode cL_order 23 = .ok (.ireturn, 1) := by decide +kernel
theorem dL_order_24 : decode cL_order 24 = .ok (.iconst 0, 1) := by decide +kernel
theorem dL_order_25 : decode cL_order 25 = .ok (.ireturn, 1) := by decide +kernel
theorem dL_ahead_0 : decode cL_ahead 0 = .ok (.aload_n 3, 1) := by decide +kernel
theorem dL_ahead_1 : decode cL_ahead 1 = .ok (.aload_n 0, 1) := by decide +kernel
theorem dL_ahead_2 : decode cL_ahead 2 = .ok (.iload_n 1, 1) := by decide +kernel
theorem dL_ahead_3 : decode cL_ahead 3 = .ok (.iload_n 2, 1) := by decide +kernel
theorem dL_ahead_4 : decode cL_ahead 4 = .ok (.invokevirtual 83, 3) := by decide +kernel
theorem dL_ahead_7 : decode cL_ahead 7 = .ok (.i2l, 1) := by decide +kernel
theorem dL_ahead_8 : decode cL_ahead 8 = .ok (.putfield 13, 3) := by decide +kernel
theorem dL_ahead_11 : decode cL_ahead 11 = .ok (.goto 11, 3) := by decide +kernel
theorem dL_ahead_14 : decode cL_ahead 14 = .ok (.astore 4, 2) := by decide +kernel
theorem dL_ahead_16 : decode cL_ahead 16 = .ok (.iconst 1, 1) := by decide +kernel
theorem dL_ahead_17 : decode cL_ahead 17 = .ok (.ireturn, 1) := by decide +kernel
theorem dL_ahead_18 : decode cL_ahead 18 = .ok (.astore 4, 2) := by decide +kernel
theorem dL_ahead_20 : decode cL_ahead 20 = .ok (.iconst 2, 1) := by decide +kernel
theorem dL_ahead_21 : decode cL_ahead 21 = .ok (.ireturn, 1) := by decide +kernel
theorem dL_ahead_22 : decode cL_ahead 22 = .ok (.iconst 0, 1) := by decide +kernel
theorem dL_ahead_23 : decode cL_ahead 23 = .ok (.ireturn, 1) := by decide +kernel
theorem dL_must_0 : decode cL_must 0 = .ok (.aload_n 2, 1) := by decide +kernel
theorem dL_must_1 : decode cL_must 1 = .ok (.aload_n 0, 1) := by decide +kernel
theorem dL_must_2 : decode cL_must 2 = .ok (.iload_n 1, 1) := by decide +kernel
theorem dL_must_3 : decode cL_must 3 = .ok (.invokevirtual 86, 3) := by decide +kernel
theorem dL_must_6 : decode cL_must 6 = .ok (.i2l, 1) := by decide +kernel
theorem dL_must_7 : decode cL_must 7 = .ok (.putfield 13, 3) := by decide +kernel
theorem dL_must_10 : decode cL_must 10 = .ok (.goto 6, 3) := by decide +kernel
theorem dL_must_13 : decode cL_must 13 = .ok (.astore_n 3, 1) := by decide +kernel
theorem dL_must_14 : decode cL_must 14 = .ok (.iconst 1, 1) := by decide +kernel
theorem dL_must_15 : decode cL_must 15 = .ok (.ireturn, 1) := by decide +kernel
theorem dL_must_16 : decode cL_must 16 = .ok (.iconst 0, 1) := by decide +kernel
theorem dL_must_17 : decode cL_must 17 = .ok (.ireturn, 1) := by decide +kernel
theorem dL_mustSaying_0 : decode cL_mustSaying 0 = .ok (.aload_n 2, 1) := by decide +kernel
theorem dL_mustSaying_1 : decode cL_mustSaying 1 = .ok (.aload_n 0, 1) := by decide +kernel
theorem dL_mustSaying_2 : decode cL_mustSaying 2 = .ok (.iload_n 1, 1) := by decide +kernel
theorem dL_mustSaying_3 : decode cL_mustSaying 3 = .ok (.invokevirtual 89, 3) := by decide +kernel
theorem dL_mustSaying_6 : decode cL_mustSaying 6 = .ok (.i2l, 1) := by decide +kernel
theorem dL_mustSaying_7 : decode cL_mustSaying 7 = .ok (.putfield 13, 3) := by decide +kernel
theorem dL_mustSaying_10 : decode cL_mustSaying 10 = .ok (.goto 6, 3) := by decide +kernel
theorem dL_mustSaying_13 : decode cL_mustSaying 13 = .ok (.astore_n 3, 1) := by decide +kernel
theorem dL_mustSaying_14 : decode cL_mustSaying 14 = .ok (.iconst 1, 1) := by decide +kernel
theorem dL_mustSaying_15 : decode cL_mustSaying 15 = .ok (.ireturn, 1) := by decide +kernel
theorem dL_mustSaying_16 : decode cL_mustSaying 16 = .ok (.iconst 0, 1) := by decide +kernel
theorem dL_mustSaying_17 : decode cL_mustSaying 17 = .ok (.ireturn, 1) := by decide +kernel
theorem dL_orElse_0 : decode cL_orElse 0 = .ok (.aload_n 3, 1) := by decide +kernel
theorem dL_orElse_1 : decode cL_orElse 1 = .ok (.aload_n 0, 1) := by decide +kernel
theorem dL_orElse_2 : decode cL_orElse 2 = .ok (.iload_n 1, 1) := by decide +kernel
theorem dL_orElse_3 : decode cL_orElse 3 = .ok (.iload_n 2, 1) := by decide +kernel
theorem dL_orElse_4 : decode cL_orElse 4 = .ok (.invokevirtual 92, 3) := by decide +kernel
theorem dL_orElse_7 : decode cL_orElse 7 = .ok (.putfield 53, 3) := by decide +kernel
theorem dL_orElse_10 : decode cL_orElse 10 = .ok (.goto 7, 3) := by decide +kernel
theorem dL_orElse_13 : decode cL_orElse 13 = .ok (.astore 4, 2) := by decide +kernel
theorem dL_orElse_15 : decode cL_orElse 15 = .ok (.iconst 1, 1) := by decide +kernel
theorem dL_orElse_16 : decode cL_orElse 16 = .ok (.ireturn, 1) := by decide +kernel
theorem dL_orElse_17 : decode cL_orElse 17 = .ok (.iconst 0, 1) := by decide +kernel
theorem dL_orElse_18 : decode cL_orElse 18 = .ok (.ireturn, 1) := by decide +kernel
theorem dL_orGiven_0 : decode cL_orGiven 0 = .ok (.aload_n 3, 1) := by decide +kernel
theorem dL_orGiven_1 : decode cL_orGiven 1 = .ok (.aload_n 0, 1) := by decide +kernel
theorem dL_orGiven_2 : decode cL_orGiven 2 = .ok (.iload_n 1, 1) := by decide +kernel
theorem dL_orGiven_3 : decode cL_orGiven 3 = .ok (.iload_n 2, 1) := by decide +kernel
theorem dL_orGiven_4 : decode cL_orGiven 4 = .ok (.invokevirtual 96, 3) := by decide +kernel
theorem dL_orGiven_7 : decode cL_orGiven 7 = .ok (.putfield 53, 3) := by decide +kernel
theorem dL_orGiven_10 : decode cL_orGiven 10 = .ok (.goto 7, 3) := by decide +kernel
theorem dL_orGiven_13 : decode cL_orGiven 13 = .ok (.astore 4, 2) := by decide +kernel
theorem dL_orGiven_15 : decode cL_orGiven 15 = .ok (.iconst 1, 1) := by decide +kernel
theorem dL_orGiven_16 : decode cL_orGiven 16 = .ok (.ireturn, 1) := by decide +kernel
theorem dL_orGiven_17 : decode cL_orGiven 17 = .ok (.iconst 0, 1) := by decide +kernel
theorem dL_orGiven_18 : decode cL_orGiven 18 = .ok (.ireturn, 1) := by decide +kernel
theorem dL_isMissing_0 : decode cL_isMissing 0 = .ok (.aload_n 2, 1) := by decide +kernel
theorem dL_isMissing_1 : decode cL_isMissing 1 = .ok (.aload_n 0, 1) := by decide +kernel
theorem dL_isMissing_2 : decode cL_isMissing 2 = .ok (.iload_n 1, 1) := by decide +kernel
theorem dL_isMissing_3 : decode cL_isMissing 3 = .ok (.invokevirtual 99, 3) := by decide +kernel
theorem dL_isMissing_6 : decode cL_isMissing 6 = .ok (.ifCond .eq 7, 3) := by decide +kernel
theorem dL_isMissing_9 : decode cL_isMissing 9 = .ok (.lconst 1, 1) := by decide +kernel
theorem dL_isMissing_10 : decode cL_isMissing 10 = .ok (.goto 4, 3) := by decide +kernel
theorem dL_isMissing_13 : decode cL_isMissing 13 = .ok (.lconst 0, 1) := by decide +kernel
theorem dL_isMissing_14 : decode cL_isMissing 14 = .ok (.putfield 13, 3) := by decide +kernel
theorem dL_isMissing_17 : decode cL_isMissing 17 = .ok (.goto 6, 3) := by decide +kernel
theorem dL_isMissing_20 : decode cL_isMissing 20 = .ok (.astore_n 3, 1) := by decide +kernel
theorem dL_isMissing_21 : decode cL_isMissing 21 = .ok (.iconst 1, 1) := by decide +kernel
theorem dL_isMissing_22 : decode cL_isMissing 22 = .ok (.ireturn, 1) := by decide +kernel
theorem dL_isMissing_23 : decode cL_isMissing 23 = .ok (.iconst 0, 1) := by decide +kernel
theorem dL_isMissing_24 : decode cL_isMissing 24 = .ok (.ireturn, 1) := by decide +kernel
theorem dL_isThere_0 : decode cL_isThere 0 = .ok (.aload_n 2, 1) := by decide +kernel
theorem dL_isThere_1 : decode cL_isThere 1 = .ok (.aload_n 0, 1) := by decide +kernel
theorem dL_isThere_2 : decode cL_isThere 2 = .ok (.iload_n 1, 1) := by decide +kernel
theorem dL_isThere_3 : decode cL_isThere 3 = .ok (.invokevirtual 102, 3) := by decide +kernel
theorem dL_isThere_6 : decode cL_isThere 6 = .ok (.ifCond .eq 7, 3) := by decide +kernel
theorem dL_isThere_9 : decode cL_isThere 9 = .ok (.lconst 1, 1) := by decide +kernel
theorem dL_isThere_10 : decode cL_isThere 10 = .ok (.goto 4, 3) := by decide +kernel
theorem dL_isThere_13 : decode cL_isThere 13 = .ok (.lconst 0, 1) := by decide +kernel
theorem dL_isThere_14 : decode cL_isThere 14 = .ok (.putfield 13, 3) := by decide +kernel
theorem dL_isThere_17 : decode cL_isThere 17 = .ok (.goto 6, 3) := by decide +kernel
theorem dL_isThere_20 : decode cL_isThere 20 = .ok (.astore_n 3, 1) := by decide +kernel
theorem dL_isThere_21 : decode cL_isThere 21 = .ok (.iconst 1, 1) := by decide +kernel
theorem dL_isThere_22 : decode cL_isThere 22 = .ok (.ireturn, 1) := by decide +kernel
theorem dL_isThere_23 : decode cL_isThere 23 = .ok (.iconst 0, 1) := by decide +kernel
theorem dL_isThere_24 : decode cL_isThere 24 = .ok (.ireturn, 1) := by decide +kernel
theorem dL_areSame_0 : decode cL_areSame 0 = .ok (.aload_n 3, 1) := by decide +kernel
theorem dL_areSame_1 : decode cL_areSame 1 = .ok (.aload_n 0, 1) := by decide +kernel
theorem dL_areSame_2 : decode cL_areSame 2 = .ok (.iload_n 1, 1) := by decide +kernel
theorem dL_areSame_3 : decode cL_areSame 3 = .ok (.iload_n 2, 1) := by decide +kernel
theorem dL_areSame_4 : decode cL_areSame 4 = .ok (.invokevirtual 105, 3) := by decide +kernel
theorem dL_areSame_7 : decode cL_areSame 7 = .ok (.ifCond .eq 7, 3) := by decide +kernel
theorem dL_areSame_10 : decode cL_areSame 10 = .ok (.lconst 1, 1) := by decide +kernel
theorem dL_areSame_11 : decode cL_areSame 11 = .ok (.goto 4, 3) := by decide +kernel
theorem dL_areSame_14 : decode cL_areSame 14 = .ok (.lconst 0, 1) := by decide +kernel
theorem dL_areSame_15 : decode cL_areSame 15 = .ok (.putfield 13, 3) := by decide +kernel
theorem dL_areSame_18 : decode cL_areSame 18 = .ok (.goto 7, 3) := by decide +kernel
theorem dL_areSame_21 : decode cL_areSame 21 = .ok (.astore 4, 2) := by decide +kernel
theorem dL_areSame_23 : decode cL_areSame 23 = .ok (.iconst 1, 1) := by decide +kernel
theorem dL_areSame_24 : decode cL_areSame 24 = .ok (.ireturn, 1) := by decide +kernel
theorem dL_areSame_25 : decode cL_areSame 25 = .ok (.iconst 0, 1) := by decide +kernel
theorem dL_areSame_26 : decode cL_areSame 26 = .ok (.ireturn, 1) := by decide +kernel
theorem dL_code_0 : decode cL_code 0 = .ok (.aload_n 2, 1) := by decide +kernel
theorem dL_code_1 : decode cL_code 1 = .ok (.aload_n 0, 1) := by decide +kernel
theorem dL_code_2 : decode cL_code 2 = .ok (.iload_n 1, 1) := by decide +kernel
theorem dL_code_3 : decode cL_code 3 = .ok (.invokevirtual 109, 3) := by decide +kernel
theorem dL_code_6 : decode cL_code 6 = .ok (.i2l, 1) := by decide +kernel
theorem dL_code_7 : decode cL_code 7 = .ok (.putfield 13, 3) := by decide +kernel
theorem dL_code_10 : decode cL_code 10 = .ok (.goto 6, 3) := by decide +kernel
theorem dL_code_13 : decode cL_code 13 = .ok (.astore_n 3, 1) := by decide +kernel
theorem dL_code_14 : decode cL_code 14 = .ok (.iconst 1, 1) := by decide +kernel
theorem dL_code_15 : decode cL_code 15 = .ok (.ireturn, 1) := by decide +kernel
theorem dL_code_16 : decode cL_code 16 = .ok (.iconst 0, 1) := by decide +kernel
theorem dL_code_17 : decode cL_code 17 = .ok (.ireturn, 1) := by decide +kernel
theorem dL_codes_0 : decode cL_codes 0 = .ok (.aload 4, 2) := by decide +kernel
theorem dL_codes_2 : decode cL_codes 2 = .ok (.aload_n 0, 1) := by decide +kernel
theorem dL_codes_3 : decode cL_codes 3 = .ok (.iload_n 1, 1) := by decide +kernel
theorem dL_codes_4 : decode cL_codes 4 = .ok (.iload_n 2, 1) := by decide +kernel
theorem dL_codes_5 : decode cL_codes 5 = .ok (.iload_n 3, 1) := by decide +kernel
theorem dL_codes_6 : decode cL_codes 6 = .ok (.invokevirtual 112, 3) := by decide +kernel
theorem dL_codes_9 : decode cL_codes 9 = .ok (.i2l, 1) := by decide +kernel
theorem dL_codes_10 : decode cL_codes 10 = .ok (.putfield 13, 3) := by decide +kernel
theorem dL_codes_13 : decode cL_codes 13 = .ok (.goto 7, 3) := by decide +kernel
theorem dL_codes_16 : decode cL_codes 16 = .ok (.astore 5, 2) := by decide +kernel
theorem dL_codes_18 : decode cL_codes 18 = .ok (.iconst 1, 1) := by decide +kernel
theorem dL_codes_19 : decode cL_codes 19 = .ok (.ireturn, 1) := by decide +kernel
theorem dL_codes_20 : decode cL_codes 20 = .ok (.iconst 0, 1) := by decide +kernel
theorem dL_codes_21 : decode cL_codes 21 = .ok (.ireturn, 1) := by decide +kernel
theorem dL_house_0 : decode cL_house 0 = .ok (.aload_n 2, 1) := by decide +kernel
theorem dL_house_1 : decode cL_house 1 = .ok (.aload_n 0, 1) := by decide +kernel
theorem dL_house_2 : decode cL_house 2 = .ok (.iload_n 1, 1) := by decide +kernel
theorem dL_house_3 : decode cL_house 3 = .ok (.invokevirtual 115, 3) := by decide +kernel
theorem dL_house_6 : decode cL_house 6 = .ok (.i2l, 1) := by decide +kernel
theorem dL_house_7 : decode cL_house 7 = .ok (.putfield 13, 3) := by decide +kernel
theorem dL_house_10 : decode cL_house 10 = .ok (.goto 6, 3) := by decide +kernel
theorem dL_house_13 : decode cL_house 13 = .ok (.astore_n 3, 1) := by decide +kernel
theorem dL_house_14 : decode cL_house 14 = .ok (.iconst 1, 1) := by decide +kernel
theorem dL_house_15 : decode cL_house 15 = .ok (.ireturn, 1) := by decide +kernel
theorem dL_house_16 : decode cL_house 16 = .ok (.iconst 0, 1) := by decide +kernel
theorem dL_house_17 : decode cL_house 17 = .ok (.ireturn, 1) := by decide +kernel
theorem dL_law_0 : decode cL_law 0 = .ok (.new 8, 3) := by decide +kernel
theorem dL_law_3 : decode cL_law 3 = .ok (.dup, 1) := by decide +kernel
theorem dL_law_4 : decode cL_law 4 = .ok (.invokespecial 118, 3) := by decide +kernel
theorem dL_law_7 : decode cL_law 7 = .ok (.astore_n 1, 1) := by decide +kernel
theorem dL_law_8 : decode cL_law 8 = .ok (.new 119, 3) := by decide +kernel
theorem dL_law_11 : decode cL_law 11 = .ok (.dup, 1) := by decide +kernel
theorem dL_law_12 : decode cL_law 12 = .ok (.invokespecial 121, 3) := by decide +kernel
theorem dL_law_15 : decode cL_law 15 = .ok (.astore_n 2, 1) := by decide +kernel
theorem dL_law_16 : decode cL_law 16 = .ok (.new 14, 3) := by decide +kernel
theorem dL_law_19 : decode cL_law 19 = .ok (.dup, 1) := by decide +kernel
theorem dL_law_20 : decode cL_law 20 = .ok (.invokespecial 122, 3) := by decide +kernel
theorem dL_law_23 : decode cL_law 23 = .ok (.astore_n 3, 1) := by decide +kernel
theorem dL_law_24 : decode cL_law 24 = .ok (.iconst 0, 1) := by decide +kernel
theorem dL_law_25 : decode cL_law 25 = .ok (.istore 4, 2) := by decide +kernel
theorem dL_law_27 : decode cL_law 27 = .ok (.iload 4, 2) := by decide +kernel
theorem dL_law_29 : decode cL_law 29 = .ok (.aload_n 0, 1) := by decide +kernel
theorem dL_law_30 : decode cL_law 30 = .ok (.arraylength, 1) := by decide +kernel
theorem dL_law_31 : decode cL_law 31 = .ok (.iconst 5, 1) := by decide +kernel
theorem dL_law_32 : decode cL_law 32 = .ok (.isub, 1) := by decide +kernel
theorem dL_law_33 : decode cL_law 33 = .ok (.if_icmp .gt 1618, 3) := by decide +kernel
theorem dL_law_36 : decode cL_law 36 = .ok (.aload_n 0, 1) := by decide +kernel
theorem dL_law_37 : decode cL_law 37 = .ok (.iload 4, 2) := by decide +kernel
theorem dL_law_39 : decode cL_law 39 = .ok (.iaload, 1) := by decide +kernel
theorem dL_law_40 : decode cL_law 40 = .ok (.bipush 63, 2) := by decide +kernel
theorem dL_law_42 : decode cL_law 42 = .ok (.iand, 1) := by decide +kernel
theorem dL_law_43 : decode cL_law 43 = .ok (.tableswitch 1602 0 36 #[161, 225, 277, 329, 381, 433, 473, 501, 538, 587, 636, 673, 722, 771, 811, 839, 867, 907, 959, 987, 1027, 1091, 1131, 1183, 1223, 1251, 1279, 1319, 1359, 1387, 1415, 1455, 1483, 1535, 1548, 1576, 1589], 161) := by decide +kernel
theorem dL_law_204 : decode cL_law 204 = .ok (.aload_n 1, 1) := by decide +kernel
theorem dL_law_205 : decode cL_law 205 = .ok (.aload_n 0, 1) := by decide +kernel
theorem dL_law_206 : decode cL_law 206 = .ok (.iload 4, 2) := by decide +kernel
theorem dL_law_208 : decode cL_law 208 = .ok (.iconst 1, 1) := by decide +kernel
theorem dL_law_209 : decode cL_law 209 = .ok (.iadd, 1) := by decide +kernel
theorem dL_law_210 : decode cL_law 210 = .ok (.iaload, 1) := by decide +kernel
theorem dL_law_211 : decode cL_law 211 = .ok (.aload_n 0, 1) := by decide +kernel
theorem dL_law_212 : decode cL_law 212 = .ok (.iload 4, 2) := by decide +kernel
theorem dL_law_214 : decode cL_law 214 = .ok (.iconst 2, 1) := by decide +kernel
theorem dL_law_215 : decode cL_law 215 = .ok (.iadd, 1) := by decide +kernel
theorem dL_law_216 : decode cL_law 216 = .ok (.iaload, 1) := by decide +kernel
theorem dL_law_217 : decode cL_law 217 = .ok (.aload_n 0, 1) := by decide +kernel
theorem dL_law_218 : decode cL_law 218 = .ok (.iload 4, 2) := by decide +kernel
theorem dL_law_220 : decode cL_law 220 = .ok (.iconst 3, 1) := by decide +kernel
theorem dL_law_221 : decode cL_law 221 = .ok (.iadd, 1) := by decide +kernel
theorem dL_law_222 : decode cL_law 222 = .ok (.iaload, 1) := by decide +kernel
theorem dL_law_223 : decode cL_law 223 = .ok (.aload_n 0, 1) := by decide +kernel
theorem dL_law_224 : decode cL_law 224 = .ok (.iload 4, 2) := by decide +kernel
theorem dL_law_226 : decode cL_law 226 = .ok (.iconst 4, 1) := by decide +kernel
theorem dL_law_227 : decode cL_law 227 = .ok (.iadd, 1) := by decide +kernel
theorem dL_law_228 : decode cL_law 228 = .ok (.iaload, 1) := by decide +kernel
theorem dL_law_229 : decode cL_law 229 = .ok (.aload_n 3, 1) := by decide +kernel
theorem dL_law_230 : decode cL_law 230 = .ok (.invokestatic 123, 3) := by decide +kernel
theorem dL_law_233 : decode cL_law 233 = .ok (.istore 5, 2) := by decide +kernel
theorem dL_law_235 : decode cL_law 235 = .ok (.aload_n 2, 1) := by decide +kernel
theorem dL_law_236 : decode cL_law 236 = .ok (.aload_n 0, 1) := by decide +kernel
theorem dL_law_237 : decode cL_law 237 = .ok (.iload 4, 2) := by decide +kernel
theorem dL_law_239 : decode cL_law 239 = .ok (.iconst 1, 1) := by decide +kernel
theorem dL_law_240 : decode cL_law 240 = .ok (.iadd, 1) := by decide +kernel
theorem dL_law_241 : decode cL_law 241 = .ok (.iaload, 1) := by decide +kernel
theorem dL_law_242 : decode cL_law 242 = .ok (.aload_n 0, 1) := by decide +kernel
theorem dL_law_243 : decode cL_law 243 = .ok (.iload 4, 2) := by decide +kernel
theorem dL_law_245 : decode cL_law 245 = .ok (.iconst 2, 1) := by decide +kernel
theorem dL_law_246 : decode cL_law 246 = .ok (.iadd, 1) := by decide +kernel
theorem dL_law_247 : decode cL_law 247 = .ok (.iaload, 1) := by decide +kernel
theorem dL_law_248 : decode cL_law 248 = .ok (.aload_n 0, 1) := by decide +kernel
theorem dL_law_249 : decode cL_law 249 = .ok (.iload 4, 2) := by decide +kernel
theorem dL_law_251 : decode cL_law 251 = .ok (.iconst 3, 1) := by decide +kernel
theorem dL_law_252 : decode cL_law 252 = .ok (.iadd, 1) := by decide +kernel
theorem dL_law_253 : decode cL_law 253 = .ok (.iaload, 1) := by decide +kernel
theorem dL_law_254 : decode cL_law 254 = .ok (.aload_n 0, 1) := by decide +kernel
theorem dL_law_255 : decode cL_law 255 = .ok (.iload 4, 2) := by decide +kernel
theorem dL_law_257 : decode cL_law 257 = .ok (.iconst 4, 1) := by decide +kernel
theorem dL_law_258 : decode cL_law 258 = .ok (.iadd, 1) := by decide +kernel
theorem dL_law_259 : decode cL_law 259 = .ok (.iaload, 1) := by decide +kernel
theorem dL_law_260 : decode cL_law 260 = .ok (.invokevirtual 128, 3) := by decide +kernel
theorem dL_law_263 : decode cL_law 263 = .ok (.istore 6, 2) := by decide +kernel
theorem dL_law_265 : decode cL_law 265 = .ok (.goto 1380, 3) := by decide +kernel
theorem dL_law_268 : decode cL_law 268 = .ok (.aload_n 1, 1) := by decide +kernel
theorem dL_law_269 : decode cL_law 269 = .ok (.aload_n 0, 1) := by decide +kernel
theorem dL_law_270 : decode cL_law 270 = .ok (.iload 4, 2) := by decide +kernel
theorem dL_law_272 : decode cL_law 272 = .ok (.iconst 1, 1) := by decide +kernel
theorem dL_law_273 : decode cL_law 273 = .ok (.iadd, 1) := by decide +kernel
theorem dL_law_274 : decode cL_law 274 = .ok (.iaload, 1) := by decide +kernel
theorem dL_law_275 : decode cL_law 275 = .ok (.aload_n 0, 1) := by decide +kernel
theorem dL_law_276 : decode cL_law 276 = .ok (.iload 4, 2) := by decide +kernel
theorem dL_law_278 : decode cL_law 278 = .ok (.iconst 2, 1) := by decide +kernel
theorem dL_law_279 : decode cL_law 279 = .ok (.iadd, 1) := by decide +kernel
theorem dL_law_280 : decode cL_law 280 = .ok (.iaload, 1) := by decide +kernel
theorem dL_law_281 : decode cL_law 281 = .ok (.aload_n 0, 1) := by decide +kernel
theorem dL_law_282 : decode cL_law 282 = .ok (.iload 4, 2) := by decide +kernel
theorem dL_law_284 : decode cL_law 284 = .ok (.iconst 3, 1) := by decide +kernel
theorem dL_law_285 : decode cL_law 285 = .ok (.iadd, 1) := by decide +kernel
theorem dL_law_286 : decode cL_law 286 = .ok (.iaload, 1) := by decide +kernel
theorem dL_law_287 : decode cL_law 287 = .ok (.aload_n 3, 1) := by decide +kernel
theorem dL_law_288 : decode cL_law 288 = .ok (.invokestatic 129, 3) := by decide +kernel
theorem dL_law_291 : decode cL_law 291 = .ok (.istore 5, 2) := by decide +kernel
theorem dL_law_293 : decode cL_law 293 = .ok (.aload_n 2, 1) := by decide +kernel
theorem dL_law_294 : decode cL_law 294 = .ok (.aload_n 0, 1) := by decide +kernel
theorem dL_law_295 : decode cL_law 295 = .ok (.iload 4, 2) := by decide +kernel
theorem dL_law_297 : decode cL_law 297 = .ok (.iconst 1, 1) := by decide +kernel
theorem dL_law_298 : decode cL_law 298 = .ok (.iadd, 1) := by decide +kernel
theorem dL_law_299 : decode cL_law 299 = .ok (.iaload, 1) := by decide +kernel
theorem dL_law_300 : decode cL_law 300 = .ok (.aload_n 0, 1) := by decide +kernel
theorem dL_law_301 : decode cL_law 301 = .ok (.iload 4, 2) := by decide +kernel
theorem dL_law_303 : decode cL_law 303 = .ok (.iconst 2, 1) := by decide +kernel
theorem dL_law_304 : decode cL_law 304 = .ok (.iadd, 1) := by decide +kernel
theorem dL_law_305 : decode cL_law 305 = .ok (.iaload, 1) := by decide +kernel
theorem dL_law_306 : decode cL_law 306 = .ok (.aload_n 0, 1) := by decide +kernel
theorem dL_law_307 : decode cL_law 307 = .ok (.iload 4, 2) := by decide +kernel
theorem dL_law_309 : decode cL_law 309 = .ok (.iconst 3, 1) := by decide +kernel
theorem dL_law_310 : decode cL_law 310 = .ok (.iadd, 1) := by decide +kernel
theorem dL_law_311 : decode cL_law 311 = .ok (.iaload, 1) := by decide +kernel
theorem dL_law_312 : decode cL_law 312 = .ok (.invokevirtual 132, 3) := by decide +kernel
theorem dL_law_315 : decode cL_law 315 = .ok (.istore 6, 2) := by decide +kernel
theorem dL_law_317 : decode cL_law 317 = .ok (.goto 1328, 3) := by decide +kernel
theorem dL_law_320 : decode cL_law 320 = .ok (.aload_n 1, 1) := by decide +kernel
theorem dL_law_321 : decode cL_law 321 = .ok (.aload_n 0, 1) := by decide +kernel
theorem dL_law_322 : decode cL_law 322 = .ok (.iload 4, 2) := by decide +kernel
theorem dL_law_324 : decode cL_law 324 = .ok (.iconst 1, 1) := by decide +kernel
theorem dL_law_325 : decode cL_law 325 = .ok (.iadd, 1) := by decide +kernel
theorem dL_law_326 : decode cL_law 326 = .ok (.iaload, 1) := by decide +kernel
theorem dL_law_327 : decode cL_law 327 = .ok (.aload_n 0, 1) := by decide +kernel
theorem dL_law_328 : decode cL_law 328 = .ok (.iload 4, 2) := by decide +kernel
theorem dL_law_330 : decode cL_law 330 = .ok (.iconst 2, 1) := by decide +kernel
theorem dL_law_331 : decode cL_law 331 = .ok (.iadd, 1) := by decide +kernel
theorem dL_law_332 : decode cL_law 332 = .ok (.iaload, 1) := by decide +kernel
theorem dL_law_333 : decode cL_law 333 = .ok (.aload_n 0, 1) := by decide +kernel
theorem dL_law_334 : decode cL_law 334 = .ok (.iload 4, 2) := by decide +kernel
theorem dL_law_336 : decode cL_law 336 = .ok (.iconst 3, 1) := by decide +kernel
theorem dL_law_337 : decode cL_law 337 = .ok (.iadd, 1) := by decide +kernel
theorem dL_law_338 : decode cL_law 338 = .ok (.iaload, 1) := by decide +kernel
theorem dL_law_339 : decode cL_law 339 = .ok (.aload_n 3, 1) := by decide +kernel
theorem dL_law_340 : decode cL_law 340 = .ok (.invokestatic 133, 3) := by decide +kernel
theorem dL_law_343 : decode cL_law 343 = .ok (.istore 5, 2) := by decide +kernel
theorem dL_law_345 : decode cL_law 345 = .ok (.aload_n 2, 1) := by decide +kernel
theorem dL_law_346 : decode cL_law 346 = .ok (.aload_n 0, 1) := by decide +kernel
theorem dL_law_347 : decode cL_law 347 = .ok (.iload 4, 2) := by decide +kernel
theorem dL_law_349 : decode cL_law 349 = .ok (.iconst 1, 1) := by decide +kernel
theorem dL_law_350 : decode cL_law 350 = .ok (.iadd, 1) := by decide +kernel
theorem dL_law_351 : decode cL_law 351 = .ok (.iaload, 1) := by decide +kernel
theorem dL_law_352 : decode cL_law 352 = .ok (.aload_n 0, 1) := by decide +kernel
theorem dL_law_353 : decode cL_law 353 = .ok (.iload 4, 2) := by decide +kernel
theorem dL_law_355 : decode cL_law 355 = .ok (.iconst 2, 1) := by decide +kernel
theorem dL_law_356 : decode cL_law 356 = .ok (.iadd, 1) := by decide +kernel
theorem dL_law_357 : decode cL_law 357 = .ok (.iaload, 1) := by decide +kernel
theorem dL_law_358 : decode cL_law 358 = .ok (.aload_n 0, 1) := by decide +kernel
theorem dL_law_359 : decode cL_law 359 = .ok (.iload 4, 2) := by decide +kernel
theorem dL_law_361 : decode cL_law 361 = .ok (.iconst 3, 1) := by decide +kernel
theorem dL_law_362 : decode cL_law 362 = .ok (.iadd, 1) := by decide +kernel
theorem dL_law_363 : decode cL_law 363 = .ok (.iaload, 1) := by decide +kernel
theorem dL_law_364 : decode cL_law 364 = .ok (.invokevirtual 135, 3) := by decide +kernel
theorem dL_law_367 : decode cL_law 367 = .ok (.istore 6, 2) := by decide +kernel
theorem dL_law_369 : decode cL_law 369 = .ok (.goto 1276, 3) := by decide +kernel
theorem dL_law_372 : decode cL_law 372 = .ok (.aload_n 1, 1) := by decide +kernel
theorem dL_law_373 : decode cL_law 373 = .ok (.aload_n 0, 1) := by decide +kernel
theorem dL_law_374 : decode cL_law 374 = .ok (.iload 4, 2) := by decide +kernel
theorem dL_law_376 : decode cL_law 376 = .ok (.iconst 1, 1) := by decide +kernel
theorem dL_law_377 : decode cL_law 377 = .ok (.iadd, 1) := by decide +kernel
theorem dL_law_378 : decode cL_law 378 = .ok (.iaload, 1) := by decide +kernel
theorem dL_law_379 : decode cL_law 379 = .ok (.aload_n 0, 1) := by decide +kernel
theorem dL_law_380 : decode cL_law 380 = .ok (.iload 4, 2) := by decide +kernel
theorem dL_law_382 : decode cL_law 382 = .ok (.iconst 2, 1) := by decide +kernel
theorem dL_law_383 : decode cL_law 383 = .ok (.iadd, 1) := by decide +kernel
theorem dL_law_384 : decode cL_law 384 = .ok (.iaload, 1) := by decide +kernel
theorem dL_law_385 : decode cL_law 385 = .ok (.aload_n 0, 1) := by decide +kernel
theorem dL_law_386 : decode cL_law 386 = .ok (.iload 4, 2) := by decide +kernel
theorem dL_law_388 : decode cL_law 388 = .ok (.iconst 3, 1) := by decide +kernel
theorem dL_law_389 : decode cL_law 389 = .ok (.iadd, 1) := by decide +kernel
theorem dL_law_390 : decode cL_law 390 = .ok (.iaload, 1) := by decide +kernel
theorem dL_law_391 : decode cL_law 391 = .ok (.aload_n 3, 1) := by decide +kernel
theorem dL_law_392 : decode cL_law 392 = .ok (.invokestatic 136, 3) := by decide +kernel
theorem dL_law_395 : decode cL_law 395 = .ok (.istore 5, 2) := by decide +kernel
theorem dL_law_397 : decode cL_law 397 = .ok (.aload_n 2, 1) := by decide +kernel
theorem dL_law_398 : decode cL_law 398 = .ok (.aload_n 0, 1) := by decide +kernel
theorem dL_law_399 : decode cL_law 399 = .ok (.iload 4, 2) := by decide +kernel
theorem dL_law_401 : decode cL_law 401 = .ok (.iconst 1, 1) := by decide +kernel
theorem dL_law_402 : decode cL_law 402 = .ok (.iadd, 1) := by decide +kernel
theorem dL_law_403 : decode cL_law 403 = .ok (.iaload, 1) := by decide +kernel
theorem dL_law_404 : decode cL_law 404 = .ok (.aload_n 0, 1) := by decide +kernel
theorem dL_law_405 : decode cL_law 405 = .ok (.iload 4, 2) := by decide +kernel
theorem dL_law_407 : decode cL_law 407 = .ok (.iconst 2, 1) := by decide +kernel
theorem dL_law_408 : decode cL_law 408 = .ok (.iadd, 1) := by decide +kernel
theorem dL_law_409 : decode cL_law 409 = .ok (.iaload, 1) := by decide +kernel
theorem dL_law_410 : decode cL_law 410 = .ok (.aload_n 0, 1) := by decide +kernel
theorem dL_law_411 : decode cL_law 411 = .ok (.iload 4, 2) := by decide +kernel
theorem dL_law_413 : decode cL_law 413 = .ok (.iconst 3, 1) := by decide +kernel
theorem dL_law_414 : decode cL_law 414 = .ok (.iadd, 1) := by decide +kernel
theorem dL_law_415 : decode cL_law 415 = .ok (.iaload, 1) := by decide +kernel
theorem dL_law_416 : decode cL_law 416 = .ok (.invokevirtual 138, 3) := by decide +kernel
theorem dL_law_419 : decode cL_law 419 = .ok (.istore 6, 2) := by decide +kernel
theorem dL_law_421 : decode cL_law 421 = .ok (.goto 1224, 3) := by decide +kernel
theorem dL_law_424 : decode cL_law 424 = .ok (.aload_n 1, 1) := by decide +kernel
theorem dL_law_425 : decode cL_law 425 = .ok (.aload_n 0, 1) := by decide +kernel
theorem dL_law_426 : decode cL_law 426 = .ok (.iload 4, 2) := by decide +kernel
theorem dL_law_428 : decode cL_law 428 = .ok (.iconst 1, 1) := by decide +kernel
theorem dL_law_429 : decode cL_law 429 = .ok (.iadd, 1) := by decide +kernel
theorem dL_law_430 : decode cL_law 430 = .ok (.iaload, 1) := by decide +kernel
theorem dL_law_431 : decode cL_law 431 = .ok (.aload_n 0, 1) := by decide +kernel
theorem dL_law_432 : decode cL_law 432 = .ok (.iload 4, 2) := by decide +kernel
theorem dL_law_434 : decode cL_law 434 = .ok (.iconst 2, 1) := by decide +kernel
theorem dL_law_435 : decode cL_law 435 = .ok (.iadd, 1) := by decide +kernel
theorem dL_law_436 : decode cL_law 436 = .ok (.iaload, 1) := by decide +kernel
theorem dL_law_437 : decode cL_law 437 = .ok (.aload_n 0, 1) := by decide +kernel
theorem dL_law_438 : decode cL_law 438 = .ok (.iload 4, 2) := by decide +kernel
theorem dL_law_440 : decode cL_law 440 = .ok (.iconst 3, 1) := by decide +kernel
theorem dL_law_441 : decode cL_law 441 = .ok (.iadd, 1) := by decide +kernel
theorem dL_law_442 : decode cL_law 442 = .ok (.iaload, 1) := by decide +kernel
theorem dL_law_443 : decode cL_law 443 = .ok (.aload_n 3, 1) := by decide +kernel
theorem dL_law_444 : decode cL_law 444 = .ok (.invokestatic 139, 3) := by decide +kernel
theorem dL_law_447 : decode cL_law 447 = .ok (.istore 5, 2) := by decide +kernel
theorem dL_law_449 : decode cL_law 449 = .ok (.aload_n 2, 1) := by decide +kernel
theorem dL_law_450 : decode cL_law 450 = .ok (.aload_n 0, 1) := by decide +kernel
theorem dL_law_451 : decode cL_law 451 = .ok (.iload 4, 2) := by decide +kernel
theorem dL_law_453 : decode cL_law 453 = .ok (.iconst 1, 1) := by decide +kernel
theorem dL_law_454 : decode cL_law 454 = .ok (.iadd, 1) := by decide +kernel
theorem dL_law_455 : decode cL_law 455 = .ok (.iaload, 1) := by decide +kernel
theorem dL_law_456 : decode cL_law 456 = .ok (.aload_n 0, 1) := by decide +kernel
theorem dL_law_457 : decode cL_law 457 = .ok (.iload 4, 2) := by decide +kernel
theorem dL_law_459 : decode cL_law 459 = .ok (.iconst 2, 1) := by decide +kernel
theorem dL_law_460 : decode cL_law 460 = .ok (.iadd, 1) := by decide +kernel
theorem dL_law_461 : decode cL_law 461 = .ok (.iaload, 1) := by decide +kernel
theorem dL_law_462 : decode cL_law 462 = .ok (.aload_n 0, 1) := by decide +kernel
theorem dL_law_463 : decode cL_law 463 = .ok (.iload 4, 2) := by decide +kernel
theorem dL_law_465 : decode cL_law 465 = .ok (.iconst 3, 1) := by decide +kernel
theorem dL_law_466 : decode cL_law 466 = .ok (.iadd, 1) := by decide +kernel
theorem dL_law_467 : decode cL_law 467 = .ok (.iaload, 1) := by decide +kernel
theorem dL_law_468 : decode cL_law 468 = .ok (.invokevirtual 141, 3) := by decide +kernel
theorem dL_law_471 : decode cL_law 471 = .ok (.istore 6, 2) := by decide +kernel
theorem dL_law_473 : decode cL_law 473 = .ok (.goto 1172, 3) := by decide +kernel
theorem dL_law_476 : decode cL_law 476 = .ok (.aload_n 1, 1) := by decide +kernel
theorem dL_law_477 : decode cL_law 477 = .ok (.aload_n 0, 1) := by decide +kernel
theorem dL_law_478 : decode cL_law 478 = .ok (.iload 4, 2) := by decide +kernel
theorem dL_law_480 : decode cL_law 480 = .ok (.iconst 1, 1) := by decide +kernel
theorem dL_law_481 : decode cL_law 481 = .ok (.iadd, 1) := by decide +kernel
theorem dL_law_482 : decode cL_law 482 = .ok (.iaload, 1) := by decide +kernel
theorem dL_law_483 : decode cL_law 483 = .ok (.aload_n 0, 1) := by decide +kernel
theorem dL_law_484 : decode cL_law 484 = .ok (.iload 4, 2) := by decide +kernel
theorem dL_law_486 : decode cL_law 486 = .ok (.iconst 2, 1) := by decide +kernel
theorem dL_law_487 : decode cL_law 487 = .ok (.iadd, 1) := by decide +kernel
theorem dL_law_488 : decode cL_law 488 = .ok (.iaload, 1) := by decide +kernel
theorem dL_law_489 : decode cL_law 489 = .ok (.aload_n 3, 1) := by decide +kernel
theorem dL_law_490 : decode cL_law 490 = .ok (.invokestatic 142, 3) := by decide +kernel
theorem dL_law_493 : decode cL_law 493 = .ok (.istore 5, 2) := by decide +kernel
theorem dL_law_495 : decode cL_law 495 = .ok (.aload_n 2, 1) := by decide +kernel
theorem dL_law_496 : decode cL_law 496 = .ok (.aload_n 0, 1) := by decide +kernel
theorem dL_law_497 : decode cL_law 497 = .ok (.iload 4, 2) := by decide +kernel
theorem dL_law_499 : decode cL_law 499 = .ok (.iconst 1, 1) := by decide +kernel
theorem dL_law_500 : decode cL_law 500 = .ok (.iadd, 1) := by decide +kernel
theorem dL_law_501 : decode cL_law 501 = .ok (.iaload, 1) := by decide +kernel
theorem dL_law_502 : decode cL_law 502 = .ok (.aload_n 0, 1) := by decide +kernel
theorem dL_law_503 : decode cL_law 503 = .ok (.iload 4, 2) := by decide +kernel
theorem dL_law_505 : decode cL_law 505 = .ok (.iconst 2, 1) := by decide +kernel
theorem dL_law_506 : decode cL_law 506 = .ok (.iadd, 1) := by decide +kernel
theorem dL_law_507 : decode cL_law 507 = .ok (.iaload, 1) := by decide +kernel
theorem dL_law_508 : decode cL_law 508 = .ok (.invokevirtual 145, 3) := by decide +kernel
theorem dL_law_511 : decode cL_law 511 = .ok (.istore 6, 2) := by decide +kernel
theorem dL_law_513 : decode cL_law 513 = .ok (.goto 1132, 3) := by decide +kernel
theorem dL_law_516 : decode cL_law 516 = .ok (.aload_n 1, 1) := by decide +kernel
theorem dL_law_517 : decode cL_law 517 = .ok (.aload_n 0, 1) := by decide +kernel
theorem dL_law_518 : decode cL_law 518 = .ok (.iload 4, 2) := by decide +kernel
theorem dL_law_520 : decode cL_law 520 = .ok (.iconst 1, 1) := by decide +kernel
theorem dL_law_521 : decode cL_law 521 = .ok (.iadd, 1) := by decide +kernel
theorem dL_law_522 : decode cL_law 522 = .ok (.iaload, 1) := by decide +kernel
theorem dL_law_523 : decode cL_law 523 = .ok (.aload_n 3, 1) := by decide +kernel
theorem dL_law_524 : decode cL_law 524 = .ok (.invokestatic 146, 3) := by decide +kernel
theorem dL_law_527 : decode cL_law 527 = .ok (.istore 5, 2) := by decide +kernel
theorem dL_law_529 : decode cL_law 529 = .ok (.aload_n 2, 1) := by decide +kernel
theorem dL_law_530 : decode cL_law 530 = .ok (.aload_n 0, 1) := by decide +kernel
theorem dL_law_531 : decode cL_law 531 = .ok (.iload 4, 2) := by decide +kernel
theorem dL_law_533 : decode cL_law 533 = .ok (.iconst 1, 1) := by decide +kernel
theorem dL_law_534 : decode cL_law 534 = .ok (.iadd, 1) := by decide +kernel
theorem dL_law_535 : decode cL_law 535 = .ok (.iaload, 1) := by decide +kernel
theorem dL_law_536 : decode cL_law 536 = .ok (.invokevirtual 149, 3) := by decide +kernel
theorem dL_law_539 : decode cL_law 539 = .ok (.istore 6, 2) := by decide +kernel
theorem dL_law_541 : decode cL_law 541 = .ok (.goto 1104, 3) := by decide +kernel
theorem dL_law_544 : decode cL_law 544 = .ok (.aload_n 1, 1) := by decide +kernel
theorem dL_law_545 : decode cL_law 545 = .ok (.aload_n 0, 1) := by decide +kernel
theorem dL_law_546 : decode cL_law 546 = .ok (.iload 4, 2) := by decide +kernel
theorem dL_law_548 : decode cL_law 548 = .ok (.iconst 1, 1) := by decide +kernel
theorem dL_law_549 : decode cL_law 549 = .ok (.iadd, 1) := by decide +kernel
theorem dL_law_550 : decode cL_law 550 = .ok (.iaload, 1) := by decide +kernel
theorem dL_law_551 : decode cL_law 551 = .ok (.aload_n 0, 1) := by decide +kernel
theorem dL_law_552 : decode cL_law 552 = .ok (.iload 4, 2) := by decide +kernel
theorem dL_law_554 : decode cL_law 554 = .ok (.iconst 2, 1) := by decide +kernel
theorem dL_law_555 : decode cL_law 555 = .ok (.iadd, 1) := by decide +kernel
theorem dL_law_556 : decode cL_law 556 = .ok (.iaload, 1) := by decide +kernel
theorem dL_law_557 : decode cL_law 557 = .ok (.invokevirtual 150, 3) := by decide +kernel
theorem dL_law_560 : decode cL_law 560 = .ok (.pop, 1) := by decide +kernel
theorem dL_law_561 : decode cL_law 561 = .ok (.aload_n 2, 1) := by decide +kernel
theorem dL_law_562 : decode cL_law 562 = .ok (.aload_n 0, 1) := by decide +kernel
theorem dL_law_563 : decode cL_law 563 = .ok (.iload 4, 2) := by decide +kernel
theorem dL_law_565 : decode cL_law 565 = .ok (.iconst 1, 1) := by decide +kernel
theorem dL_law_566 : decode cL_law 566 = .ok (.iadd, 1) := by decide +kernel
theorem dL_law_567 : decode cL_law 567 = .ok (.iaload, 1) := by decide +kernel
theorem dL_law_568 : decode cL_law 568 = .ok (.aload_n 0, 1) := by decide +kernel
theorem dL_law_569 : decode cL_law 569 = .ok (.iload 4, 2) := by decide +kernel
theorem dL_law_571 : decode cL_law 571 = .ok (.iconst 2, 1) := by decide +kernel
theorem dL_law_572 : decode cL_law 572 = .ok (.iadd, 1) := by decide +kernel
theorem dL_law_573 : decode cL_law 573 = .ok (.iaload, 1) := by decide +kernel
theorem dL_law_574 : decode cL_law 574 = .ok (.invokevirtual 153, 3) := by decide +kernel
theorem dL_law_577 : decode cL_law 577 = .ok (.pop, 1) := by decide +kernel
theorem dL_law_578 : decode cL_law 578 = .ok (.goto 1067, 3) := by decide +kernel
theorem dL_law_581 : decode cL_law 581 = .ok (.aload_n 1, 1) := by decide +kernel
theorem dL_law_582 : decode cL_law 582 = .ok (.aload_n 0, 1) := by decide +kernel
theorem dL_law_583 : decode cL_law 583 = .ok (.iload 4, 2) := by decide +kernel
theorem dL_law_585 : decode cL_law 585 = .ok (.iconst 1, 1) := by decide +kernel
theorem dL_law_586 : decode cL_law 586 = .ok (.iadd, 1) := by decide +kernel
theorem dL_law_587 : decode cL_law 587 = .ok (.iaload, 1) := by decide +kernel
theorem dL_law_588 : decode cL_law 588 = .ok (.aload_n 0, 1) := by decide +kernel
theorem dL_law_589 : decode cL_law 589 = .ok (.iload 4, 2) := by decide +kernel
theorem dL_law_591 : decode cL_law 591 = .ok (.iconst 2, 1) := by decide +kernel
theorem dL_law_592 : decode cL_law 592 = .ok (.iadd, 1) := by decide +kernel
theorem dL_law_593 : decode cL_law 593 = .ok (.iaload, 1) := by decide +kernel
theorem dL_law_594 : decode cL_law 594 = .ok (.aload_n 0, 1) := by decide +kernel
theorem dL_law_595 : decode cL_law 595 = .ok (.iload 4, 2) := by decide +kernel
theorem dL_law_597 : decode cL_law 597 = .ok (.iconst 3, 1) := by decide +kernel
theorem dL_law_598 : decode cL_law 598 = .ok (.iadd, 1) := by decide +kernel
theorem dL_law_599 : decode cL_law 599 = .ok (.iaload, 1) := by decide +kernel
theorem dL_law_600 : decode cL_law 600 = .ok (.invokevirtual 154, 3) := by decide +kernel
theorem dL_law_603 : decode cL_law 603 = .ok (.pop, 1) := by decide +kernel
theorem dL_law_604 : decode cL_law 604 = .ok (.aload_n 2, 1) := by decide +kernel
theorem dL_law_605 : decode cL_law 605 = .ok (.aload_n 0, 1) := by decide +kernel
theorem dL_law_606 : decode cL_law 606 = .ok (.iload 4, 2) := by decide +kernel
theorem dL_law_608 : decode cL_law 608 = .ok (.iconst 1, 1) := by decide +kernel
theorem dL_law_609 : decode cL_law 609 = .ok (.iadd, 1) := by decide +kernel
theorem dL_law_610 : decode cL_law 610 = .ok (.iaload, 1) := by decide +kernel
theorem dL_law_611 : decode cL_law 611 = .ok (.aload_n 0, 1) := by decide +kernel
theorem dL_law_612 : decode cL_law 612 = .ok (.iload 4, 2) := by decide +kernel
theorem dL_law_614 : decode cL_law 614 = .ok (.iconst 2, 1) := by decide +kernel
theorem dL_law_615 : decode cL_law 615 = .ok (.iadd, 1) := by decide +kernel
theorem dL_law_616 : decode cL_law 616 = .ok (.iaload, 1) := by decide +kernel
theorem dL_law_617 : decode cL_law 617 = .ok (.aload_n 0, 1) := by decide +kernel
theorem dL_law_618 : decode cL_law 618 = .ok (.iload 4, 2) := by decide +kernel
theorem dL_law_620 : decode cL_law 620 = .ok (.iconst 3, 1) := by decide +kernel
theorem dL_law_621 : decode cL_law 621 = .ok (.iadd, 1) := by decide +kernel
theorem dL_law_622 : decode cL_law 622 = .ok (.iaload, 1) := by decide +kernel
theorem dL_law_623 : decode cL_law 623 = .ok (.invokevirtual 157, 3) := by decide +kernel
theorem dL_law_626 : decode cL_law 626 = .ok (.pop, 1) := by decide +kernel
theorem dL_law_627 : decode cL_law 627 = .ok (.goto 1018, 3) := by decide +kernel
theorem dL_law_630 : decode cL_law 630 = .ok (.aload_n 1, 1) := by decide +kernel
theorem dL_law_631 : decode cL_law 631 = .ok (.aload_n 0, 1) := by decide +kernel
theorem dL_law_632 : decode cL_law 632 = .ok (.iload 4, 2) := by decide +kernel
theorem dL_law_634 : decode cL_law 634 = .ok (.iconst 1, 1) := by decide +kernel
theorem dL_law_635 : decode cL_law 635 = .ok (.iadd, 1) := by decide +kernel
theorem dL_law_636 : decode cL_law 636 = .ok (.iaload, 1) := by decide +kernel
theorem dL_law_637 : decode cL_law 637 = .ok (.aload_n 0, 1) := by decide +kernel
theorem dL_law_638 : decode cL_law 638 = .ok (.iload 4, 2) := by decide +kernel
theorem dL_law_640 : decode cL_law 640 = .ok (.iconst 2, 1) := by decide +kernel
theorem dL_law_641 : decode cL_law 641 = .ok (.iadd, 1) := by decide +kernel
theorem dL_law_642 : decode cL_law 642 = .ok (.iaload, 1) := by decide +kernel
theorem dL_law_643 : decode cL_law 643 = .ok (.aload_n 0, 1) := by decide +kernel
theorem dL_law_644 : decode cL_law 644 = .ok (.iload 4, 2) := by decide +kernel
theorem dL_law_646 : decode cL_law 646 = .ok (.iconst 3, 1) := by decide +kernel
theorem dL_law_647 : decode cL_law 647 = .ok (.iadd, 1) := by decide +kernel
theorem dL_law_648 : decode cL_law 648 = .ok (.iaload, 1) := by decide +kernel
theorem dL_law_649 : decode cL_law 649 = .ok (.invokevirtual 158, 3) := by decide +kernel
theorem dL_law_652 : decode cL_law 652 = .ok (.pop, 1) := by decide +kernel
theorem dL_law_653 : decode cL_law 653 = .ok (.aload_n 2, 1) := by decide +kernel
theorem dL_law_654 : decode cL_law 654 = .ok (.aload_n 0, 1) := by decide +kernel
theorem dL_law_655 : decode cL_law 655 = .ok (.iload 4, 2) := by decide +kernel
theorem dL_law_657 : decode cL_law 657 = .ok (.iconst 1, 1) := by decide +kernel
theorem dL_law_658 : decode cL_law 658 = .ok (.iadd, 1) := by decide +kernel
theorem dL_law_659 : decode cL_law 659 = .ok (.iaload, 1) := by decide +kernel
theorem dL_law_660 : decode cL_law 660 = .ok (.aload_n 0, 1) := by decide +kernel
theorem dL_law_661 : decode cL_law 661 = .ok (.iload 4, 2) := by decide +kernel
theorem dL_law_663 : decode cL_law 663 = .ok (.iconst 2, 1) := by decide +kernel
theorem dL_law_664 : decode cL_law 664 = .ok (.iadd, 1) := by decide +kernel
theorem dL_law_665 : decode cL_law 665 = .ok (.iaload, 1) := by decide +kernel
theorem dL_law_666 : decode cL_law 666 = .ok (.aload_n 0, 1) := by decide +kernel
theorem dL_law_667 : decode cL_law 667 = .ok (.iload 4, 2) := by decide +kernel
theorem dL_law_669 : decode cL_law 669 = .ok (.iconst 3, 1) := by decide +kernel
theorem dL_law_670 : decode cL_law 670 = .ok (.iadd, 1) := by decide +kernel
theorem dL_law_671 : decode cL_law 671 = .ok (.iaload, 1) := by decide +kernel
theorem dL_law_672 : decode cL_law 672 = .ok (.invokevirtual 161, 3) := by decide +kernel
theorem dL_law_675 : decode cL_law 675 = .ok (.pop, 1) := by decide +kernel
theorem dL_law_676 : decode cL_law 676 = .ok (.goto 969, 3) := by decide +kernel
theorem dL_law_679 : decode cL_law 679 = .ok (.aload_n 1, 1) := by decide +kernel
theorem dL_law_680 : decode cL_law 680 = .ok (.aload_n 0, 1) := by decide +kernel
theorem dL_law_681 : decode cL_law 681 = .ok (.iload 4, 2) := by decide +kernel
theorem dL_law_683 : decode cL_law 683 = .ok (.iconst 1, 1) := by decide +kernel
theorem dL_law_684 : decode cL_law 684 = .ok (.iadd, 1) := by decide +kernel
theorem dL_law_685 : decode cL_law 685 = .ok (.iaload, 1) := by decide +kernel
theorem dL_law_686 : decode cL_law 686 = .ok (.aload_n 0, 1) := by decide +kernel
theorem dL_law_687 : decode cL_law 687 = .ok (.iload 4, 2) := by decide +kernel
theorem dL_law_689 : decode cL_law 689 = .ok (.iconst 2, 1) := by decide +kernel
theorem dL_law_690 : decode cL_law 690 = .ok (.iadd, 1) := by decide +kernel
theorem dL_law_691 : decode cL_law 691 = .ok (.iaload, 1) := by decide +kernel
theorem dL_law_692 : decode cL_law 692 = .ok (.invokevirtual 162, 3) := by decide +kernel
theorem dL_law_695 : decode cL_law 695 = .ok (.pop, 1) := by decide +kernel
theorem dL_law_696 : decode cL_law 696 = .ok (.aload_n 2, 1) := by decide +kernel
theorem dL_law_697 : decode cL_law 697 = .ok (.aload_n 0, 1) := by decide +kernel
theorem dL_law_698 : decode cL_law 698 = .ok (.iload 4, 2) := by decide +kernel
theorem dL_law_700 : decode cL_law 700 = .ok (.iconst 1, 1) := by decide +kernel
theorem dL_law_701 : decode cL_law 701 = .ok (.iadd, 1) := by decide +kernel
theorem dL_law_702 : decode cL_law 702 = .ok (.iaload, 1) := by decide +kernel
theorem dL_law_703 : decode cL_law 703 = .ok (.aload_n 0, 1) := by decide +kernel
theorem dL_law_704 : decode cL_law 704 = .ok (.iload 4, 2) := by decide +kernel
theorem dL_law_706 : decode cL_law 706 = .ok (.iconst 2, 1) := by decide +kernel
theorem dL_law_707 : decode cL_law 707 = .ok (.iadd, 1) := by decide +kernel
theorem dL_law_708 : decode cL_law 708 = .ok (.iaload, 1) := by decide +kernel
theorem dL_law_709 : decode cL_law 709 = .ok (.invokevirtual 165, 3) := by decide +kernel
theorem dL_law_712 : decode cL_law 712 = .ok (.pop, 1) := by decide +kernel
theorem dL_law_713 : decode cL_law 713 = .ok (.goto 932, 3) := by decide +kernel
theorem dL_law_716 : decode cL_law 716 = .ok (.aload_n 1, 1) := by decide +kernel
theorem dL_law_717 : decode cL_law 717 = .ok (.aload_n 0, 1) := by decide +kernel
theorem dL_law_718 : decode cL_law 718 = .ok (.iload 4, 2) := by decide +kernel
theorem dL_law_720 : decode cL_law 720 = .ok (.iconst 1, 1) := by decide +kernel
theorem dL_law_721 : decode cL_law 721 = .ok (.iadd, 1) := by decide +kernel
theorem dL_law_722 : decode cL_law 722 = .ok (.iaload, 1) := by decide +kernel
theorem dL_law_723 : decode cL_law 723 = .ok (.aload_n 0, 1) := by decide +kernel
theorem dL_law_724 : decode cL_law 724 = .ok (.iload 4, 2) := by decide +kernel
theorem dL_law_726 : decode cL_law 726 = .ok (.iconst 2, 1) := by decide +kernel
theorem dL_law_727 : decode cL_law 727 = .ok (.iadd, 1) := by decide +kernel
theorem dL_law_728 : decode cL_law 728 = .ok (.iaload, 1) := by decide +kernel
theorem dL_law_729 : decode cL_law 729 = .ok (.aload_n 0, 1) := by decide +kernel
theorem dL_law_730 : decode cL_law 730 = .ok (.iload 4, 2) := by decide +kernel
theorem dL_law_732 : decode cL_law 732 = .ok (.iconst 3, 1) := by decide +kernel
theorem dL_law_733 : decode cL_law 733 = .ok (.iadd, 1) := by decide +kernel
theorem dL_law_734 : decode cL_law 734 = .ok (.iaload, 1) := by decide +kernel
theorem dL_law_735 : decode cL_law 735 = .ok (.invokevirtual 166, 3) := by decide +kernel
theorem dL_law_738 : decode cL_law 738 = .ok (.pop, 1) := by decide +kernel
theorem dL_law_739 : decode cL_law 739 = .ok (.aload_n 2, 1) := by decide +kernel
theorem dL_law_740 : decode cL_law 740 = .ok (.aload_n 0, 1) := by decide +kernel
theorem dL_law_741 : decode cL_law 741 = .ok (.iload 4, 2) := by decide +kernel
theorem dL_law_743 : decode cL_law 743 = .ok (.iconst 1, 1) := by decide +kernel
theorem dL_law_744 : decode cL_law 744 = .ok (.iadd, 1) := by decide +kernel
theorem dL_law_745 : decode cL_law 745 = .ok (.iaload, 1) := by decide +kernel
theorem dL_law_746 : decode cL_law 746 = .ok (.aload_n 0, 1) := by decide +kernel
theorem dL_law_747 : decode cL_law 747 = .ok (.iload 4, 2) := by decide +kernel
theorem dL_law_749 : decode cL_law 749 = .ok (.iconst 2, 1) := by decide +kernel
theorem dL_law_750 : decode cL_law 750 = .ok (.iadd, 1) := by decide +kernel
theorem dL_law_751 : decode cL_law 751 = .ok (.iaload, 1) := by decide +kernel
theorem dL_law_752 : decode cL_law 752 = .ok (.aload_n 0, 1) := by decide +kernel
theorem dL_law_753 : decode cL_law 753 = .ok (.iload 4, 2) := by decide +kernel
theorem dL_law_755 : decode cL_law 755 = .ok (.iconst 3, 1) := by decide +kernel
theorem dL_law_756 : decode cL_law 756 = .ok (.iadd, 1) := by decide +kernel
theorem dL_law_757 : decode cL_law 757 = .ok (.iaload, 1) := by decide +kernel
theorem dL_law_758 : decode cL_law 758 = .ok (.invokevirtual 170, 3) := by decide +kernel
theorem dL_law_761 : decode cL_law 761 = .ok (.pop, 1) := by decide +kernel
theorem dL_law_762 : decode cL_law 762 = .ok (.goto 883, 3) := by decide +kernel
theorem dL_law_765 : decode cL_law 765 = .ok (.aload_n 1, 1) := by decide +kernel
theorem dL_law_766 : decode cL_law 766 = .ok (.aload_n 0, 1) := by decide +kernel
theorem dL_law_767 : decode cL_law 767 = .ok (.iload 4, 2) := by decide +kernel
theorem dL_law_769 : decode cL_law 769 = .ok (.iconst 1, 1) := by decide +kernel
theorem dL_law_770 : decode cL_law 770 = .ok (.iadd, 1) := by decide +kernel
theorem dL_law_771 : decode cL_law 771 = .ok (.iaload, 1) := by decide +kernel
theorem dL_law_772 : decode cL_law 772 = .ok (.aload_n 0, 1) := by decide +kernel
theorem dL_law_773 : decode cL_law 773 = .ok (.iload 4, 2) := by decide +kernel
theorem dL_law_775 : decode cL_law 775 = .ok (.iconst 2, 1) := by decide +kernel
theorem dL_law_776 : decode cL_law 776 = .ok (.iadd, 1) := by decide +kernel
theorem dL_law_777 : decode cL_law 777 = .ok (.iaload, 1) := by decide +kernel
theorem dL_law_778 : decode cL_law 778 = .ok (.aload_n 0, 1) := by decide +kernel
theorem dL_law_779 : decode cL_law 779 = .ok (.iload 4, 2) := by decide +kernel
theorem dL_law_781 : decode cL_law 781 = .ok (.iconst 3, 1) := by decide +kernel
theorem dL_law_782 : decode cL_law 782 = .ok (.iadd, 1) := by decide +kernel
theorem dL_law_783 : decode cL_law 783 = .ok (.iaload, 1) := by decide +kernel
theorem dL_law_784 : decode cL_law 784 = .ok (.invokevirtual 171, 3) := by decide +kernel
theorem dL_law_787 : decode cL_law 787 = .ok (.pop, 1) := by decide +kernel
theorem dL_law_788 : decode cL_law 788 = .ok (.aload_n 2, 1) := by decide +kernel
theorem dL_law_789 : decode cL_law 789 = .ok (.aload_n 0, 1) := by decide +kernel
theorem dL_law_790 : decode cL_law 790 = .ok (.iload 4, 2) := by decide +kernel
theorem dL_law_792 : decode cL_law 792 = .ok (.iconst 1, 1) := by decide +kernel
theorem dL_law_793 : decode cL_law 793 = .ok (.iadd, 1) := by decide +kernel
theorem dL_law_794 : decode cL_law 794 = .ok (.iaload, 1) := by decide +kernel
theorem dL_law_795 : decode cL_law 795 = .ok (.aload_n 0, 1) := by decide +kernel
theorem dL_law_796 : decode cL_law 796 = .ok (.iload 4, 2) := by decide +kernel
theorem dL_law_798 : decode cL_law 798 = .ok (.iconst 2, 1) := by decide +kernel
theorem dL_law_799 : decode cL_law 799 = .ok (.iadd, 1) := by decide +kernel
theorem dL_law_800 : decode cL_law 800 = .ok (.iaload, 1) := by decide +kernel
theorem dL_law_801 : decode cL_law 801 = .ok (.aload_n 0, 1) := by decide +kernel
theorem dL_law_802 : decode cL_law 802 = .ok (.iload 4, 2) := by decide +kernel
theorem dL_law_804 : decode cL_law 804 = .ok (.iconst 3, 1) := by decide +kernel
theorem dL_law_805 : decode cL_law 805 = .ok (.iadd, 1) := by decide +kernel
theorem dL_law_806 : decode cL_law 806 = .ok (.iaload, 1) := by decide +kernel
theorem dL_law_807 : decode cL_law 807 = .ok (.invokevirtual 174, 3) := by decide +kernel
theorem dL_law_810 : decode cL_law 810 = .ok (.pop, 1) := by decide +kernel
theorem dL_law_811 : decode cL_law 811 = .ok (.goto 834, 3) := by decide +kernel
theorem dL_law_814 : decode cL_law 814 = .ok (.aload_n 1, 1) := by decide +kernel
theorem dL_law_815 : decode cL_law 815 = .ok (.aload_n 0, 1) := by decide +kernel
theorem dL_law_816 : decode cL_law 816 = .ok (.iload 4, 2) := by decide +kernel
theorem dL_law_818 : decode cL_law 818 = .ok (.iconst 1, 1) := by decide +kernel
theorem dL_law_819 : decode cL_law 819 = .ok (.iadd, 1) := by decide +kernel
theorem dL_law_820 : decode cL_law 820 = .ok (.iaload, 1) := by decide +kernel
theorem dL_law_821 : decode cL_law 821 = .ok (.aload_n 0, 1) := by decide +kernel
theorem dL_law_822 : decode cL_law 822 = .ok (.iload 4, 2) := by decide +kernel
theorem dL_law_824 : decode cL_law 824 = .ok (.iconst 2, 1) := by decide +kernel
theorem dL_law_825 : decode cL_law 825 = .ok (.iadd, 1) := by decide +kernel
theorem dL_law_826 : decode cL_law 826 = .ok (.iaload, 1) := by decide +kernel
theorem dL_law_827 : decode cL_law 827 = .ok (.aload_n 3, 1) := by decide +kernel
theorem dL_law_828 : decode cL_law 828 = .ok (.invokestatic 175, 3) := by decide +kernel
theorem dL_law_831 : decode cL_law 831 = .ok (.istore 5, 2) := by decide +kernel
theorem dL_law_833 : decode cL_law 833 = .ok (.aload_n 2, 1) := by decide +kernel
theorem dL_law_834 : decode cL_law 834 = .ok (.aload_n 0, 1) := by decide +kernel
theorem dL_law_835 : decode cL_law 835 = .ok (.iload 4, 2) := by decide +kernel
theorem dL_law_837 : decode cL_law 837 = .ok (.iconst 1, 1) := by decide +kernel
theorem dL_law_838 : decode cL_law 838 = .ok (.iadd, 1) := by decide +kernel
theorem dL_law_839 : decode cL_law 839 = .ok (.iaload, 1) := by decide +kernel
theorem dL_law_840 : decode cL_law 840 = .ok (.aload_n 0, 1) := by decide +kernel
theorem dL_law_841 : decode cL_law 841 = .ok (.iload 4, 2) := by decide +kernel
theorem dL_law_843 : decode cL_law 843 = .ok (.iconst 2, 1) := by decide +kernel
theorem dL_law_844 : decode cL_law 844 = .ok (.iadd, 1) := by decide +kernel
theorem dL_law_845 : decode cL_law 845 = .ok (.iaload, 1) := by decide +kernel
theorem dL_law_846 : decode cL_law 846 = .ok (.invokevirtual 177, 3) := by decide +kernel
theorem dL_law_849 : decode cL_law 849 = .ok (.istore 6, 2) := by decide +kernel
theorem dL_law_851 : decode cL_law 851 = .ok (.goto 794, 3) := by decide +kernel
theorem dL_law_854 : decode cL_law 854 = .ok (.aload_n 1, 1) := by decide +kernel
theorem dL_law_855 : decode cL_law 855 = .ok (.aload_n 0, 1) := by decide +kernel
theorem dL_law_856 : decode cL_law 856 = .ok (.iload 4, 2) := by decide +kernel
theorem dL_law_858 : decode cL_law 858 = .ok (.iconst 1, 1) := by decide +kernel
theorem dL_law_859 : decode cL_law 859 = .ok (.iadd, 1) := by decide +kernel
theorem dL_law_860 : decode cL_law 860 = .ok (.iaload, 1) := by decide +kernel
theorem dL_law_861 : decode cL_law 861 = .ok (.aload_n 3, 1) := by decide +kernel
theorem dL_law_862 : decode cL_law 862 = .ok (.invokestatic 178, 3) := by decide +kernel
theorem dL_law_865 : decode cL_law 865 = .ok (.istore 5, 2) := by decide +kernel
theorem dL_law_867 : decode cL_law 867 = .ok (.aload_n 2, 1) := by decide +kernel
theorem dL_law_868 : decode cL_law 868 = .ok (.aload_n 0, 1) := by decide +kernel
theorem dL_law_869 : decode cL_law 869 = .ok (.iload 4, 2) := by decide +kernel
theorem dL_law_871 : decode cL_law 871 = .ok (.iconst 1, 1) := by decide +kernel
theorem dL_law_872 : decode cL_law 872 = .ok (.iadd, 1) := by decide +kernel
theorem dL_law_873 : decode cL_law 873 = .ok (.iaload, 1) := by decide +kernel
theorem dL_law_874 : decode cL_law 874 = .ok (.invokevirtual 180, 3) := by decide +kernel
theorem dL_law_877 : decode cL_law 877 = .ok (.astore 6, 2) := by decide +kernel
theorem dL_law_879 : decode cL_law 879 = .ok (.goto 766, 3) := by decide +kernel
theorem dL_law_882 : decode cL_law 882 = .ok (.aload_n 1, 1) := by decide +kernel
theorem dL_law_883 : decode cL_law 883 = .ok (.aload_n 0, 1) := by decide +kernel
theorem dL_law_884 : decode cL_law 884 = .ok (.iload 4, 2) := by decide +kernel
theorem dL_law_886 : decode cL_law 886 = .ok (.iconst 1, 1) := by decide +kernel
theorem dL_law_887 : decode cL_law 887 = .ok (.iadd, 1) := by decide +kernel
theorem dL_law_888 : decode cL_law 888 = .ok (.iaload, 1) := by decide +kernel
theorem dL_law_889 : decode cL_law 889 = .ok (.aload_n 3, 1) := by decide +kernel
theorem dL_law_890 : decode cL_law 890 = .ok (.invokestatic 181, 3) := by decide +kernel
theorem dL_law_893 : decode cL_law 893 = .ok (.istore 5, 2) := by decide +kernel
theorem dL_law_895 : decode cL_law 895 = .ok (.aload_n 2, 1) := by decide +kernel
theorem dL_law_896 : decode cL_law 896 = .ok (.aload_n 0, 1) := by decide +kernel
theorem dL_law_897 : decode cL_law 897 = .ok (.iload 4, 2) := by decide +kernel
theorem dL_law_899 : decode cL_law 899 = .ok (.iconst 1, 1) := by decide +kernel
theorem dL_law_900 : decode cL_law 900 = .ok (.iadd, 1) := by decide +kernel
theorem dL_law_901 : decode cL_law 901 = .ok (.iaload, 1) := by decide +kernel
theorem dL_law_902 : decode cL_law 902 = .ok (.invokevirtual 183, 3) := by decide +kernel
theorem dL_law_905 : decode cL_law 905 = .ok (.istore 6, 2) := by decide +kernel
theorem dL_law_907 : decode cL_law 907 = .ok (.goto 738, 3) := by decide +kernel
theorem dL_law_910 : decode cL_law 910 = .ok (.aload_n 1, 1) := by decide +kernel
theorem dL_law_911 : decode cL_law 911 = .ok (.aload_n 0, 1) := by decide +kernel
theorem dL_law_912 : decode cL_law 912 = .ok (.iload 4, 2) := by decide +kernel
theorem dL_law_914 : decode cL_law 914 = .ok (.iconst 1, 1) := by decide +kernel
theorem dL_law_915 : decode cL_law 915 = .ok (.iadd, 1) := by decide +kernel
theorem dL_law_916 : decode cL_law 916 = .ok (.iaload, 1) := by decide +kernel
theorem dL_law_917 : decode cL_law 917 = .ok (.aload_n 0, 1) := by decide +kernel
theorem dL_law_918 : decode cL_law 918 = .ok (.iload 4, 2) := by decide +kernel
theorem dL_law_920 : decode cL_law 920 = .ok (.iconst 2, 1) := by decide +kernel
theorem dL_law_921 : decode cL_law 921 = .ok (.iadd, 1) := by decide +kernel
theorem dL_law_922 : decode cL_law 922 = .ok (.iaload, 1) := by decide +kernel
theorem dL_law_923 : decode cL_law 923 = .ok (.aload_n 3, 1) := by decide +kernel
theorem dL_law_924 : decode cL_law 924 = .ok (.invokestatic 184, 3) := by decide +kernel
theorem dL_law_927 : decode cL_law 927 = .ok (.istore 5, 2) := by decide +kernel
theorem dL_law_929 : decode cL_law 929 = .ok (.aload_n 2, 1) := by decide +kernel
theorem dL_law_930 : decode cL_law 930 = .ok (.aload_n 0, 1) := by decide +kernel
theorem dL_law_931 : decode cL_law 931 = .ok (.iload 4, 2) := by decide +kernel
theorem dL_law_933 : decode cL_law 933 = .ok (.iconst 1, 1) := by decide +kernel
theorem dL_law_934 : decode cL_law 934 = .ok (.iadd, 1) := by decide +kernel
theorem dL_law_935 : decode cL_law 935 = .ok (.iaload, 1) := by decide +kernel
theorem dL_law_936 : decode cL_law 936 = .ok (.aload_n 0, 1) := by decide +kernel
theorem dL_law_937 : decode cL_law 937 = .ok (.iload 4, 2) := by decide +kernel
theorem dL_law_939 : decode cL_law 939 = .ok (.iconst 2, 1) := by decide +kernel
theorem dL_law_940 : decode cL_law 940 = .ok (.iadd, 1) := by decide +kernel
theorem dL_law_941 : decode cL_law 941 = .ok (.iaload, 1) := by decide +kernel
theorem dL_law_942 : decode cL_law 942 = .ok (.invokevirtual 186, 3) := by decide +kernel
theorem dL_law_945 : decode cL_law 945 = .ok (.istore 6, 2) := by decide +kernel
theorem dL_law_947 : decode cL_law 947 = .ok (.goto 698, 3) := by decide +kernel
theorem dL_law_950 : decode cL_law 950 = .ok (.aload_n 1, 1) := by decide +kernel
theorem dL_law_951 : decode cL_law 951 = .ok (.aload_n 0, 1) := by decide +kernel
theorem dL_law_952 : decode cL_law 952 = .ok (.iload 4, 2) := by decide +kernel
theorem dL_law_954 : decode cL_law 954 = .ok (.iconst 1, 1) := by decide +kernel
theorem dL_law_955 : decode cL_law 955 = .ok (.iadd, 1) := by decide +kernel
theorem dL_law_956 : decode cL_law 956 = .ok (.iaload, 1) := by decide +kernel
theorem dL_law_957 : decode cL_law 957 = .ok (.aload_n 0, 1) := by decide +kernel
theorem dL_law_958 : decode cL_law 958 = .ok (.iload 4, 2) := by decide +kernel
theorem dL_law_960 : decode cL_law 960 = .ok (.iconst 2, 1) := by decide +kernel
theorem dL_law_961 : decode cL_law 961 = .ok (.iadd, 1) := by decide +kernel
theorem dL_law_962 : decode cL_law 962 = .ok (.iaload, 1) := by decide +kernel
theorem dL_law_963 : decode cL_law 963 = .ok (.aload_n 0, 1) := by decide +kernel
theorem dL_law_964 : decode cL_law 964 = .ok (.iload 4, 2) := by decide +kernel
theorem dL_law_966 : decode cL_law 966 = .ok (.iconst 3, 1) := by decide +kernel
theorem dL_law_967 : decode cL_law 967 = .ok (.iadd, 1) := by decide +kernel
theorem dL_law_968 : decode cL_law 968 = .ok (.iaload, 1) := by decide +kernel
theorem dL_law_969 : decode cL_law 969 = .ok (.aload_n 3, 1) := by decide +kernel
theorem dL_law_970 : decode cL_law 970 = .ok (.invokestatic 187, 3) := by decide +kernel
theorem dL_law_973 : decode cL_law 973 = .ok (.istore 5, 2) := by decide +kernel
theorem dL_law_975 : decode cL_law 975 = .ok (.aload_n 2, 1) := by decide +kernel
theorem dL_law_976 : decode cL_law 976 = .ok (.aload_n 0, 1) := by decide +kernel
theorem dL_law_977 : decode cL_law 977 = .ok (.iload 4, 2) := by decide +kernel
theorem dL_law_979 : decode cL_law 979 = .ok (.iconst 1, 1) := by decide +kernel
theorem dL_law_980 : decode cL_law 980 = .ok (.iadd, 1) := by decide +kernel
theorem dL_law_981 : decode cL_law 981 = .ok (.iaload, 1) := by decide +kernel
theorem dL_law_982 : decode cL_law 982 = .ok (.aload_n 0, 1) := by decide +kernel
theorem dL_law_983 : decode cL_law 983 = .ok (.iload 4, 2) := by decide +kernel
theorem dL_law_985 : decode cL_law 985 = .ok (.iconst 2, 1) := by decide +kernel
theorem dL_law_986 : decode cL_law 986 = .ok (.iadd, 1) := by decide +kernel
theorem dL_law_987 : decode cL_law 987 = .ok (.iaload, 1) := by decide +kernel
theorem dL_law_988 : decode cL_law 988 = .ok (.aload_n 0, 1) := by decide +kernel
theorem dL_law_989 : decode cL_law 989 = .ok (.iload 4, 2) := by decide +kernel
theorem dL_law_991 : decode cL_law 991 = .ok (.iconst 3, 1) := by decide +kernel
theorem dL_law_992 : decode cL_law 992 = .ok (.iadd, 1) := by decide +kernel
theorem dL_law_993 : decode cL_law 993 = .ok (.iaload, 1) := by decide +kernel
theorem dL_law_994 : decode cL_law 994 = .ok (.invokevirtual 189, 3) := by decide +kernel
theorem dL_law_997 : decode cL_law 997 = .ok (.astore 6, 2) := by decide +kernel
theorem dL_law_999 : decode cL_law 999 = .ok (.goto 646, 3) := by decide +kernel
theorem dL_law_1002 : decode cL_law 1002 = .ok (.aload_n 1, 1) := by decide +kernel
theorem dL_law_1003 : decode cL_law 1003 = .ok (.aload_n 0, 1) := by decide +kernel
theorem dL_law_1004 : decode cL_law 1004 = .ok (.iload 4, 2) := by decide +kernel
theorem dL_law_1006 : decode cL_law 1006 = .ok (.iconst 1, 1) := by decide +kernel
theorem dL_law_1007 : decode cL_law 1007 = .ok (.iadd, 1) := by decide +kernel
theorem dL_law_1008 : decode cL_law 1008 = .ok (.iaload, 1) := by decide +kernel
theorem dL_law_1009 : decode cL_law 1009 = .ok (.aload_n 3, 1) := by decide +kernel
theorem dL_law_1010 : decode cL_law 1010 = .ok (.invokestatic 190, 3) := by decide +kernel
theorem dL_law_1013 : decode cL_law 1013 = .ok (.istore 5, 2) := by decide +kernel
theorem dL_law_1015 : decode cL_law 1015 = .ok (.aload_n 2, 1) := by decide +kernel
theorem dL_law_1016 : decode cL_law 1016 = .ok (.aload_n 0, 1) := by decide +kernel
theorem dL_law_1017 : decode cL_law 1017 = .ok (.iload 4, 2) := by decide +kernel
theorem dL_law_1019 : decode cL_law 1019 = .ok (.iconst 1, 1) := by decide +kernel
theorem dL_law_1020 : decode cL_law 1020 = .ok (.iadd, 1) := by decide +kernel
theorem dL_law_1021 : decode cL_law 1021 = .ok (.iaload, 1) := by decide +kernel
theorem dL_law_1022 : decode cL_law 1022 = .ok (.invokevirtual 192, 3) := by decide +kernel
theorem dL_law_1025 : decode cL_law 1025 = .ok (.istore 6, 2) := by decide +kernel
theorem dL_law_1027 : decode cL_law 1027 = .ok (.goto 618, 3) := by decide +kernel
theorem dL_law_1030 : decode cL_law 1030 = .ok (.aload_n 1, 1) := by decide +kernel
theorem dL_law_1031 : decode cL_law 1031 = .ok (.aload_n 0, 1) := by decide +kernel
theorem dL_law_1032 : decode cL_law 1032 = .ok (.iload 4, 2) := by decide +kernel
theorem dL_law_1034 : decode cL_law 1034 = .ok (.iconst 1, 1) := by decide +kernel
theorem dL_law_1035 : decode cL_law 1035 = .ok (.iadd, 1) := by decide +kernel
theorem dL_law_1036 : decode cL_law 1036 = .ok (.iaload, 1) := by decide +kernel
theorem dL_law_1037 : decode cL_law 1037 = .ok (.aload_n 0, 1) := by decide +kernel
theorem dL_law_1038 : decode cL_law 1038 = .ok (.iload 4, 2) := by decide +kernel
theorem dL_law_1040 : decode cL_law 1040 = .ok (.iconst 2, 1) := by decide +kernel
theorem dL_law_1041 : decode cL_law 1041 = .ok (.iadd, 1) := by decide +kernel
theorem dL_law_1042 : decode cL_law 1042 = .ok (.iaload, 1) := by decide +kernel
theorem dL_law_1043 : decode cL_law 1043 = .ok (.aload_n 3, 1) := by decide +kernel
theorem dL_law_1044 : decode cL_law 1044 = .ok (.invokestatic 193, 3) := by decide +kernel
theorem dL_law_1047 : decode cL_law 1047 = .ok (.istore 5, 2) := by decide +kernel
theorem dL_law_1049 : decode cL_law 1049 = .ok (.aload_n 2, 1) := by decide +kernel
theorem dL_law_1050 : decode cL_law 1050 = .ok (.aload_n 0, 1) := by decide +kernel
theorem dL_law_1051 : decode cL_law 1051 = .ok (.iload 4, 2) := by decide +kernel
theorem dL_law_1053 : decode cL_law 1053 = .ok (.iconst 1, 1) := by decide +kernel
theorem dL_law_1054 : decode cL_law 1054 = .ok (.iadd, 1) := by decide +kernel
theorem dL_law_1055 : decode cL_law 1055 = .ok (.iaload, 1) := by decide +kernel
theorem dL_law_1056 : decode cL_law 1056 = .ok (.aload_n 0, 1) := by decide +kernel
theorem dL_law_1057 : decode cL_law 1057 = .ok (.iload 4, 2) := by decide +kernel
theorem dL_law_1059 : decode cL_law 1059 = .ok (.iconst 2, 1) := by decide +kernel
theorem dL_law_1060 : decode cL_law 1060 = .ok (.iadd, 1) := by decide +kernel
theorem dL_law_1061 : decode cL_law 1061 = .ok (.iaload, 1) := by decide +kernel
theorem dL_law_1062 : decode cL_law 1062 = .ok (.invokevirtual 195, 3) := by decide +kernel
theorem dL_law_1065 : decode cL_law 1065 = .ok (.istore 6, 2) := by decide +kernel
theorem dL_law_1067 : decode cL_law 1067 = .ok (.goto 578, 3) := by decide +kernel
theorem dL_law_1070 : decode cL_law 1070 = .ok (.aload_n 1, 1) := by decide +kernel
theorem dL_law_1071 : decode cL_law 1071 = .ok (.aload_n 0, 1) := by decide +kernel
theorem dL_law_1072 : decode cL_law 1072 = .ok (.iload 4, 2) := by decide +kernel
theorem dL_law_1074 : decode cL_law 1074 = .ok (.iconst 1, 1) := by decide +kernel
theorem dL_law_1075 : decode cL_law 1075 = .ok (.iadd, 1) := by decide +kernel
theorem dL_law_1076 : decode cL_law 1076 = .ok (.iaload, 1) := by decide +kernel
theorem dL_law_1077 : decode cL_law 1077 = .ok (.aload_n 0, 1) := by decide +kernel
theorem dL_law_1078 : decode cL_law 1078 = .ok (.iload 4, 2) := by decide +kernel
theorem dL_law_1080 : decode cL_law 1080 = .ok (.iconst 2, 1) := by decide +kernel
theorem dL_law_1081 : decode cL_law 1081 = .ok (.iadd, 1) := by decide +kernel
theorem dL_law_1082 : decode cL_law 1082 = .ok (.iaload, 1) := by decide +kernel
theorem dL_law_1083 : decode cL_law 1083 = .ok (.aload_n 0, 1) := by decide +kernel
theorem dL_law_1084 : decode cL_law 1084 = .ok (.iload 4, 2) := by decide +kernel
theorem dL_law_1086 : decode cL_law 1086 = .ok (.iconst 3, 1) := by decide +kernel
theorem dL_law_1087 : decode cL_law 1087 = .ok (.iadd, 1) := by decide +kernel
theorem dL_law_1088 : decode cL_law 1088 = .ok (.iaload, 1) := by decide +kernel
theorem dL_law_1089 : decode cL_law 1089 = .ok (.aload_n 0, 1) := by decide +kernel
theorem dL_law_1090 : decode cL_law 1090 = .ok (.iload 4, 2) := by decide +kernel
theorem dL_law_1092 : decode cL_law 1092 = .ok (.iconst 4, 1) := by decide +kernel
theorem dL_law_1093 : decode cL_law 1093 = .ok (.iadd, 1) := by decide +kernel
theorem dL_law_1094 : decode cL_law 1094 = .ok (.iaload, 1) := by decide +kernel
theorem dL_law_1095 : decode cL_law 1095 = .ok (.aload_n 3, 1) := by decide +kernel
theorem dL_law_1096 : decode cL_law 1096 = .ok (.invokestatic 196, 3) := by decide +kernel
theorem dL_law_1099 : decode cL_law 1099 = .ok (.istore 5, 2) := by decide +kernel
theorem dL_law_1101 : decode cL_law 1101 = .ok (.aload_n 2, 1) := by decide +kernel
theorem dL_law_1102 : decode cL_law 1102 = .ok (.aload_n 0, 1) := by decide +kernel
theorem dL_law_1103 : decode cL_law 1103 = .ok (.iload 4, 2) := by decide +kernel
theorem dL_law_1105 : decode cL_law 1105 = .ok (.iconst 1, 1) := by decide +kernel
theorem dL_law_1106 : decode cL_law 1106 = .ok (.iadd, 1) := by decide +kernel
theorem dL_law_1107 : decode cL_law 1107 = .ok (.iaload, 1) := by decide +kernel
theorem dL_law_1108 : decode cL_law 1108 = .ok (.aload_n 0, 1) := by decide +kernel
theorem dL_law_1109 : decode cL_law 1109 = .ok (.iload 4, 2) := by decide +kernel
theorem dL_law_1111 : decode cL_law 1111 = .ok (.iconst 2, 1) := by decide +kernel
theorem dL_law_1112 : decode cL_law 1112 = .ok (.iadd, 1) := by decide +kernel
theorem dL_law_1113 : decode cL_law 1113 = .ok (.iaload, 1) := by decide +kernel
theorem dL_law_1114 : decode cL_law 1114 = .ok (.aload_n 0, 1) := by decide +kernel
theorem dL_law_1115 : decode cL_law 1115 = .ok (.iload 4, 2) := by decide +kernel
theorem dL_law_1117 : decode cL_law 1117 = .ok (.iconst 3, 1) := by decide +kernel
theorem dL_law_1118 : decode cL_law 1118 = .ok (.iadd, 1) := by decide +kernel
theorem dL_law_1119 : decode cL_law 1119 = .ok (.iaload, 1) := by decide +kernel
theorem dL_law_1120 : decode cL_law 1120 = .ok (.aload_n 0, 1) := by decide +kernel
theorem dL_law_1121 : decode cL_law 1121 = .ok (.iload 4, 2) := by decide +kernel
theorem dL_law_1123 : decode cL_law 1123 = .ok (.iconst 4, 1) := by decide +kernel
theorem dL_law_1124 : decode cL_law 1124 = .ok (.iadd, 1) := by decide +kernel
theorem dL_law_1125 : decode cL_law 1125 = .ok (.iaload, 1) := by decide +kernel
theorem dL_law_1126 : decode cL_law 1126 = .ok (.invokevirtual 198, 3) := by decide +kernel
theorem dL_law_1129 : decode cL_law 1129 = .ok (.istore 6, 2) := by decide +kernel
theorem dL_law_1131 : decode cL_law 1131 = .ok (.goto 514, 3) := by decide +kernel
theorem dL_law_1134 : decode cL_law 1134 = .ok (.aload_n 1, 1) := by decide +kernel
theorem dL_law_1135 : decode cL_law 1135 = .ok (.aload_n 0, 1) := by decide +kernel
theorem dL_law_1136 : decode cL_law 1136 = .ok (.iload 4, 2) := by decide +kernel
theorem dL_law_1138 : decode cL_law 1138 = .ok (.iconst 1, 1) := by decide +kernel
theorem dL_law_1139 : decode cL_law 1139 = .ok (.iadd, 1) := by decide +kernel
theorem dL_law_1140 : decode cL_law 1140 = .ok (.iaload, 1) := by decide +kernel
theorem dL_law_1141 : decode cL_law 1141 = .ok (.aload_n 0, 1) := by decide +kernel
theorem dL_law_1142 : decode cL_law 1142 = .ok (.iload 4, 2) := by decide +kernel
theorem dL_law_1144 : decode cL_law 1144 = .ok (.iconst 2, 1) := by decide +kernel
theorem dL_law_1145 : decode cL_law 1145 = .ok (.iadd, 1) := by decide +kernel
theorem dL_law_1146 : decode cL_law 1146 = .ok (.iaload, 1) := by decide +kernel
theorem dL_law_1147 : decode cL_law 1147 = .ok (.aload_n 3, 1) := by decide +kernel
theorem dL_law_1148 : decode cL_law 1148 = .ok (.invokestatic 199, 3) := by decide +kernel
theorem dL_law_1151 : decode cL_law 1151 = .ok (.istore 5, 2) := by decide +kernel
theorem dL_law_1153 : decode cL_law 1153 = .ok (.aload_n 2, 1) := by decide +kernel
theorem dL_law_1154 : decode cL_law 1154 = .ok (.aload_n 0, 1) := by decide +kernel
theorem dL_law_1155 : decode cL_law 1155 = .ok (.iload 4, 2) := by decide +kernel
theorem dL_law_1157 : decode cL_law 1157 = .ok (.iconst 1, 1) := by decide +kernel
theorem dL_law_1158 : decode cL_law 1158 = .ok (.iadd, 1) := by decide +kernel
theorem dL_law_1159 : decode cL_law 1159 = .ok (.iaload, 1) := by decide +kernel
theorem dL_law_1160 : decode cL_law 1160 = .ok (.aload_n 0, 1) := by decide +kernel
theorem dL_law_1161 : decode cL_law 1161 = .ok (.iload 4, 2) := by decide +kernel
theorem dL_law_1163 : decode cL_law 1163 = .ok (.iconst 2, 1) := by decide +kernel
theorem dL_law_1164 : decode cL_law 1164 = .ok (.iadd, 1) := by decide +kernel
theorem dL_law_1165 : decode cL_law 1165 = .ok (.iaload, 1) := by decide +kernel
theorem dL_law_1166 : decode cL_law 1166 = .ok (.invokevirtual 201, 3) := by decide +kernel
theorem dL_law_1169 : decode cL_law 1169 = .ok (.istore 6, 2) := by decide +kernel
theorem dL_law_1171 : decode cL_law 1171 = .ok (.goto 474, 3) := by decide +kernel
theorem dL_law_1174 : decode cL_law 1174 = .ok (.aload_n 1, 1) := by decide +kernel
theorem dL_law_1175 : decode cL_law 1175 = .ok (.aload_n 0, 1) := by decide +kernel
theorem dL_law_1176 : decode cL_law 1176 = .ok (.iload 4, 2) := by decide +kernel
theorem dL_law_1178 : decode cL_law 1178 = .ok (.iconst 1, 1) := by decide +kernel
theorem dL_law_1179 : decode cL_law 1179 = .ok (.iadd, 1) := by decide +kernel
theorem dL_law_1180 : decode cL_law 1180 = .ok (.iaload, 1) := by decide +kernel
theorem dL_law_1181 : decode cL_law 1181 = .ok (.aload_n 0, 1) := by decide +kernel
theorem dL_law_1182 : decode cL_law 1182 = .ok (.iload 4, 2) := by decide +kernel
theorem dL_law_1184 : decode cL_law 1184 = .ok (.iconst 2, 1) := by decide +kernel
theorem dL_law_1185 : decode cL_law 1185 = .ok (.iadd, 1) := by decide +kernel
theorem dL_law_1186 : decode cL_law 1186 = .ok (.iaload, 1) := by decide +kernel
theorem dL_law_1187 : decode cL_law 1187 = .ok (.aload_n 0, 1) := by decide +kernel
theorem dL_law_1188 : decode cL_law 1188 = .ok (.iload 4, 2) := by decide +kernel
theorem dL_law_1190 : decode cL_law 1190 = .ok (.iconst 3, 1) := by decide +kernel
theorem dL_law_1191 : decode cL_law 1191 = .ok (.iadd, 1) := by decide +kernel
theorem dL_law_1192 : decode cL_law 1192 = .ok (.iaload, 1) := by decide +kernel
theorem dL_law_1193 : decode cL_law 1193 = .ok (.aload_n 3, 1) := by decide +kernel
theorem dL_law_1194 : decode cL_law 1194 = .ok (.invokestatic 202, 3) := by decide +kernel
theorem dL_law_1197 : decode cL_law 1197 = .ok (.istore 5, 2) := by decide +kernel
theorem dL_law_1199 : decode cL_law 1199 = .ok (.aload_n 2, 1) := by decide +kernel
theorem dL_law_1200 : decode cL_law 1200 = .ok (.aload_n 0, 1) := by decide +kernel
theorem dL_law_1201 : decode cL_law 1201 = .ok (.iload 4, 2) := by decide +kernel
theorem dL_law_1203 : decode cL_law 1203 = .ok (.iconst 1, 1) := by decide +kernel
theorem dL_law_1204 : decode cL_law 1204 = .ok (.iadd, 1) := by decide +kernel
theorem dL_law_1205 : decode cL_law 1205 = .ok (.iaload, 1) := by decide +kernel
theorem dL_law_1206 : decode cL_law 1206 = .ok (.aload_n 0, 1) := by decide +kernel
theorem dL_law_1207 : decode cL_law 1207 = .ok (.iload 4, 2) := by decide +kernel
theorem dL_law_1209 : decode cL_law 1209 = .ok (.iconst 2, 1) := by decide +kernel
theorem dL_law_1210 : decode cL_law 1210 = .ok (.iadd, 1) := by decide +kernel
theorem dL_law_1211 : decode cL_law 1211 = .ok (.iaload, 1) := by decide +kernel
theorem dL_law_1212 : decode cL_law 1212 = .ok (.aload_n 0, 1) := by decide +kernel
theorem dL_law_1213 : decode cL_law 1213 = .ok (.iload 4, 2) := by decide +kernel
theorem dL_law_1215 : decode cL_law 1215 = .ok (.iconst 3, 1) := by decide +kernel
theorem dL_law_1216 : decode cL_law 1216 = .ok (.iadd, 1) := by decide +kernel
theorem dL_law_1217 : decode cL_law 1217 = .ok (.iaload, 1) := by decide +kernel
theorem dL_law_1218 : decode cL_law 1218 = .ok (.invokevirtual 204, 3) := by decide +kernel
theorem dL_law_1221 : decode cL_law 1221 = .ok (.istore 6, 2) := by decide +kernel
theorem dL_law_1223 : decode cL_law 1223 = .ok (.goto 422, 3) := by decide +kernel
theorem dL_law_1226 : decode cL_law 1226 = .ok (.aload_n 1, 1) := by decide +kernel
theorem dL_law_1227 : decode cL_law 1227 = .ok (.aload_n 0, 1) := by decide +kernel
theorem dL_law_1228 : decode cL_law 1228 = .ok (.iload 4, 2) := by decide +kernel
theorem dL_law_1230 : decode cL_law 1230 = .ok (.iconst 1, 1) := by decide +kernel
theorem dL_law_1231 : decode cL_law 1231 = .ok (.iadd, 1) := by decide +kernel
theorem dL_law_1232 : decode cL_law 1232 = .ok (.iaload, 1) := by decide +kernel
theorem dL_law_1233 : decode cL_law 1233 = .ok (.aload_n 0, 1) := by decide +kernel
theorem dL_law_1234 : decode cL_law 1234 = .ok (.iload 4, 2) := by decide +kernel
theorem dL_law_1236 : decode cL_law 1236 = .ok (.iconst 2, 1) := by decide +kernel
theorem dL_law_1237 : decode cL_law 1237 = .ok (.iadd, 1) := by decide +kernel
theorem dL_law_1238 : decode cL_law 1238 = .ok (.iaload, 1) := by decide +kernel
theorem dL_law_1239 : decode cL_law 1239 = .ok (.aload_n 3, 1) := by decide +kernel
theorem dL_law_1240 : decode cL_law 1240 = .ok (.invokestatic 205, 3) := by decide +kernel
theorem dL_law_1243 : decode cL_law 1243 = .ok (.istore 5, 2) := by decide +kernel
theorem dL_law_1245 : decode cL_law 1245 = .ok (.aload_n 2, 1) := by decide +kernel
theorem dL_law_1246 : decode cL_law 1246 = .ok (.aload_n 0, 1) := by decide +kernel
theorem dL_law_1247 : decode cL_law 1247 = .ok (.iload 4, 2) := by decide +kernel
theorem dL_law_1249 : decode cL_law 1249 = .ok (.iconst 1, 1) := by decide +kernel
theorem dL_law_1250 : decode cL_law 1250 = .ok (.iadd, 1) := by decide +kernel
theorem dL_law_1251 : decode cL_law 1251 = .ok (.iaload, 1) := by decide +kernel
theorem dL_law_1252 : decode cL_law 1252 = .ok (.aload_n 0, 1) := by decide +kernel
theorem dL_law_1253 : decode cL_law 1253 = .ok (.iload 4, 2) := by decide +kernel
theorem dL_law_1255 : decode cL_law 1255 = .ok (.iconst 2, 1) := by decide +kernel
theorem dL_law_1256 : decode cL_law 1256 = .ok (.iadd, 1) := by decide +kernel
theorem dL_law_1257 : decode cL_law 1257 = .ok (.iaload, 1) := by decide +kernel
theorem dL_law_1258 : decode cL_law 1258 = .ok (.invokevirtual 207, 3) := by decide +kernel
theorem dL_law_1261 : decode cL_law 1261 = .ok (.istore 6, 2) := by decide +kernel
theorem dL_law_1263 : decode cL_law 1263 = .ok (.goto 382, 3) := by decide +kernel
theorem dL_law_1266 : decode cL_law 1266 = .ok (.aload_n 1, 1) := by decide +kernel
theorem dL_law_1267 : decode cL_law 1267 = .ok (.aload_n 0, 1) := by decide +kernel
theorem dL_law_1268 : decode cL_law 1268 = .ok (.iload 4, 2) := by decide +kernel
theorem dL_law_1270 : decode cL_law 1270 = .ok (.iconst 1, 1) := by decide +kernel
theorem dL_law_1271 : decode cL_law 1271 = .ok (.iadd, 1) := by decide +kernel
theorem dL_law_1272 : decode cL_law 1272 = .ok (.iaload, 1) := by decide +kernel
theorem dL_law_1273 : decode cL_law 1273 = .ok (.aload_n 3, 1) := by decide +kernel
theorem dL_law_1274 : decode cL_law 1274 = .ok (.invokestatic 208, 3) := by decide +kernel
theorem dL_law_1277 : decode cL_law 1277 = .ok (.istore 5, 2) := by decide +kernel
theorem dL_law_1279 : decode cL_law 1279 = .ok (.aload_n 2, 1) := by decide +kernel
theorem dL_law_1280 : decode cL_law 1280 = .ok (.aload_n 0, 1) := by decide +kernel
theorem dL_law_1281 : decode cL_law 1281 = .ok (.iload 4, 2) := by decide +kernel
theorem dL_law_1283 : decode cL_law 1283 = .ok (.iconst 1, 1) := by decide +kernel
theorem dL_law_1284 : decode cL_law 1284 = .ok (.iadd, 1) := by decide +kernel
theorem dL_law_1285 : decode cL_law 1285 = .ok (.iaload, 1) := by decide +kernel
theorem dL_law_1286 : decode cL_law 1286 = .ok (.invokevirtual 210, 3) := by decide +kernel
theorem dL_law_1289 : decode cL_law 1289 = .ok (.istore 6, 2) := by decide +kernel
theorem dL_law_1291 : decode cL_law 1291 = .ok (.goto 354, 3) := by decide +kernel
theorem dL_law_1294 : decode cL_law 1294 = .ok (.aload_n 1, 1) := by decide +kernel
theorem dL_law_1295 : decode cL_law 1295 = .ok (.aload_n 0, 1) := by decide +kernel
theorem dL_law_1296 : decode cL_law 1296 = .ok (.iload 4, 2) := by decide +kernel
theorem dL_law_1298 : decode cL_law 1298 = .ok (.iconst 1, 1) := by decide +kernel
theorem dL_law_1299 : decode cL_law 1299 = .ok (.iadd, 1) := by decide +kernel
theorem dL_law_1300 : decode cL_law 1300 = .ok (.iaload, 1) := by decide +kernel
theorem dL_law_1301 : decode cL_law 1301 = .ok (.aload_n 3, 1) := by decide +kernel
theorem dL_law_1302 : decode cL_law 1302 = .ok (.invokestatic 211, 3) := by decide +kernel
theorem dL_law_1305 : decode cL_law 1305 = .ok (.istore 5, 2) := by decide +kernel
theorem dL_law_1307 : decode cL_law 1307 = .ok (.aload_n 2, 1) := by decide +kernel
theorem dL_law_1308 : decode cL_law 1308 = .ok (.aload_n 0, 1) := by decide +kernel
theorem dL_law_1309 : decode cL_law 1309 = .ok (.iload 4, 2) := by decide +kernel
theorem dL_law_1311 : decode cL_law 1311 = .ok (.iconst 1, 1) := by decide +kernel
theorem dL_law_1312 : decode cL_law 1312 = .ok (.iadd, 1) := by decide +kernel
theorem dL_law_1313 : decode cL_law 1313 = .ok (.iaload, 1) := by decide +kernel
theorem dL_law_1314 : decode cL_law 1314 = .ok (.invokevirtual 213, 3) := by decide +kernel
theorem dL_law_1317 : decode cL_law 1317 = .ok (.istore 6, 2) := by decide +kernel
theorem dL_law_1319 : decode cL_law 1319 = .ok (.goto 326, 3) := by decide +kernel
theorem dL_law_1322 : decode cL_law 1322 = .ok (.aload_n 1, 1) := by decide +kernel
theorem dL_law_1323 : decode cL_law 1323 = .ok (.aload_n 0, 1) := by decide +kernel
theorem dL_law_1324 : decode cL_law 1324 = .ok (.iload 4, 2) := by decide +kernel
theorem dL_law_1326 : decode cL_law 1326 = .ok (.iconst 1, 1) := by decide +kernel
theorem dL_law_1327 : decode cL_law 1327 = .ok (.iadd, 1) := by decide +kernel
theorem dL_law_1328 : decode cL_law 1328 = .ok (.iaload, 1) := by decide +kernel
theorem dL_law_1329 : decode cL_law 1329 = .ok (.aload_n 0, 1) := by decide +kernel
theorem dL_law_1330 : decode cL_law 1330 = .ok (.iload 4, 2) := by decide +kernel
theorem dL_law_1332 : decode cL_law 1332 = .ok (.iconst 2, 1) := by decide +kernel
theorem dL_law_1333 : decode cL_law 1333 = .ok (.iadd, 1) := by decide +kernel
theorem dL_law_1334 : decode cL_law 1334 = .ok (.iaload, 1) := by decide +kernel
theorem dL_law_1335 : decode cL_law 1335 = .ok (.aload_n 3, 1) := by decide +kernel
theorem dL_law_1336 : decode cL_law 1336 = .ok (.invokestatic 214, 3) := by decide +kernel
theorem dL_law_1339 : decode cL_law 1339 = .ok (.istore 5, 2) := by decide +kernel
theorem dL_law_1341 : decode cL_law 1341 = .ok (.aload_n 2, 1) := by decide +kernel
theorem dL_law_1342 : decode cL_law 1342 = .ok (.aload_n 0, 1) := by decide +kernel
theorem dL_law_1343 : decode cL_law 1343 = .ok (.iload 4, 2) := by decide +kernel
theorem dL_law_1345 : decode cL_law 1345 = .ok (.iconst 1, 1) := by decide +kernel
theorem dL_law_1346 : decode cL_law 1346 = .ok (.iadd, 1) := by decide +kernel
theorem dL_law_1347 : decode cL_law 1347 = .ok (.iaload, 1) := by decide +kernel
theorem dL_law_1348 : decode cL_law 1348 = .ok (.aload_n 0, 1) := by decide +kernel
theorem dL_law_1349 : decode cL_law 1349 = .ok (.iload 4, 2) := by decide +kernel
theorem dL_law_1351 : decode cL_law 1351 = .ok (.iconst 2, 1) := by decide +kernel
theorem dL_law_1352 : decode cL_law 1352 = .ok (.iadd, 1) := by decide +kernel
theorem dL_law_1353 : decode cL_law 1353 = .ok (.iaload, 1) := by decide +kernel
theorem dL_law_1354 : decode cL_law 1354 = .ok (.invokevirtual 216, 3) := by decide +kernel
theorem dL_law_1357 : decode cL_law 1357 = .ok (.astore 6, 2) := by decide +kernel
theorem dL_law_1359 : decode cL_law 1359 = .ok (.goto 286, 3) := by decide +kernel
theorem dL_law_1362 : decode cL_law 1362 = .ok (.aload_n 1, 1) := by decide +kernel
theorem dL_law_1363 : decode cL_law 1363 = .ok (.aload_n 0, 1) := by decide +kernel
theorem dL_law_1364 : decode cL_law 1364 = .ok (.iload 4, 2) := by decide +kernel
theorem dL_law_1366 : decode cL_law 1366 = .ok (.iconst 1, 1) := by decide +kernel
theorem dL_law_1367 : decode cL_law 1367 = .ok (.iadd, 1) := by decide +kernel
theorem dL_law_1368 : decode cL_law 1368 = .ok (.iaload, 1) := by decide +kernel
theorem dL_law_1369 : decode cL_law 1369 = .ok (.aload_n 0, 1) := by decide +kernel
theorem dL_law_1370 : decode cL_law 1370 = .ok (.iload 4, 2) := by decide +kernel
theorem dL_law_1372 : decode cL_law 1372 = .ok (.iconst 2, 1) := by decide +kernel
theorem dL_law_1373 : decode cL_law 1373 = .ok (.iadd, 1) := by decide +kernel
theorem dL_law_1374 : decode cL_law 1374 = .ok (.iaload, 1) := by decide +kernel
theorem dL_law_1375 : decode cL_law 1375 = .ok (.aload_n 3, 1) := by decide +kernel
theorem dL_law_1376 : decode cL_law 1376 = .ok (.invokestatic 217, 3) := by decide +kernel
theorem dL_law_1379 : decode cL_law 1379 = .ok (.istore 5, 2) := by decide +kernel
theorem dL_law_1381 : decode cL_law 1381 = .ok (.aload_n 2, 1) := by decide +kernel
theorem dL_law_1382 : decode cL_law 1382 = .ok (.aload_n 0, 1) := by decide +kernel
theorem dL_law_1383 : decode cL_law 1383 = .ok (.iload 4, 2) := by decide +kernel
theorem dL_law_1385 : decode cL_law 1385 = .ok (.iconst 1, 1) := by decide +kernel
theorem dL_law_1386 : decode cL_law 1386 = .ok (.iadd, 1) := by decide +kernel
theorem dL_law_1387 : decode cL_law 1387 = .ok (.iaload, 1) := by decide +kernel
theorem dL_law_1388 : decode cL_law 1388 = .ok (.aload_n 0, 1) := by decide +kernel
theorem dL_law_1389 : decode cL_law 1389 = .ok (.iload 4, 2) := by decide +kernel
theorem dL_law_1391 : decode cL_law 1391 = .ok (.iconst 2, 1) := by decide +kernel
theorem dL_law_1392 : decode cL_law 1392 = .ok (.iadd, 1) := by decide +kernel
theorem dL_law_1393 : decode cL_law 1393 = .ok (.iaload, 1) := by decide +kernel
theorem dL_law_1394 : decode cL_law 1394 = .ok (.invokevirtual 219, 3) := by decide +kernel
theorem dL_law_1397 : decode cL_law 1397 = .ok (.astore 6, 2) := by decide +kernel
theorem dL_law_1399 : decode cL_law 1399 = .ok (.goto 246, 3) := by decide +kernel
theorem dL_law_1402 : decode cL_law 1402 = .ok (.aload_n 1, 1) := by decide +kernel
theorem dL_law_1403 : decode cL_law 1403 = .ok (.aload_n 0, 1) := by decide +kernel
theorem dL_law_1404 : decode cL_law 1404 = .ok (.iload 4, 2) := by decide +kernel
theorem dL_law_1406 : decode cL_law 1406 = .ok (.iconst 1, 1) := by decide +kernel
theorem dL_law_1407 : decode cL_law 1407 = .ok (.iadd, 1) := by decide +kernel
theorem dL_law_1408 : decode cL_law 1408 = .ok (.iaload, 1) := by decide +kernel
theorem dL_law_1409 : decode cL_law 1409 = .ok (.aload_n 3, 1) := by decide +kernel
theorem dL_law_1410 : decode cL_law 1410 = .ok (.invokestatic 220, 3) := by decide +kernel
theorem dL_law_1413 : decode cL_law 1413 = .ok (.istore 5, 2) := by decide +kernel
theorem dL_law_1415 : decode cL_law 1415 = .ok (.aload_n 2, 1) := by decide +kernel
theorem dL_law_1416 : decode cL_law 1416 = .ok (.aload_n 0, 1) := by decide +kernel
theorem dL_law_1417 : decode cL_law 1417 = .ok (.iload 4, 2) := by decide +kernel
theorem dL_law_1419 : decode cL_law 1419 = .ok (.iconst 1, 1) := by decide +kernel
theorem dL_law_1420 : decode cL_law 1420 = .ok (.iadd, 1) := by decide +kernel
theorem dL_law_1421 : decode cL_law 1421 = .ok (.iaload, 1) := by decide +kernel
theorem dL_law_1422 : decode cL_law 1422 = .ok (.invokevirtual 222, 3) := by decide +kernel
theorem dL_law_1425 : decode cL_law 1425 = .ok (.istore 6, 2) := by decide +kernel
theorem dL_law_1427 : decode cL_law 1427 = .ok (.goto 218, 3) := by decide +kernel
theorem dL_law_1430 : decode cL_law 1430 = .ok (.aload_n 1, 1) := by decide +kernel
theorem dL_law_1431 : decode cL_law 1431 = .ok (.aload_n 0, 1) := by decide +kernel
theorem dL_law_1432 : decode cL_law 1432 = .ok (.iload 4, 2) := by decide +kernel
theorem dL_law_1434 : decode cL_law 1434 = .ok (.iconst 1, 1) := by decide +kernel
theorem dL_law_1435 : decode cL_law 1435 = .ok (.iadd, 1) := by decide +kernel
theorem dL_law_1436 : decode cL_law 1436 = .ok (.iaload, 1) := by decide +kernel
theorem dL_law_1437 : decode cL_law 1437 = .ok (.aload_n 3, 1) := by decide +kernel
theorem dL_law_1438 : decode cL_law 1438 = .ok (.invokestatic 223, 3) := by decide +kernel
theorem dL_law_1441 : decode cL_law 1441 = .ok (.istore 5, 2) := by decide +kernel
theorem dL_law_1443 : decode cL_law 1443 = .ok (.aload_n 2, 1) := by decide +kernel
theorem dL_law_1444 : decode cL_law 1444 = .ok (.aload_n 0, 1) := by decide +kernel
theorem dL_law_1445 : decode cL_law 1445 = .ok (.iload 4, 2) := by decide +kernel
theorem dL_law_1447 : decode cL_law 1447 = .ok (.iconst 1, 1) := by decide +kernel
theorem dL_law_1448 : decode cL_law 1448 = .ok (.iadd, 1) := by decide +kernel
theorem dL_law_1449 : decode cL_law 1449 = .ok (.iaload, 1) := by decide +kernel
theorem dL_law_1450 : decode cL_law 1450 = .ok (.invokevirtual 225, 3) := by decide +kernel
theorem dL_law_1453 : decode cL_law 1453 = .ok (.istore 6, 2) := by decide +kernel
theorem dL_law_1455 : decode cL_law 1455 = .ok (.goto 190, 3) := by decide +kernel
theorem dL_law_1458 : decode cL_law 1458 = .ok (.aload_n 1, 1) := by decide +kernel
theorem dL_law_1459 : decode cL_law 1459 = .ok (.aload_n 0, 1) := by decide +kernel
theorem dL_law_1460 : decode cL_law 1460 = .ok (.iload 4, 2) := by decide +kernel
theorem dL_law_1462 : decode cL_law 1462 = .ok (.iconst 1, 1) := by decide +kernel
theorem dL_law_1463 : decode cL_law 1463 = .ok (.iadd, 1) := by decide +kernel
theorem dL_law_1464 : decode cL_law 1464 = .ok (.iaload, 1) := by decide +kernel
theorem dL_law_1465 : decode cL_law 1465 = .ok (.aload_n 0, 1) := by decide +kernel
theorem dL_law_1466 : decode cL_law 1466 = .ok (.iload 4, 2) := by decide +kernel
theorem dL_law_1468 : decode cL_law 1468 = .ok (.iconst 2, 1) := by decide +kernel
theorem dL_law_1469 : decode cL_law 1469 = .ok (.iadd, 1) := by decide +kernel
theorem dL_law_1470 : decode cL_law 1470 = .ok (.iaload, 1) := by decide +kernel
theorem dL_law_1471 : decode cL_law 1471 = .ok (.aload_n 3, 1) := by decide +kernel
theorem dL_law_1472 : decode cL_law 1472 = .ok (.invokestatic 226, 3) := by decide +kernel
theorem dL_law_1475 : decode cL_law 1475 = .ok (.istore 5, 2) := by decide +kernel
theorem dL_law_1477 : decode cL_law 1477 = .ok (.aload_n 2, 1) := by decide +kernel
theorem dL_law_1478 : decode cL_law 1478 = .ok (.aload_n 0, 1) := by decide +kernel
theorem dL_law_1479 : decode cL_law 1479 = .ok (.iload 4, 2) := by decide +kernel
theorem dL_law_1481 : decode cL_law 1481 = .ok (.iconst 1, 1) := by decide +kernel
theorem dL_law_1482 : decode cL_law 1482 = .ok (.iadd, 1) := by decide +kernel
theorem dL_law_1483 : decode cL_law 1483 = .ok (.iaload, 1) := by decide +kernel
theorem dL_law_1484 : decode cL_law 1484 = .ok (.aload_n 0, 1) := by decide +kernel
theorem dL_law_1485 : decode cL_law 1485 = .ok (.iload 4, 2) := by decide +kernel
theorem dL_law_1487 : decode cL_law 1487 = .ok (.iconst 2, 1) := by decide +kernel
theorem dL_law_1488 : decode cL_law 1488 = .ok (.iadd, 1) := by decide +kernel
theorem dL_law_1489 : decode cL_law 1489 = .ok (.iaload, 1) := by decide +kernel
theorem dL_law_1490 : decode cL_law 1490 = .ok (.invokevirtual 228, 3) := by decide +kernel
theorem dL_law_1493 : decode cL_law 1493 = .ok (.istore 6, 2) := by decide +kernel
theorem dL_law_1495 : decode cL_law 1495 = .ok (.goto 150, 3) := by decide +kernel
theorem dL_law_1498 : decode cL_law 1498 = .ok (.aload_n 1, 1) := by decide +kernel
theorem dL_law_1499 : decode cL_law 1499 = .ok (.aload_n 0, 1) := by decide +kernel
theorem dL_law_1500 : decode cL_law 1500 = .ok (.iload 4, 2) := by decide +kernel
theorem dL_law_1502 : decode cL_law 1502 = .ok (.iconst 1, 1) := by decide +kernel
theorem dL_law_1503 : decode cL_law 1503 = .ok (.iadd, 1) := by decide +kernel
theorem dL_law_1504 : decode cL_law 1504 = .ok (.iaload, 1) := by decide +kernel
theorem dL_law_1505 : decode cL_law 1505 = .ok (.aload_n 3, 1) := by decide +kernel
theorem dL_law_1506 : decode cL_law 1506 = .ok (.invokestatic 229, 3) := by decide +kernel
theorem dL_law_1509 : decode cL_law 1509 = .ok (.istore 5, 2) := by decide +kernel
theorem dL_law_1511 : decode cL_law 1511 = .ok (.aload_n 2, 1) := by decide +kernel
theorem dL_law_1512 : decode cL_law 1512 = .ok (.aload_n 0, 1) := by decide +kernel
theorem dL_law_1513 : decode cL_law 1513 = .ok (.iload 4, 2) := by decide +kernel
theorem dL_law_1515 : decode cL_law 1515 = .ok (.iconst 1, 1) := by decide +kernel
theorem dL_law_1516 : decode cL_law 1516 = .ok (.iadd, 1) := by decide +kernel
theorem dL_law_1517 : decode cL_law 1517 = .ok (.iaload, 1) := by decide +kernel
theorem dL_law_1518 : decode cL_law 1518 = .ok (.invokevirtual 231, 3) := by decide +kernel
theorem dL_law_1521 : decode cL_law 1521 = .ok (.istore 6, 2) := by decide +kernel
theorem dL_law_1523 : decode cL_law 1523 = .ok (.goto 122, 3) := by decide +kernel
theorem dL_law_1526 : decode cL_law 1526 = .ok (.aload_n 1, 1) := by decide +kernel
theorem dL_law_1527 : decode cL_law 1527 = .ok (.aload_n 0, 1) := by decide +kernel
theorem dL_law_1528 : decode cL_law 1528 = .ok (.iload 4, 2) := by decide +kernel
theorem dL_law_1530 : decode cL_law 1530 = .ok (.iconst 1, 1) := by decide +kernel
theorem dL_law_1531 : decode cL_law 1531 = .ok (.iadd, 1) := by decide +kernel
theorem dL_law_1532 : decode cL_law 1532 = .ok (.iaload, 1) := by decide +kernel
theorem dL_law_1533 : decode cL_law 1533 = .ok (.aload_n 0, 1) := by decide +kernel
theorem dL_law_1534 : decode cL_law 1534 = .ok (.iload 4, 2) := by decide +kernel
theorem dL_law_1536 : decode cL_law 1536 = .ok (.iconst 2, 1) := by decide +kernel
theorem dL_law_1537 : decode cL_law 1537 = .ok (.iadd, 1) := by decide +kernel
theorem dL_law_1538 : decode cL_law 1538 = .ok (.iaload, 1) := by decide +kernel
theorem dL_law_1539 : decode cL_law 1539 = .ok (.aload_n 0, 1) := by decide +kernel
theorem dL_law_1540 : decode cL_law 1540 = .ok (.iload 4, 2) := by decide +kernel
theorem dL_law_1542 : decode cL_law 1542 = .ok (.iconst 3, 1) := by decide +kernel
theorem dL_law_1543 : decode cL_law 1543 = .ok (.iadd, 1) := by decide +kernel
theorem dL_law_1544 : decode cL_law 1544 = .ok (.iaload, 1) := by decide +kernel
theorem dL_law_1545 : decode cL_law 1545 = .ok (.aload_n 3, 1) := by decide +kernel
theorem dL_law_1546 : decode cL_law 1546 = .ok (.invokestatic 232, 3) := by decide +kernel
theorem dL_law_1549 : decode cL_law 1549 = .ok (.istore 5, 2) := by decide +kernel
theorem dL_law_1551 : decode cL_law 1551 = .ok (.aload_n 2, 1) := by decide +kernel
theorem dL_law_1552 : decode cL_law 1552 = .ok (.aload_n 0, 1) := by decide +kernel
theorem dL_law_1553 : decode cL_law 1553 = .ok (.iload 4, 2) := by decide +kernel
theorem dL_law_1555 : decode cL_law 1555 = .ok (.iconst 1, 1) := by decide +kernel
theorem dL_law_1556 : decode cL_law 1556 = .ok (.iadd, 1) := by decide +kernel
theorem dL_law_1557 : decode cL_law 1557 = .ok (.iaload, 1) := by decide +kernel
theorem dL_law_1558 : decode cL_law 1558 = .ok (.aload_n 0, 1) := by decide +kernel
theorem dL_law_1559 : decode cL_law 1559 = .ok (.iload 4, 2) := by decide +kernel
theorem dL_law_1561 : decode cL_law 1561 = .ok (.iconst 2, 1) := by decide +kernel
theorem dL_law_1562 : decode cL_law 1562 = .ok (.iadd, 1) := by decide +kernel
theorem dL_law_1563 : decode cL_law 1563 = .ok (.iaload, 1) := by decide +kernel
theorem dL_law_1564 : decode cL_law 1564 = .ok (.aload_n 0, 1) := by decide +kernel
theorem dL_law_1565 : decode cL_law 1565 = .ok (.iload 4, 2) := by decide +kernel
theorem dL_law_1567 : decode cL_law 1567 = .ok (.iconst 3, 1) := by decide +kernel
theorem dL_law_1568 : decode cL_law 1568 = .ok (.iadd, 1) := by decide +kernel
theorem dL_law_1569 : decode cL_law 1569 = .ok (.iaload, 1) := by decide +kernel
theorem dL_law_1570 : decode cL_law 1570 = .ok (.invokevirtual 234, 3) := by decide +kernel
theorem dL_law_1573 : decode cL_law 1573 = .ok (.istore 6, 2) := by decide +kernel
theorem dL_law_1575 : decode cL_law 1575 = .ok (.goto 70, 3) := by decide +kernel
theorem dL_law_1578 : decode cL_law 1578 = .ok (.aload_n 1, 1) := by decide +kernel
theorem dL_law_1579 : decode cL_law 1579 = .ok (.invokevirtual 235, 3) := by decide +kernel
theorem dL_law_1582 : decode cL_law 1582 = .ok (.aload_n 2, 1) := by decide +kernel
theorem dL_law_1583 : decode cL_law 1583 = .ok (.invokevirtual 239, 3) := by decide +kernel
theorem dL_law_1586 : decode cL_law 1586 = .ok (.if_icmp .eq 59, 3) := by decide +kernel
theorem dL_law_1589 : decode cL_law 1589 = .ok (.iconst 0, 1) := by decide +kernel
theorem dL_law_1590 : decode cL_law 1590 = .ok (.ireturn, 1) := by decide +kernel
theorem dL_law_1591 : decode cL_law 1591 = .ok (.aload_n 1, 1) := by decide +kernel
theorem dL_law_1592 : decode cL_law 1592 = .ok (.aload_n 0, 1) := by decide +kernel
theorem dL_law_1593 : decode cL_law 1593 = .ok (.iload 4, 2) := by decide +kernel
theorem dL_law_1595 : decode cL_law 1595 = .ok (.iconst 1, 1) := by decide +kernel
theorem dL_law_1596 : decode cL_law 1596 = .ok (.iadd, 1) := by decide +kernel
theorem dL_law_1597 : decode cL_law 1597 = .ok (.iaload, 1) := by decide +kernel
theorem dL_law_1598 : decode cL_law 1598 = .ok (.aload_n 3, 1) := by decide +kernel
theorem dL_law_1599 : decode cL_law 1599 = .ok (.invokestatic 240, 3) := by decide +kernel
theorem dL_law_1602 : decode cL_law 1602 = .ok (.istore 5, 2) := by decide +kernel
theorem dL_law_1604 : decode cL_law 1604 = .ok (.aload_n 2, 1) := by decide +kernel
theorem dL_law_1605 : decode cL_law 1605 = .ok (.aload_n 0, 1) := by decide +kernel
theorem dL_law_1606 : decode cL_law 1606 = .ok (.iload 4, 2) := by decide +kernel
theorem dL_law_1608 : decode cL_law 1608 = .ok (.iconst 1, 1) := by decide +kernel
theorem dL_law_1609 : decode cL_law 1609 = .ok (.iadd, 1) := by decide +kernel
theorem dL_law_1610 : decode cL_law 1610 = .ok (.iaload, 1) := by decide +kernel
theorem dL_law_1611 : decode cL_law 1611 = .ok (.invokevirtual 242, 3) := by decide +kernel
theorem dL_law_1614 : decode cL_law 1614 = .ok (.istore 6, 2) := by decide +kernel
theorem dL_law_1616 : decode cL_law 1616 = .ok (.goto 29, 3) := by decide +kernel
theorem dL_law_1619 : decode cL_law 1619 = .ok (.aload_n 1, 1) := by decide +kernel
theorem dL_law_1620 : decode cL_law 1620 = .ok (.invokevirtual 243, 3) := by decide +kernel
theorem dL_law_1623 : decode cL_law 1623 = .ok (.pop, 1) := by decide +kernel
theorem dL_law_1624 : decode cL_law 1624 = .ok (.aload_n 2, 1) := by decide +kernel
theorem dL_law_1625 : decode cL_law 1625 = .ok (.invokevirtual 247, 3) := by decide +kernel
theorem dL_law_1628 : decode cL_law 1628 = .ok (.pop, 1) := by decide +kernel
theorem dL_law_1629 : decode cL_law 1629 = .ok (.goto 16, 3) := by decide +kernel
theorem dL_law_1632 : decode cL_law 1632 = .ok (.aload_n 1, 1) := by decide +kernel
theorem dL_law_1633 : decode cL_law 1633 = .ok (.invokevirtual 248, 3) := by decide +kernel
theorem dL_law_1636 : decode cL_law 1636 = .ok (.pop2, 1) := by decide +kernel
theorem dL_law_1637 : decode cL_law 1637 = .ok (.aload_n 2, 1) := by decide +kernel
theorem dL_law_1638 : decode cL_law 1638 = .ok (.invokevirtual 252, 3) := by decide +kernel
theorem dL_law_1641 : decode cL_law 1641 = .ok (.pop2, 1) := by decide +kernel
theorem dL_law_1642 : decode cL_law 1642 = .ok (.goto 3, 3) := by decide +kernel
theorem dL_law_1645 : decode cL_law 1645 = .ok (.iinc 4 5, 3) := by decide +kernel
theorem dL_law_1648 : decode cL_law 1648 = .ok (.goto (-1621), 3) := by decide +kernel
theorem dL_law_1651 : decode cL_law 1651 = .ok (.iconst 1, 1) := by decide +kernel
theorem dL_law_1652 : decode cL_law 1652 = .ok (.ireturn, 1) := by decide +kernel
end
section
/-! OUR OWN JUDGEMENT over the kit's W: locals, stack and world as plain lists -/
abbrev jE : Type := va_G × ClassId × ClassId × ClassId
def jTys (E : jE) : List (ClassId × FieldType) := [(E.2.1, .int), (E.2.2.1, .byte), (E.2.2.2, .array .int)]
/-- the tables' words that any method may ask for -/
def jTg : List Cond := lw_tbl.filter goodWord
theorem jTg_mem {w : Cond} (i : Nat) (h : lw_tbl[i]? = some w) (g : goodWord w = true) : w ∈ jTg := List.mem_filter.mpr ⟨List.mem_of_getElem? h, g⟩
theorem jTg_good : ∀ w ∈ jTg, (w.onTables && w.keeps) = true ∨ ∃ ty, w = .arrayClass ty := fun w h => good_of_word (List.mem_filter.mp h).2
theorem jTg_pay {s : State} {args : Array Value} (hts : ∀ w ∈ jTg, w.before args s = true) : ∀ w ∈ jTg, ∀ (a' : Array Value) (U : State), s.WarmedH U.vm → w.before a' U = true := fun w hw _ _ hW => word_at hW (jTg_good w hw) (hts w hw)
/-- the signs' codes -/
def jCodL : List Int32 := [32, 45, 48, 49, 65, 66, 97, 98, 122, 255]
def jCod (k : Nat) : Int32 := jCodL.getD k 0
/-- the literals: the class, the entry, the text -/
def jStr : List (String × Nat × String) := [("Checkdesk", 165, "!"), ("Checkdesk", 178, "no such seat"), ("Checkdesk", 183, "no such seat with a paper"), ("Checkdesk", 187, "no such sign"), ("Checkdesk", 190, "the number is not one of those that are told"), ("Checkdesk", 194, "what is on the seat is missing"), ("Checkdesk", 197, "the text would have too many signs"), ("Checkdesk", 98, "none"), ("CheckdeskModel", 113, "none"), ("CheckdeskModel", 119, "!")]
def jIO : String := "java/lang/IndexOutOfBoundsException"
def jIA : String := "java/lang/IllegalArgumentException"
def jIS : String := "java/lang/IllegalStateException"
def jCast : List (String × String) := [(jIO, jIO), (jIA, jIA), (jIS, jIS)]
def jNcast : List (String × String) := [(jIO, jIA), (jIO, jIS), (jIA, jIO), (jIA, jIS), (jIS, jIO), (jIS, jIA)]
def jNestF : List (String × Nat × String × String × String × String) := [("Checkdesk$Texts", 36, "Checkdesk", "SIGN_CODES", "[I", "Checkdesk"), ("CheckdeskLaw", 13, "CheckdeskLaw$Out", "n", "J", "CheckdeskLaw"), ("CheckdeskLaw", 53, "CheckdeskLaw$Out", "s", "Ljava/lang/String;", "CheckdeskLaw")]
def jNestM : List (String × Nat × MethodName × String) := [("Checkdesk", 9, ⟨"Checkdesk$Texts", "<init>", "()V"⟩, "Checkdesk"), ("CheckdeskLaw", 122, ⟨"CheckdeskLaw$Out", "<init>", "()V"⟩, "CheckdeskLaw")]
def jAr (E : jE) (U : State) : Prop := ∃ (kA kI : Class), U.vm.classes[E.2.2.2]? = some kA ∧ kA.kind = .array E.2.1 (.array .int) ∧ U.vm.classes[E.2.1]? = some kI
theorem jAr.moved {E : jE} {u U : State} (hvm : u.vm.Alike U.vm) (h : jAr E u) : jAr E U := by
  obtain ⟨kA, kI, h1, h2, h3⟩ := h
  obtain ⟨k', hk', he⟩ := hvm.2.2 _ _ h1
  obtain ⟨k2, hk2, -⟩ := hvm.2.2 _ _ h3
  exact ⟨k', k2, hk', by rw [he]; exact h2, hk2⟩
/-- what holds of the start, and stays: the tables, the statics, the literals -/
def jG (E : jE) (A : Nat → Prop) (U : State) : Prop :=
  (va_K E.1 vwCl (jTys E) U ∧ jAr E U) ∧
  vx_Zq Bundle.tN "UNASSIGNED_STACK" Bundle.steD A U U.heap ∧ vx_Zq Bundle.tN "SUPPRESSED_SENTINEL" Bundle.listD A U U.heap ∧
  (∃ t : Nat, va_Z "Checkdesk" "SIGN_CODES" "[I" (.ref t) A U U.heap ∧ va_T .int t 10 (fun j => .int (jCod j)) A U U.heap) ∧
  (∃ t : Nat, va_Z "CheckdeskModel" "CODES" "[I" (.ref t) A U U.heap ∧ va_T .int t 10 (fun j => .int (jCod j)) A U U.heap) ∧
  (∀ q ∈ jStr, ∃ a : Nat, vk_R q.1 q.2.1 q.2.2 a U) ∧
  (∀ q ∈ jCast, va_Nw (.castable q.1 q.2) U) ∧ (∀ q ∈ jNcast, va_Nc q.1 q.2 U) ∧
  (∀ q ∈ jNestF, va_Nw (.fieldLinkNest q.1 q.2.1 q.2.2.1 q.2.2.2.1 q.2.2.2.2.1 q.2.2.2.2.2) U) ∧ (∀ q ∈ jNestM, va_Nw (.methodLinkNest q.1 q.2.1 q.2.2.1 q.2.2.2) U) ∧
  va_Z "java/lang/String" "COMPACT_STRINGS" "Z" (.int 1) A U U.heap ∧
  (∃ a v : Nat, vk_R "CheckdeskModel" 33 "" a U ∧ va_O "java/lang/String" a A U U.heap ∧ va_OF "java/lang/String" "coder" "B" (.int 0) a A U U.heap ∧ va_OF "java/lang/String" "value" "[B" (.ref v) a A U U.heap ∧ va_T .byte v 0 (fun _ => .int 0) A U U.heap)
theorem jG.go {E : jE} {A : Nat → Prop} {s U : State} (hW : s.WarmedH U.vm) (hq : ∀ a : Nat, a < s.heap.size → ¬ A a → U.heap[a]? = s.heap[a]?) (h : jG E A s) : jG E A U := by
  obtain ⟨⟨h1, h0⟩, h2, h3, ⟨t4, h4, h4'⟩, ⟨t5, h5, h5'⟩, h6, h7, h8, h9, h10, h11, ⟨a12, v12, k1, k2, k3, k4, k5⟩⟩ := h
  refine ⟨⟨va_K.moved hW.alike h1, jAr.moved hW.alike h0⟩, vx_Zq.moved hW.alike (h2.kept hq), vx_Zq.moved hW.alike (h3.kept hq), ⟨t4, va_Z.moved hW.alike (h4.kept hq), va_T.moved hW.alike (h4'.kept hq)⟩, ⟨t5, va_Z.moved hW.alike (h5.kept hq), va_T.moved hW.alike (h5'.kept hq)⟩, fun q hm => ?_, fun q hm => va_Nw.warmC hW (h7 q hm), fun q hm => va_Nc.moved hW.alike (h8 q hm), fun q hm => va_Nw.warmF hW (h9 q hm), fun q hm => va_Nw.warmM hW (h10 q hm), va_Z.moved hW.alike (h11.kept hq), ⟨a12, v12, vk_R.warm hW k1, va_O.moved hW.alike (k2.kept hq), va_OF.moved hW.alike (k3.kept hq), va_OF.moved hW.alike (k4.kept hq), va_T.moved hW.alike (k5.kept hq)⟩⟩
  obtain ⟨a, ha⟩ := h6 q hm
  exact ⟨a, vk_R.warm hW ha⟩
def jRm (d mc ms : Nat) : Room := { frames := d + 6, cells := mc, slots := ms, locals := 40 * d + 100 }
def jPre (E : jE) (A : Nat → Prop) (av : List Value) (ws : va_W) : Array Value → State → Prop := fun v U => v = av.toArray ∧ va_P E.1 vwCl ws U.heap ∧ va_D A ws ∧ jG E A U ∧ ∀ q, U.heap.size ≤ q → A q
def jQ (E : jE) (A : Nat → Prop) (post : Option Value → va_W → Prop) : Array Value → State → Outcome → State → Prop := fun _ st o t => (∃ (v : Option Value) (w : va_W), o = .returned v ∧ post v w ∧ va_P E.1 vwCl w t.heap ∧ va_D A w) ∧ va_F A st t
def jX (E : jE) (A : Nat → Prop) (px : String → va_W → Prop) : String → State → State → Prop := fun En st t => (∃ w : va_W, px En w ∧ va_P E.1 vwCl w t.heap ∧ va_D A w) ∧ va_F A st t
/-- a method's contract: at depth d, with the arguments av in the world ws -/
def jMet (l : Launch) (y : MethodName) (b : ByteArray) (nL : Nat) (ret : Option FieldType) (d mc ms : Nat) (E : jE) (A : Nat → Prop) (av : List Value) (ws : va_W) (post : Option Value → va_W → Prop) (px : String → va_W → Prop) : Prop :=
  vx_Met l y (.code y b nL ret :: jTg) (jRm d mc ms) (jPre E A av ws) (jQ E A post) (jX E A px) mc ms A
/-- it returns just this -/
def jR (v : Option Value) (w : va_W) : Option Value → va_W → Prop := fun v' w' => v' = v ∧ w' = w
/-- it throws nothing -/
def jNo : String → va_W → Prop := fun _ _ => False
/-- it doesn't return -/
def jNv : Option Value → va_W → Prop := fun _ _ => False
/-- it throws just this -/
def jT (En : String) (w : va_W) : String → va_W → Prop := fun E' w' => E' = En ∧ w' = w
/-- what a method's body knows of where it runs -/
def jC (p : Program) (l : Launch) (e : Env) (R : Room) (s : State) (m : MethodId) (args : Array Value) (below : List Frame) (meth : Method) (c : Code) (y : MethodName) (cc : ByteArray) (nL : Nat) (ret : Option FieldType) (d mc ms : Nat) (E : jE) (A : Nat → Prop) : Prop :=
  p.tables.exec = Jvm.exec ∧ c.code = cc ∧ c.maxLocals = nL ∧ s.vm.findClass y.cls = some m.cls ∧ (∀ w ∈ jTg, w.before args s = true) ∧ meth.sig.returnType = ret ∧ meth.locks = false ∧ (∀ x ∈ c.exceptionTable.toList, False) ∧ jG E A s ∧ (∀ q, s.heap.size ≤ q → A q) ∧ R = jRm d mc ms ∧ meth.name = y.name
def jJ (p : Program) (l : Launch) (e : Env) (R : Room) (s : State) (m : MethodId) (args : Array Value) (below : List Frame) (meth : Method) (c : Code) (E : jE) (A : Nat → Prop) (nL : Nat) (Q : State → Prop) (cells slots pc : Nat) (lv : List (Nat × Value)) (st : List Value) (ws : va_W) : Prop :=
  ∀ (H : Heap) (locs : List Loc) (ls : Array Slot), va_P E.1 vwCl ws H → va_D A ws → va_S A s.heap H locs → lv_has ls nL lv → W p l e R s m args below meth c H locs cells slots Q (F0 m pc ls st)
/-- an exception of the class En on its way -/
def jXJ (p : Program) (l : Launch) (e : Env) (R : Room) (s : State) (m : MethodId) (args : Array Value) (below : List Frame) (meth : Method) (c : Code) (E : jE) (A : Nat → Prop) (nL : Nat) (Q : State → Prop) (cells slots pc : Nat) (lv : List (Nat × Value)) (st : List Value) (En : String) (ws : va_W) : Prop :=
  ∀ (H : Heap) (locs : List Loc) (ls : Array Slot) (ce : Cell) (q : Addr), va_P E.1 vwCl ws H → va_D A ws → va_S A s.heap H locs → lv_has ls nL lv → H[q]? = some ce → ce.vm = .none → s.vm.findClass En = some ce.cls → vx_W p l e R s m args below meth c H locs cells slots Q (F0 m pc ls st) q
theorem jMet.intro {l : Launch} {y : MethodName} {b : ByteArray} {nL : Nat} {ret : Option FieldType} {d mc ms : Nat} {E : jE} {A : Nat → Prop} {av : List Value} {ws : va_W} {post : Option Value → va_W → Prop} {px : String → va_W → Prop} (lv : List (Nat × Value)) (hy : plainName y.cls = true) (hn : (lg_sl av).length ≤ nL) (hlv : lv_args 0 av = lv)
    (body : ∀ p e s m args below meth c, jC p l e (jRm d mc ms) s m args below meth c y b nL ret d mc ms E A → jJ p l e (jRm d mc ms) s m args below meth c E A nL (vx_MQ below (jQ E A post) (jX E A px) args s mc ms A) 0 0 0 lv [] ws) : jMet l y b nL ret d mc ms E A av ws post px := by
  refine vx_ofW (cc := b) (maxL := nL) (ret := ret) hy rfl ?_
  intro p e s m args below meth c s₁ B hml htab hv
  obtain ⟨rfl, hP, hD, hG, hA⟩ := hv
  have hts := atoms_spec (ws := .code y b nL ret :: jTg) B.pre
  have C : jC p l e (jRm d mc ms) s m av.toArray below meth c y b nL ret d mc ms E A := ⟨B.exec, B.bytes, hml, findClass_of_methodNamed B.named, fun w hw => hts w (List.mem_cons_of_mem _ hw), B.returns, B.notSynchronized, htab, hG, hA, rfl, (name_of_methodNamed B.named B.method).1⟩
  rw [lg_entry_eq]
  subst hlv
  exact body p e s m _ below meth c C s.heap [] _ hP hD va_S.rf (lv_entry av hn)
theorem jPre.blind {E : jE} {A : Nat → Prop} {av : List Value} {ws : va_W} : FrameBlind (jPre E A av ws) := by
  intro a U g mk h
  obtain ⟨h1, h2, h3, h4, h5⟩ := h
  exact ⟨h1, h2, h3, jG.go (U := U.calling g mk a) (State.WarmedH.refl U) (fun _ _ _ => rfl) h4, h5⟩
theorem lvg_mem {lv : List (Nat × Value)} {k : Nat} {v : Value} (h : lv.lookup k = some v) : (k, v) ∈ lv := by
  induction lv with
  | nil => cases h
  | cons q l ih =>
    obtain ⟨i, u⟩ := q
    simp only [List.lookup] at h
    split at h
    · rename_i hk
      have : k = i := by simpa using hk
      subst this
      cases h
      exact List.mem_cons_self
    · exact List.mem_cons_of_mem _ (ih h)
theorem lvg {ls : Array Slot} {nL : Nat} {lv : List (Nat × Value)} (h : lv_has ls nL lv) {k : Nat} {v : Value} (hk : lv.lookup k = some v) : ls[k]? = some (.val v) := h.2.2 (k, v) (lvg_mem hk)
theorem lvg_at {lv : List (Nat × Value)} {k : Nat} {v : Value} (h : lv.lookup k = some v) : ∃ i : Nat, lv[i]? = some (k, v) := List.getElem?_of_mem (lvg_mem h)
def jst (k : Nat) (v : Value) (lv : List (Nat × Value)) : List (Nat × Value) := (k, v) :: lv.filter (fun q => !(q.1 == k) && !(q.1 + 1 == k && q.2.category == 2))
def jst2 (k : Nat) (v : Value) (lv : List (Nat × Value)) : List (Nat × Value) := (k, v) :: lv.filter (fun q => !(q.1 == k) && (!(q.1 == k + 1) && !(q.1 + 1 == k && q.2.category == 2)))
section JR
variable {p : Program} {l : Launch} {e : Env} {R : Room} {s : State} {m : MethodId} {args : Array Value} {below : List Frame} {meth : Method} {c : Code} {y : MethodName} {cc : ByteArray} {nL : Nat} {ret : Option FieldType} {d mc ms : Nat} {E : jE} {A : Nat → Prop} {Q : State → Prop} {cells slots pc : Nat} {lv : List (Nat × Value)} {rest st : List Value} {ws : va_W}

theorem j_iconst (C : jC p l e R s m args below meth c y cc nL ret d mc ms E A) {n : Int} {v : Int32} (hd : decode cc pc = .ok (.iconst n, 1)) (hv : Int32.ofInt n = v) (kk : jJ p l e R s m args below meth c E A nL Q cells slots (pc + 1) lv (.int v :: rest) ws) : jJ p l e R s m args below meth c E A nL Q cells slots pc lv (rest) ws := fun _ _ _ hP hD hS hl => lv_iconst C.1 C.2.1 hd hv (kk _ _ _ hP hD hS hl)
theorem j_bipush (C : jC p l e R s m args below meth c y cc nL ret d mc ms E A) {n : Int} {v : Int32} (hd : decode cc pc = .ok (.bipush n, 2)) (hv : (Int8.ofInt n).toInt32 = v) (kk : jJ p l e R s m args below meth c E A nL Q cells slots (pc + 2) lv (.int v :: rest) ws) : jJ p l e R s m args below meth c E A nL Q cells slots pc lv (rest) ws := fun _ _ _ hP hD hS hl => lv_bipush C.1 C.2.1 hd hv (kk _ _ _ hP hD hS hl)
theorem j_sipush (C : jC p l e R s m args below meth c y cc nL ret d mc ms E A) {n : Int} {v : Int32} (hd : decode cc pc = .ok (.sipush n, 3)) (hv : (Int16.ofInt n).toInt32 = v) (kk : jJ p l e R s m args below meth c E A nL Q cells slots (pc + 3) lv (.int v :: rest) ws) : jJ p l e R s m args below meth c E A nL Q cells slots pc lv (rest) ws := fun _ _ _ hP hD hS hl => lv_sipush C.1 C.2.1 hd hv (kk _ _ _ hP hD hS hl)
theorem j_lconst (C : jC p l e R s m args below meth c y cc nL ret d mc ms E A) {n : Fin 2} {v : Int64} (hd : decode cc pc = .ok (.lconst n, 1)) (hv : Int64.ofNat (n : Nat) = v) (kk : jJ p l e R s m args below meth c E A nL Q cells slots (pc + 1) lv (.long v :: rest) ws) : jJ p l e R s m args below meth c E A nL Q cells slots pc lv (rest) ws := fun _ _ _ hP hD hS hl => lv_lconst C.1 C.2.1 hd hv (kk _ _ _ hP hD hS hl)
theorem j_null (C : jC p l e R s m args below meth c y cc nL ret d mc ms E A) (hd : decode cc pc = .ok (.aconst_null, 1)) (kk : jJ p l e R s m args below meth c E A nL Q cells slots (pc + 1) lv (.null :: rest) ws) : jJ p l e R s m args below meth c E A nL Q cells slots pc lv (rest) ws := fun _ _ _ hP hD hS hl => lv_null C.1 C.2.1 hd (kk _ _ _ hP hD hS hl)
theorem j_iload_n (C : jC p l e R s m args below meth c y cc nL ret d mc ms E A) {k : Fin 4} {x : Int32} (hd : decode cc pc = .ok (.iload_n k, 1)) (hv : lv.lookup (k : Nat) = some (.int x)) (kk : jJ p l e R s m args below meth c E A nL Q cells slots (pc + 1) lv (.int x :: rest) ws) : jJ p l e R s m args below meth c E A nL Q cells slots pc lv (rest) ws := fun _ _ _ hP hD hS hl => lv_iload_n C.1 C.2.1 hd rfl (lvg hl hv) (kk _ _ _ hP hD hS hl)
theorem j_iload (C : jC p l e R s m args below meth c y cc nL ret d mc ms E A) {k : Nat} {x : Int32} (hd : decode cc pc = .ok (.iload k, 2)) (hv : lv.lookup k = some (.int x)) (kk : jJ p l e R s m args below meth c E A nL Q cells slots (pc + 2) lv (.int x :: rest) ws) : jJ p l e R s m args below meth c E A nL Q cells slots pc lv (rest) ws := fun _ _ _ hP hD hS hl => lv_iload C.1 C.2.1 hd (lvg hl hv) (kk _ _ _ hP hD hS hl)
theorem j_lload_n (C : jC p l e R s m args below meth c y cc nL ret d mc ms E A) {k : Fin 4} {x : Int64} (hd : decode cc pc = .ok (.lload_n k, 1)) (hv : lv.lookup (k : Nat) = some (.long x)) (kk : jJ p l e R s m args below meth c E A nL Q cells slots (pc + 1) lv (.long x :: rest) ws) : jJ p l e R s m args below meth c E A nL Q cells slots pc lv (rest) ws := fun _ _ _ hP hD hS hl => lv_lload_n C.1 C.2.1 hd rfl (lvg hl hv) (kk _ _ _ hP hD hS hl)
theorem j_lload (C : jC p l e R s m args below meth c y cc nL ret d mc ms E A) {k : Nat} {x : Int64} (hd : decode cc pc = .ok (.lload k, 2)) (hv : lv.lookup k = some (.long x)) (kk : jJ p l e R s m args below meth c E A nL Q cells slots (pc + 2) lv (.long x :: rest) ws) : jJ p l e R s m args below meth c E A nL Q cells slots pc lv (rest) ws := fun _ _ _ hP hD hS hl => lv_lload C.1 C.2.1 hd (lvg hl hv) (kk _ _ _ hP hD hS hl)
theorem j_aload_n (C : jC p l e R s m args below meth c y cc nL ret d mc ms E A) {k : Fin 4} {x : Nat} (hd : decode cc pc = .ok (.aload_n k, 1)) (hv : lv.lookup (k : Nat) = some (.ref x)) (kk : jJ p l e R s m args below meth c E A nL Q cells slots (pc + 1) lv (.ref x :: rest) ws) : jJ p l e R s m args below meth c E A nL Q cells slots pc lv (rest) ws := fun _ _ _ hP hD hS hl => lv_aload_n C.1 C.2.1 hd rfl (lvg hl hv) (kk _ _ _ hP hD hS hl)
theorem j_aload (C : jC p l e R s m args below meth c y cc nL ret d mc ms E A) {k : Nat} {x : Nat} (hd : decode cc pc = .ok (.aload k, 2)) (hv : lv.lookup k = some (.ref x)) (kk : jJ p l e R s m args below meth c E A nL Q cells slots (pc + 2) lv (.ref x :: rest) ws) : jJ p l e R s m args below meth c E A nL Q cells slots pc lv (rest) ws := fun _ _ _ hP hD hS hl => lv_aload C.1 C.2.1 hd (lvg hl hv) (kk _ _ _ hP hD hS hl)
theorem j_aload_nN (C : jC p l e R s m args below meth c y cc nL ret d mc ms E A) {k : Fin 4} (hd : decode cc pc = .ok (.aload_n k, 1)) (hv : lv.lookup (k : Nat) = some .null) (kk : jJ p l e R s m args below meth c E A nL Q cells slots (pc + 1) lv (.null :: rest) ws) : jJ p l e R s m args below meth c E A nL Q cells slots pc lv (rest) ws := fun _ _ _ hP hD hS hl => lv_aload_nN C.1 C.2.1 hd rfl (lvg hl hv) (kk _ _ _ hP hD hS hl)
theorem j_aloadN (C : jC p l e R s m args below meth c y cc nL ret d mc ms E A) {k : Nat} (hd : decode cc pc = .ok (.aload k, 2)) (hv : lv.lookup k = some .null) (kk : jJ p l e R s m args below meth c E A nL Q cells slots (pc + 2) lv (.null :: rest) ws) : jJ p l e R s m args below meth c E A nL Q cells slots pc lv (rest) ws := fun _ _ _ hP hD hS hl => lv_aloadN C.1 C.2.1 hd (lvg hl hv) (kk _ _ _ hP hD hS hl)
theorem j_istore_n (C : jC p l e R s m args below meth c y cc nL ret d mc ms E A) {k : Fin 4} {x : Int32} {lv' : List (Nat × Value)} (hd : decode cc pc = .ok (.istore_n k, 1)) (hn : (k : Nat) < nL) (hv : jst (k : Nat) (.int x) lv = lv') (kk : jJ p l e R s m args below meth c E A nL Q cells slots (pc + 1) lv' (rest) ws) : jJ p l e R s m args below meth c E A nL Q cells slots pc lv (.int x :: rest) ws := fun _ _ _ hP hD hS hl => lv_istore_n C.1 C.2.1 hd rfl hl hn hv (fun _ hl => kk _ _ _ hP hD hS hl)
theorem j_istore (C : jC p l e R s m args below meth c y cc nL ret d mc ms E A) {k : Nat} {x : Int32} {lv' : List (Nat × Value)} (hd : decode cc pc = .ok (.istore k, 2)) (hn : k < nL) (hv : jst k (.int x) lv = lv') (kk : jJ p l e R s m args below meth c E A nL Q cells slots (pc + 2) lv' (rest) ws) : jJ p l e R s m args below meth c E A nL Q cells slots pc lv (.int x :: rest) ws := fun _ _ _ hP hD hS hl => lv_istore C.1 C.2.1 hd  hl hn hv (fun _ hl => kk _ _ _ hP hD hS hl)
theorem j_lstore_n (C : jC p l e R s m args below meth c y cc nL ret d mc ms E A) {k : Fin 4} {x : Int64} {lv' : List (Nat × Value)} (hd : decode cc pc = .ok (.lstore_n k, 1)) (hn : (k : Nat) + 1 < nL) (hv : jst2 (k : Nat) (.long x) lv = lv') (kk : jJ p l e R s m args below meth c E A nL Q cells slots (pc + 1) lv' (rest) ws) : jJ p l e R s m args below meth c E A nL Q cells slots pc lv (.long x :: rest) ws := fun _ _ _ hP hD hS hl => lv_lstore_n C.1 C.2.1 hd rfl hl hn hv (fun _ hl => kk _ _ _ hP hD hS hl)
theorem j_lstore (C : jC p l e R s m args below meth c y cc nL ret d mc ms E A) {k : Nat} {x : Int64} {lv' : List (Nat × Value)} (hd : decode cc pc = .ok (.lstore k, 2)) (hn : k + 1 < nL) (hv : jst2 k (.long x) lv = lv') (kk : jJ p l e R s m args below meth c E A nL Q cells slots (pc + 2) lv' (rest) ws) : jJ p l e R s m args below meth c E A nL Q cells slots pc lv (.long x :: rest) ws := fun _ _ _ hP hD hS hl => lv_lstore C.1 C.2.1 hd  hl hn hv (fun _ hl => kk _ _ _ hP hD hS hl)
theorem j_astore_n (C : jC p l e R s m args below meth c y cc nL ret d mc ms E A) {k : Fin 4} {x : Nat} {lv' : List (Nat × Value)} (hd : decode cc pc = .ok (.astore_n k, 1)) (hn : (k : Nat) < nL) (hv : jst (k : Nat) (.ref x) lv = lv') (kk : jJ p l e R s m args below meth c E A nL Q cells slots (pc + 1) lv' (rest) ws) : jJ p l e R s m args below meth c E A nL Q cells slots pc lv (.ref x :: rest) ws := fun _ _ _ hP hD hS hl => lv_astore_n C.1 C.2.1 hd rfl hl hn hv (fun _ hl => kk _ _ _ hP hD hS hl)
theorem j_astore (C : jC p l e R s m args below meth c y cc nL ret d mc ms E A) {k : Nat} {x : Nat} {lv' : List (Nat × Value)} (hd : decode cc pc = .ok (.astore k, 2)) (hn : k < nL) (hv : jst k (.ref x) lv = lv') (kk : jJ p l e R s m args below meth c E A nL Q cells slots (pc + 2) lv' (rest) ws) : jJ p l e R s m args below meth c E A nL Q cells slots pc lv (.ref x :: rest) ws := fun _ _ _ hP hD hS hl => lv_astore C.1 C.2.1 hd  hl hn hv (fun _ hl => kk _ _ _ hP hD hS hl)
theorem j_astore_nN (C : jC p l e R s m args below meth c y cc nL ret d mc ms E A) {k : Fin 4} {lv' : List (Nat × Value)} (hd : decode cc pc = .ok (.astore_n k, 1)) (hn : (k : Nat) < nL) (hv : jst (k : Nat) .null lv = lv') (kk : jJ p l e R s m args below meth c E A nL Q cells slots (pc + 1) lv' (rest) ws) : jJ p l e R s m args below meth c E A nL Q cells slots pc lv (.null :: rest) ws := fun _ _ _ hP hD hS hl => lv_astore_nN C.1 C.2.1 hd rfl hl hn hv (fun _ hl => kk _ _ _ hP hD hS hl)
theorem j_astoreN (C : jC p l e R s m args below meth c y cc nL ret d mc ms E A) {k : Nat} {lv' : List (Nat × Value)} (hd : decode cc pc = .ok (.astore k, 2)) (hn : k < nL) (hv : jst k .null lv = lv') (kk : jJ p l e R s m args below meth c E A nL Q cells slots (pc + 2) lv' (rest) ws) : jJ p l e R s m args below meth c E A nL Q cells slots pc lv (.null :: rest) ws := fun _ _ _ hP hD hS hl => lv_astoreN C.1 C.2.1 hd  hl hn hv (fun _ hl => kk _ _ _ hP hD hS hl)
theorem j_iinc (C : jC p l e R s m args below meth c y cc nL ret d mc ms E A) {k : Nat} {n : Int} {x v : Int32} {lv' : List (Nat × Value)} (hd : decode cc pc = .ok (.iinc k n, 3)) (hx : lv.lookup k = some (.int x)) (hv : x + Int32.ofInt n = v) (hn : k < nL) (hs : jst k (.int v) lv = lv') (kk : jJ p l e R s m args below meth c E A nL Q cells slots (pc + 3) lv' (rest) ws) : jJ p l e R s m args below meth c E A nL Q cells slots pc lv (rest) ws := fun _ _ _ hP hD hS hl => (lvg_at hx).elim fun _ hi => lv_iinc C.1 C.2.1 hd hl hi hv hn hs (fun _ hl => kk _ _ _ hP hD hS hl)
theorem j_iadd (C : jC p l e R s m args below meth c y cc nL ret d mc ms E A) {x y z : Int32} (hd : decode cc pc = .ok (.iadd, 1)) (hz : x + y = z) (kk : jJ p l e R s m args below meth c E A nL Q cells slots (pc + 1) lv (.int z :: rest) ws) : jJ p l e R s m args below meth c E A nL Q cells slots pc lv (.int y :: .int x :: rest) ws := fun _ _ _ hP hD hS hl => lv_iadd C.1 C.2.1 hd (by rw [hz]; exact kk _ _ _ hP hD hS hl)
theorem j_isub (C : jC p l e R s m args below meth c y cc nL ret d mc ms E A) {x y z : Int32} (hd : decode cc pc = .ok (.isub, 1)) (hz : x - y = z) (kk : jJ p l e R s m args below meth c E A nL Q cells slots (pc + 1) lv (.int z :: rest) ws) : jJ p l e R s m args below meth c E A nL Q cells slots pc lv (.int y :: .int x :: rest) ws := fun _ _ _ hP hD hS hl => lv_isub C.1 C.2.1 hd (by rw [hz]; exact kk _ _ _ hP hD hS hl)
theorem j_imul (C : jC p l e R s m args below meth c y cc nL ret d mc ms E A) {x y z : Int32} (hd : decode cc pc = .ok (.imul, 1)) (hz : x * y = z) (kk : jJ p l e R s m args below meth c E A nL Q cells slots (pc + 1) lv (.int z :: rest) ws) : jJ p l e R s m args below meth c E A nL Q cells slots pc lv (.int y :: .int x :: rest) ws := fun _ _ _ hP hD hS hl => lv_imul C.1 C.2.1 hd (by rw [hz]; exact kk _ _ _ hP hD hS hl)
theorem j_iand (C : jC p l e R s m args below meth c y cc nL ret d mc ms E A) {x y z : Int32} (hd : decode cc pc = .ok (.iand, 1)) (hz : x &&& y = z) (kk : jJ p l e R s m args below meth c E A nL Q cells slots (pc + 1) lv (.int z :: rest) ws) : jJ p l e R s m args below meth c E A nL Q cells slots pc lv (.int y :: .int x :: rest) ws := fun _ _ _ hP hD hS hl => lv_iand C.1 C.2.1 hd (by rw [hz]; exact kk _ _ _ hP hD hS hl)
theorem j_ior (C : jC p l e R s m args below meth c y cc nL ret d mc ms E A) {x y z : Int32} (hd : decode cc pc = .ok (.ior, 1)) (hz : x ||| y = z) (kk : jJ p l e R s m args below meth c E A nL Q cells slots (pc + 1) lv (.int z :: rest) ws) : jJ p l e R s m args below meth c E A nL Q cells slots pc lv (.int y :: .int x :: rest) ws := fun _ _ _ hP hD hS hl => lv_ior C.1 C.2.1 hd (by rw [hz]; exact kk _ _ _ hP hD hS hl)
theorem j_ladd (C : jC p l e R s m args below meth c y cc nL ret d mc ms E A) {x y z : Int64} (hd : decode cc pc = .ok (.ladd, 1)) (hz : x + y = z) (kk : jJ p l e R s m args below meth c E A nL Q cells slots (pc + 1) lv (.long z :: rest) ws) : jJ p l e R s m args below meth c E A nL Q cells slots pc lv (.long y :: .long x :: rest) ws := fun _ _ _ hP hD hS hl => lv_ladd C.1 C.2.1 hd (by rw [hz]; exact kk _ _ _ hP hD hS hl)
theorem j_lsub (C : jC p l e R s m args below meth c y cc nL ret d mc ms E A) {x y z : Int64} (hd : decode cc pc = .ok (.lsub, 1)) (hz : x - y = z) (kk : jJ p l e R s m args below meth c E A nL Q cells slots (pc + 1) lv (.long z :: rest) ws) : jJ p l e R s m args below meth c E A nL Q cells slots pc lv (.long y :: .long x :: rest) ws := fun _ _ _ hP hD hS hl => lv_lsub C.1 C.2.1 hd (by rw [hz]; exact kk _ _ _ hP hD hS hl)
theorem j_lmul (C : jC p l e R s m args below meth c y cc nL ret d mc ms E A) {x y z : Int64} (hd : decode cc pc = .ok (.lmul, 1)) (hz : x * y = z) (kk : jJ p l e R s m args below meth c E A nL Q cells slots (pc + 1) lv (.long z :: rest) ws) : jJ p l e R s m args below meth c E A nL Q cells slots pc lv (.long y :: .long x :: rest) ws := fun _ _ _ hP hD hS hl => lv_lmul C.1 C.2.1 hd (by rw [hz]; exact kk _ _ _ hP hD hS hl)
theorem j_ineg (C : jC p l e R s m args below meth c y cc nL ret d mc ms E A) {x z : Int32} (hd : decode cc pc = .ok (.ineg, 1)) (hz : -x = z) (kk : jJ p l e R s m args below meth c E A nL Q cells slots (pc + 1) lv (.int z :: rest) ws) : jJ p l e R s m args below meth c E A nL Q cells slots pc lv (.int x :: rest) ws := fun _ _ _ hP hD hS hl => lv_ineg C.1 C.2.1 hd (by rw [hz]; exact kk _ _ _ hP hD hS hl)
theorem j_i2l (C : jC p l e R s m args below meth c y cc nL ret d mc ms E A) {x : Int32} {v : Int64} (hd : decode cc pc = .ok (.i2l, 1)) (hv : x.toInt64 = v) (kk : jJ p l e R s m args below meth c E A nL Q cells slots (pc + 1) lv (.long v :: rest) ws) : jJ p l e R s m args below meth c E A nL Q cells slots pc lv (.int x :: rest) ws := fun _ _ _ hP hD hS hl => lv_i2l C.1 C.2.1 hd hv (kk _ _ _ hP hD hS hl)
theorem j_i2c (C : jC p l e R s m args below meth c y cc nL ret d mc ms E A) {x : Int32} {v : Int32} (hd : decode cc pc = .ok (.i2c, 1)) (hv : (x.toUInt32 % 65536).toInt32 = v) (kk : jJ p l e R s m args below meth c E A nL Q cells slots (pc + 1) lv (.int v :: rest) ws) : jJ p l e R s m args below meth c E A nL Q cells slots pc lv (.int x :: rest) ws := fun _ _ _ hP hD hS hl => lv_i2c C.1 C.2.1 hd hv (kk _ _ _ hP hD hS hl)
theorem j_lcmp (C : jC p l e R s m args below meth c y cc nL ret d mc ms E A) {x y : Int64} {z : Int32} (hd : decode cc pc = .ok (.lcmp, 1)) (hz : lg_cmp x y = z) (kk : jJ p l e R s m args below meth c E A nL Q cells slots (pc + 1) lv (.int z :: rest) ws) : jJ p l e R s m args below meth c E A nL Q cells slots pc lv (.long y :: .long x :: rest) ws := fun _ _ _ hP hD hS hl => W.lcmp C.1 C.2.1 hd (by rw [hz]; exact kk _ _ _ hP hD hS hl)
theorem j_dup (C : jC p l e R s m args below meth c y cc nL ret d mc ms E A) {v : Value} (hd : decode cc pc = .ok (.dup, 1)) (hv : v.category = 1) (kk : jJ p l e R s m args below meth c E A nL Q cells slots (pc + 1) lv (v :: v :: rest) ws) : jJ p l e R s m args below meth c E A nL Q cells slots pc lv (v :: rest) ws := fun _ _ _ hP hD hS hl => lv_dup C.1 C.2.1 hd hv (kk _ _ _ hP hD hS hl)
theorem j_dup2 (C : jC p l e R s m args below meth c y cc nL ret d mc ms E A) {v u : Value} (hd : decode cc pc = .ok (.dup2, 1)) (hv : v.category = 1) (hu : u.category = 1) (kk : jJ p l e R s m args below meth c E A nL Q cells slots (pc + 1) lv (v :: u :: v :: u :: rest) ws) : jJ p l e R s m args below meth c E A nL Q cells slots pc lv (v :: u :: rest) ws := fun _ _ _ hP hD hS hl => lv_dup2_11 C.1 C.2.1 hd hv hu (kk _ _ _ hP hD hS hl)
theorem j_pop (C : jC p l e R s m args below meth c y cc nL ret d mc ms E A) {v : Value} (hd : decode cc pc = .ok (.pop, 1)) (hv : v.category = 1) (kk : jJ p l e R s m args below meth c E A nL Q cells slots (pc + 1) lv (rest) ws) : jJ p l e R s m args below meth c E A nL Q cells slots pc lv (v :: rest) ws := fun _ _ _ hP hD hS hl => lv_pop C.1 C.2.1 hd hv (kk _ _ _ hP hD hS hl)
theorem j_pop2 (C : jC p l e R s m args below meth c y cc nL ret d mc ms E A) {v : Value} (hd : decode cc pc = .ok (.pop2, 1)) (hv : v.category = 2) (kk : jJ p l e R s m args below meth c E A nL Q cells slots (pc + 1) lv (rest) ws) : jJ p l e R s m args below meth c E A nL Q cells slots pc lv (v :: rest) ws := fun _ _ _ hP hD hS hl => lv_pop2_2 C.1 C.2.1 hd hv (kk _ _ _ hP hD hS hl)
theorem j_if_eq (C : jC p l e R s m args below meth c y cc nL ret d mc ms E A) {x : Int32} {off : Int} {tgt : Nat} (hd : decode cc pc = .ok (.ifCond .eq off, 3)) (ht : (pc : Int) + off = (tgt : Int)) (kt : x = 0 → jJ p l e R s m args below meth c E A nL Q cells slots (tgt) lv (rest) ws) (kf : ¬ x = 0 → jJ p l e R s m args below meth c E A nL Q cells slots (pc + 3) lv (rest) ws) : jJ p l e R s m args below meth c E A nL Q cells slots pc lv (.int x :: rest) ws := fun _ _ _ hP hD hS hl => lv_if_eq C.1 C.2.1 hd ht (fun h => kt h _ _ _ hP hD hS hl) (fun h => kf h _ _ _ hP hD hS hl)
theorem j_icmp_eq (C : jC p l e R s m args below meth c y cc nL ret d mc ms E A) {x y : Int32} {off : Int} {tgt : Nat} (hd : decode cc pc = .ok (.if_icmp .eq off, 3)) (ht : (pc : Int) + off = (tgt : Int)) (kt : x = y → jJ p l e R s m args below meth c E A nL Q cells slots (tgt) lv (rest) ws) (kf : ¬ x = y → jJ p l e R s m args below meth c E A nL Q cells slots (pc + 3) lv (rest) ws) : jJ p l e R s m args below meth c E A nL Q cells slots pc lv (.int y :: .int x :: rest) ws := fun _ _ _ hP hD hS hl => lv_icmp_eq C.1 C.2.1 hd ht (fun h => kt h _ _ _ hP hD hS hl) (fun h => kf h _ _ _ hP hD hS hl)
theorem j_if_eq_t (C : jC p l e R s m args below meth c y cc nL ret d mc ms E A) {x : Int32} {off : Int} {tgt : Nat} (hd : decode cc pc = .ok (.ifCond .eq off, 3)) (ht : (pc : Int) + off = (tgt : Int)) (h : x = 0) (kk : jJ p l e R s m args below meth c E A nL Q cells slots (tgt) lv (rest) ws) : jJ p l e R s m args below meth c E A nL Q cells slots pc lv (.int x :: rest) ws := j_if_eq C hd ht (fun q => kk) (fun q => absurd h q)
theorem j_icmp_eq_t (C : jC p l e R s m args below meth c y cc nL ret d mc ms E A) {x y : Int32} {off : Int} {tgt : Nat} (hd : decode cc pc = .ok (.if_icmp .eq off, 3)) (ht : (pc : Int) + off = (tgt : Int)) (h : x = y) (kk : jJ p l e R s m args below meth c E A nL Q cells slots (tgt) lv (rest) ws) : jJ p l e R s m args below meth c E A nL Q cells slots pc lv (.int y :: .int x :: rest) ws := j_icmp_eq C hd ht (fun q => kk) (fun q => absurd h q)
theorem j_if_eq_f (C : jC p l e R s m args below meth c y cc nL ret d mc ms E A) {x : Int32} {off : Int} {tgt : Nat} (hd : decode cc pc = .ok (.ifCond .eq off, 3)) (ht : (pc : Int) + off = (tgt : Int)) (h : ¬ x = 0) (kk : jJ p l e R s m args below meth c E A nL Q cells slots (pc + 3) lv (rest) ws) : jJ p l e R s m args below meth c E A nL Q cells slots pc lv (.int x :: rest) ws := j_if_eq C hd ht (fun q => absurd q h) (fun q => kk)
theorem j_icmp_eq_f (C : jC p l e R s m args below meth c y cc nL ret d mc ms E A) {x y : Int32} {off : Int} {tgt : Nat} (hd : decode cc pc = .ok (.if_icmp .eq off, 3)) (ht : (pc : Int) + off = (tgt : Int)) (h : ¬ x = y) (kk : jJ p l e R s m args below meth c E A nL Q cells slots (pc + 3) lv (rest) ws) : jJ p l e R s m args below meth c E A nL Q cells slots pc lv (.int y :: .int x :: rest) ws := j_icmp_eq C hd ht (fun q => absurd q h) (fun q => kk)
theorem j_if_ne (C : jC p l e R s m args below meth c y cc nL ret d mc ms E A) {x : Int32} {off : Int} {tgt : Nat} (hd : decode cc pc = .ok (.ifCond .ne off, 3)) (ht : (pc : Int) + off = (tgt : Int)) (kt : ¬ x = 0 → jJ p l e R s m args below meth c E A nL Q cells slots (tgt) lv (rest) ws) (kf : x = 0 → jJ p l e R s m args below meth c E A nL Q cells slots (pc + 3) lv (rest) ws) : jJ p l e R s m args below meth c E A nL Q cells slots pc lv (.int x :: rest) ws := fun _ _ _ hP hD hS hl => lv_if_ne C.1 C.2.1 hd ht (fun h => kt h _ _ _ hP hD hS hl) (fun h => kf h _ _ _ hP hD hS hl)
theorem j_icmp_ne (C : jC p l e R s m args below meth c y cc nL ret d mc ms E A) {x y : Int32} {off : Int} {tgt : Nat} (hd : decode cc pc = .ok (.if_icmp .ne off, 3)) (ht : (pc : Int) + off = (tgt : Int)) (kt : ¬ x = y → jJ p l e R s m args below meth c E A nL Q cells slots (tgt) lv (rest) ws) (kf : x = y → jJ p l e R s m args below meth c E A nL Q cells slots (pc + 3) lv (rest) ws) : jJ p l e R s m args below meth c E A nL Q cells slots pc lv (.int y :: .int x :: rest) ws := fun _ _ _ hP hD hS hl => lv_icmp_ne C.1 C.2.1 hd ht (fun h => kt h _ _ _ hP hD hS hl) (fun h => kf h _ _ _ hP hD hS hl)
theorem j_if_ne_t (C : jC p l e R s m args below meth c y cc nL ret d mc ms E A) {x : Int32} {off : Int} {tgt : Nat} (hd : decode cc pc = .ok (.ifCond .ne off, 3)) (ht : (pc : Int) + off = (tgt : Int)) (h : ¬ x = 0) (kk : jJ p l e R s m args below meth c E A nL Q cells slots (tgt) lv (rest) ws) : jJ p l e R s m args below meth c E A nL Q cells slots pc lv (.int x :: rest) ws := j_if_ne C hd ht (fun q => kk) (fun q => absurd q h)
theorem j_icmp_ne_t (C : jC p l e R s m args below meth c y cc nL ret d mc ms E A) {x y : Int32} {off : Int} {tgt : Nat} (hd : decode cc pc = .ok (.if_icmp .ne off, 3)) (ht : (pc : Int) + off = (tgt : Int)) (h : ¬ x = y) (kk : jJ p l e R s m args below meth c E A nL Q cells slots (tgt) lv (rest) ws) : jJ p l e R s m args below meth c E A nL Q cells slots pc lv (.int y :: .int x :: rest) ws := j_icmp_ne C hd ht (fun q => kk) (fun q => absurd q h)
theorem j_if_ne_f (C : jC p l e R s m args below meth c y cc nL ret d mc ms E A) {x : Int32} {off : Int} {tgt : Nat} (hd : decode cc pc = .ok (.ifCond .ne off, 3)) (ht : (pc : Int) + off = (tgt : Int)) (h : x = 0) (kk : jJ p l e R s m args below meth c E A nL Q cells slots (pc + 3) lv (rest) ws) : jJ p l e R s m args below meth c E A nL Q cells slots pc lv (.int x :: rest) ws := j_if_ne C hd ht (fun q => absurd h q) (fun q => kk)
theorem j_icmp_ne_f (C : jC p l e R s m args below meth c y cc nL ret d mc ms E A) {x y : Int32} {off : Int} {tgt : Nat} (hd : decode cc pc = .ok (.if_icmp .ne off, 3)) (ht : (pc : Int) + off = (tgt : Int)) (h : x = y) (kk : jJ p l e R s m args below meth c E A nL Q cells slots (pc + 3) lv (rest) ws) : jJ p l e R s m args below meth c E A nL Q cells slots pc lv (.int y :: .int x :: rest) ws := j_icmp_ne C hd ht (fun q => absurd h q) (fun q => kk)
theorem j_if_lt (C : jC p l e R s m args below meth c y cc nL ret d mc ms E A) {x : Int32} {off : Int} {tgt : Nat} (hd : decode cc pc = .ok (.ifCond .lt off, 3)) (ht : (pc : Int) + off = (tgt : Int)) (kt : x < 0 → jJ p l e R s m args below meth c E A nL Q cells slots (tgt) lv (rest) ws) (kf : ¬ x < 0 → jJ p l e R s m args below meth c E A nL Q cells slots (pc + 3) lv (rest) ws) : jJ p l e R s m args below meth c E A nL Q cells slots pc lv (.int x :: rest) ws := fun _ _ _ hP hD hS hl => lv_if_lt C.1 C.2.1 hd ht (fun h => kt h _ _ _ hP hD hS hl) (fun h => kf h _ _ _ hP hD hS hl)
theorem j_icmp_lt (C : jC p l e R s m args below meth c y cc nL ret d mc ms E A) {x y : Int32} {off : Int} {tgt : Nat} (hd : decode cc pc = .ok (.if_icmp .lt off, 3)) (ht : (pc : Int) + off = (tgt : Int)) (kt : x < y → jJ p l e R s m args below meth c E A nL Q cells slots (tgt) lv (rest) ws) (kf : ¬ x < y → jJ p l e R s m args below meth c E A nL Q cells slots (pc + 3) lv (rest) ws) : jJ p l e R s m args below meth c E A nL Q cells slots pc lv (.int y :: .int x :: rest) ws := fun _ _ _ hP hD hS hl => lv_icmp_lt C.1 C.2.1 hd ht (fun h => kt h _ _ _ hP hD hS hl) (fun h => kf h _ _ _ hP hD hS hl)
theorem j_if_lt_t (C : jC p l e R s m args below meth c y cc nL ret d mc ms E A) {x : Int32} {off : Int} {tgt : Nat} (hd : decode cc pc = .ok (.ifCond .lt off, 3)) (ht : (pc : Int) + off = (tgt : Int)) (h : x < 0) (kk : jJ p l e R s m args below meth c E A nL Q cells slots (tgt) lv (rest) ws) : jJ p l e R s m args below meth c E A nL Q cells slots pc lv (.int x :: rest) ws := j_if_lt C hd ht (fun q => kk) (fun q => absurd h q)
theorem j_icmp_lt_t (C : jC p l e R s m args below meth c y cc nL ret d mc ms E A) {x y : Int32} {off : Int} {tgt : Nat} (hd : decode cc pc = .ok (.if_icmp .lt off, 3)) (ht : (pc : Int) + off = (tgt : Int)) (h : x < y) (kk : jJ p l e R s m args below meth c E A nL Q cells slots (tgt) lv (rest) ws) : jJ p l e R s m args below meth c E A nL Q cells slots pc lv (.int y :: .int x :: rest) ws := j_icmp_lt C hd ht (fun q => kk) (fun q => absurd h q)
theorem j_if_lt_f (C : jC p l e R s m args below meth c y cc nL ret d mc ms E A) {x : Int32} {off : Int} {tgt : Nat} (hd : decode cc pc = .ok (.ifCond .lt off, 3)) (ht : (pc : Int) + off = (tgt : Int)) (h : ¬ x < 0) (kk : jJ p l e R s m args below meth c E A nL Q cells slots (pc + 3) lv (rest) ws) : jJ p l e R s m args below meth c E A nL Q cells slots pc lv (.int x :: rest) ws := j_if_lt C hd ht (fun q => absurd q h) (fun q => kk)
theorem j_icmp_lt_f (C : jC p l e R s m args below meth c y cc nL ret d mc ms E A) {x y : Int32} {off : Int} {tgt : Nat} (hd : decode cc pc = .ok (.if_icmp .lt off, 3)) (ht : (pc : Int) + off = (tgt : Int)) (h : ¬ x < y) (kk : jJ p l e R s m args below meth c E A nL Q cells slots (pc + 3) lv (rest) ws) : jJ p l e R s m args below meth c E A nL Q cells slots pc lv (.int y :: .int x :: rest) ws := j_icmp_lt C hd ht (fun q => absurd q h) (fun q => kk)
theorem j_if_ge (C : jC p l e R s m args below meth c y cc nL ret d mc ms E A) {x : Int32} {off : Int} {tgt : Nat} (hd : decode cc pc = .ok (.ifCond .ge off, 3)) (ht : (pc : Int) + off = (tgt : Int)) (kt : 0 ≤ x → jJ p l e R s m args below meth c E A nL Q cells slots (tgt) lv (rest) ws) (kf : ¬ 0 ≤ x → jJ p l e R s m args below meth c E A nL Q cells slots (pc + 3) lv (rest) ws) : jJ p l e R s m args below meth c E A nL Q cells slots pc lv (.int x :: rest) ws := fun _ _ _ hP hD hS hl => lv_if_ge C.1 C.2.1 hd ht (fun h => kt h _ _ _ hP hD hS hl) (fun h => kf h _ _ _ hP hD hS hl)
theorem j_icmp_ge (C : jC p l e R s m args below meth c y cc nL ret d mc ms E A) {x y : Int32} {off : Int} {tgt : Nat} (hd : decode cc pc = .ok (.if_icmp .ge off, 3)) (ht : (pc : Int) + off = (tgt : Int)) (kt : y ≤ x → jJ p l e R s m args below meth c E A nL Q cells slots (tgt) lv (rest) ws) (kf : ¬ y ≤ x → jJ p l e R s m args below meth c E A nL Q cells slots (pc + 3) lv (rest) ws) : jJ p l e R s m args below meth c E A nL Q cells slots pc lv (.int y :: .int x :: rest) ws := fun _ _ _ hP hD hS hl => lv_icmp_ge C.1 C.2.1 hd ht (fun h => kt h _ _ _ hP hD hS hl) (fun h => kf h _ _ _ hP hD hS hl)
theorem j_if_ge_t (C : jC p l e R s m args below meth c y cc nL ret d mc ms E A) {x : Int32} {off : Int} {tgt : Nat} (hd : decode cc pc = .ok (.ifCond .ge off, 3)) (ht : (pc : Int) + off = (tgt : Int)) (h : 0 ≤ x) (kk : jJ p l e R s m args below meth c E A nL Q cells slots (tgt) lv (rest) ws) : jJ p l e R s m args below meth c E A nL Q cells slots pc lv (.int x :: rest) ws := j_if_ge C hd ht (fun q => kk) (fun q => absurd h q)
theorem j_icmp_ge_t (C : jC p l e R s m args below meth c y cc nL ret d mc ms E A) {x y : Int32} {off : Int} {tgt : Nat} (hd : decode cc pc = .ok (.if_icmp .ge off, 3)) (ht : (pc : Int) + off = (tgt : Int)) (h : y ≤ x) (kk : jJ p l e R s m args below meth c E A nL Q cells slots (tgt) lv (rest) ws) : jJ p l e R s m args below meth c E A nL Q cells slots pc lv (.int y :: .int x :: rest) ws := j_icmp_ge C hd ht (fun q => kk) (fun q => absurd h q)
theorem j_if_ge_f (C : jC p l e R s m args below meth c y cc nL ret d mc ms E A) {x : Int32} {off : Int} {tgt : Nat} (hd : decode cc pc = .ok (.ifCond .ge off, 3)) (ht : (pc : Int) + off = (tgt : Int)) (h : ¬ 0 ≤ x) (kk : jJ p l e R s m args below meth c E A nL Q cells slots (pc + 3) lv (rest) ws) : jJ p l e R s m args below meth c E A nL Q cells slots pc lv (.int x :: rest) ws := j_if_ge C hd ht (fun q => absurd q h) (fun q => kk)
theorem j_icmp_ge_f (C : jC p l e R s m args below meth c y cc nL ret d mc ms E A) {x y : Int32} {off : Int} {tgt : Nat} (hd : decode cc pc = .ok (.if_icmp .ge off, 3)) (ht : (pc : Int) + off = (tgt : Int)) (h : ¬ y ≤ x) (kk : jJ p l e R s m args below meth c E A nL Q cells slots (pc + 3) lv (rest) ws) : jJ p l e R s m args below meth c E A nL Q cells slots pc lv (.int y :: .int x :: rest) ws := j_icmp_ge C hd ht (fun q => absurd q h) (fun q => kk)
theorem j_if_gt (C : jC p l e R s m args below meth c y cc nL ret d mc ms E A) {x : Int32} {off : Int} {tgt : Nat} (hd : decode cc pc = .ok (.ifCond .gt off, 3)) (ht : (pc : Int) + off = (tgt : Int)) (kt : 0 < x → jJ p l e R s m args below meth c E A nL Q cells slots (tgt) lv (rest) ws) (kf : ¬ 0 < x → jJ p l e R s m args below meth c E A nL Q cells slots (pc + 3) lv (rest) ws) : jJ p l e R s m args below meth c E A nL Q cells slots pc lv (.int x :: rest) ws := fun _ _ _ hP hD hS hl => lv_if_gt C.1 C.2.1 hd ht (fun h => kt h _ _ _ hP hD hS hl) (fun h => kf h _ _ _ hP hD hS hl)
theorem j_icmp_gt (C : jC p l e R s m args below meth c y cc nL ret d mc ms E A) {x y : Int32} {off : Int} {tgt : Nat} (hd : decode cc pc = .ok (.if_icmp .gt off, 3)) (ht : (pc : Int) + off = (tgt : Int)) (kt : y < x → jJ p l e R s m args below meth c E A nL Q cells slots (tgt) lv (rest) ws) (kf : ¬ y < x → jJ p l e R s m args below meth c E A nL Q cells slots (pc + 3) lv (rest) ws) : jJ p l e R s m args below meth c E A nL Q cells slots pc lv (.int y :: .int x :: rest) ws := fun _ _ _ hP hD hS hl => lv_icmp_gt C.1 C.2.1 hd ht (fun h => kt h _ _ _ hP hD hS hl) (fun h => kf h _ _ _ hP hD hS hl)
theorem j_if_gt_t (C : jC p l e R s m args below meth c y cc nL ret d mc ms E A) {x : Int32} {off : Int} {tgt : Nat} (hd : decode cc pc = .ok (.ifCond .gt off, 3)) (ht : (pc : Int) + off = (tgt : Int)) (h : 0 < x) (kk : jJ p l e R s m args below meth c E A nL Q cells slots (tgt) lv (rest) ws) : jJ p l e R s m args below meth c E A nL Q cells slots pc lv (.int x :: rest) ws := j_if_gt C hd ht (fun q => kk) (fun q => absurd h q)
theorem j_icmp_gt_t (C : jC p l e R s m args below meth c y cc nL ret d mc ms E A) {x y : Int32} {off : Int} {tgt : Nat} (hd : decode cc pc = .ok (.if_icmp .gt off, 3)) (ht : (pc : Int) + off = (tgt : Int)) (h : y < x) (kk : jJ p l e R s m args below meth c E A nL Q cells slots (tgt) lv (rest) ws) : jJ p l e R s m args below meth c E A nL Q cells slots pc lv (.int y :: .int x :: rest) ws := j_icmp_gt C hd ht (fun q => kk) (fun q => absurd h q)
theorem j_if_gt_f (C : jC p l e R s m args below meth c y cc nL ret d mc ms E A) {x : Int32} {off : Int} {tgt : Nat} (hd : decode cc pc = .ok (.ifCond .gt off, 3)) (ht : (pc : Int) + off = (tgt : Int)) (h : ¬ 0 < x) (kk : jJ p l e R s m args below meth c E A nL Q cells slots (pc + 3) lv (rest) ws) : jJ p l e R s m args below meth c E A nL Q cells slots pc lv (.int x :: rest) ws := j_if_gt C hd ht (fun q => absurd q h) (fun q => kk)
theorem j_icmp_gt_f (C : jC p l e R s m args below meth c y cc nL ret d mc ms E A) {x y : Int32} {off : Int} {tgt : Nat} (hd : decode cc pc = .ok (.if_icmp .gt off, 3)) (ht : (pc : Int) + off = (tgt : Int)) (h : ¬ y < x) (kk : jJ p l e R s m args below meth c E A nL Q cells slots (pc + 3) lv (rest) ws) : jJ p l e R s m args below meth c E A nL Q cells slots pc lv (.int y :: .int x :: rest) ws := j_icmp_gt C hd ht (fun q => absurd q h) (fun q => kk)
theorem j_if_le (C : jC p l e R s m args below meth c y cc nL ret d mc ms E A) {x : Int32} {off : Int} {tgt : Nat} (hd : decode cc pc = .ok (.ifCond .le off, 3)) (ht : (pc : Int) + off = (tgt : Int)) (kt : x ≤ 0 → jJ p l e R s m args below meth c E A nL Q cells slots (tgt) lv (rest) ws) (kf : ¬ x ≤ 0 → jJ p l e R s m args below meth c E A nL Q cells slots (pc + 3) lv (rest) ws) : jJ p l e R s m args below meth c E A nL Q cells slots pc lv (.int x :: rest) ws := fun _ _ _ hP hD hS hl => lv_if_le C.1 C.2.1 hd ht (fun h => kt h _ _ _ hP hD hS hl) (fun h => kf h _ _ _ hP hD hS hl)
theorem j_icmp_le (C : jC p l e R s m args below meth c y cc nL ret d mc ms E A) {x y : Int32} {off : Int} {tgt : Nat} (hd : decode cc pc = .ok (.if_icmp .le off, 3)) (ht : (pc : Int) + off = (tgt : Int)) (kt : x ≤ y → jJ p l e R s m args below meth c E A nL Q cells slots (tgt) lv (rest) ws) (kf : ¬ x ≤ y → jJ p l e R s m args below meth c E A nL Q cells slots (pc + 3) lv (rest) ws) : jJ p l e R s m args below meth c E A nL Q cells slots pc lv (.int y :: .int x :: rest) ws := fun _ _ _ hP hD hS hl => lv_icmp_le C.1 C.2.1 hd ht (fun h => kt h _ _ _ hP hD hS hl) (fun h => kf h _ _ _ hP hD hS hl)
theorem j_if_le_t (C : jC p l e R s m args below meth c y cc nL ret d mc ms E A) {x : Int32} {off : Int} {tgt : Nat} (hd : decode cc pc = .ok (.ifCond .le off, 3)) (ht : (pc : Int) + off = (tgt : Int)) (h : x ≤ 0) (kk : jJ p l e R s m args below meth c E A nL Q cells slots (tgt) lv (rest) ws) : jJ p l e R s m args below meth c E A nL Q cells slots pc lv (.int x :: rest) ws := j_if_le C hd ht (fun q => kk) (fun q => absurd h q)
theorem j_icmp_le_t (C : jC p l e R s m args below meth c y cc nL ret d mc ms E A) {x y : Int32} {off : Int} {tgt : Nat} (hd : decode cc pc = .ok (.if_icmp .le off, 3)) (ht : (pc : Int) + off = (tgt : Int)) (h : x ≤ y) (kk : jJ p l e R s m args below meth c E A nL Q cells slots (tgt) lv (rest) ws) : jJ p l e R s m args below meth c E A nL Q cells slots pc lv (.int y :: .int x :: rest) ws := j_icmp_le C hd ht (fun q => kk) (fun q => absurd h q)
theorem j_if_le_f (C : jC p l e R s m args below meth c y cc nL ret d mc ms E A) {x : Int32} {off : Int} {tgt : Nat} (hd : decode cc pc = .ok (.ifCond .le off, 3)) (ht : (pc : Int) + off = (tgt : Int)) (h : ¬ x ≤ 0) (kk : jJ p l e R s m args below meth c E A nL Q cells slots (pc + 3) lv (rest) ws) : jJ p l e R s m args below meth c E A nL Q cells slots pc lv (.int x :: rest) ws := j_if_le C hd ht (fun q => absurd q h) (fun q => kk)
theorem j_icmp_le_f (C : jC p l e R s m args below meth c y cc nL ret d mc ms E A) {x y : Int32} {off : Int} {tgt : Nat} (hd : decode cc pc = .ok (.if_icmp .le off, 3)) (ht : (pc : Int) + off = (tgt : Int)) (h : ¬ x ≤ y) (kk : jJ p l e R s m args below meth c E A nL Q cells slots (pc + 3) lv (rest) ws) : jJ p l e R s m args below meth c E A nL Q cells slots pc lv (.int y :: .int x :: rest) ws := j_icmp_le C hd ht (fun q => absurd q h) (fun q => kk)
theorem j_goto (C : jC p l e R s m args below meth c y cc nL ret d mc ms E A) {off : Int} {tgt : Nat} (hd : decode cc pc = .ok (.goto off, 3)) (ht : (pc : Int) + off = (tgt : Int)) (kk : jJ p l e R s m args below meth c E A nL Q cells slots (tgt) lv (rest) ws) : jJ p l e R s m args below meth c E A nL Q cells slots pc lv (rest) ws := fun _ _ _ hP hD hS hl => lv_goto C.1 C.2.1 hd ht (kk _ _ _ hP hD hS hl)
theorem j_ifnonnull_t (C : jC p l e R s m args below meth c y cc nL ret d mc ms E A) {a : Nat} {off : Int} {tgt : Nat} (hd : decode cc pc = .ok (.ifnonnull off, 3)) (ht : (pc : Int) + off = (tgt : Int)) (kk : jJ p l e R s m args below meth c E A nL Q cells slots (tgt) lv (rest) ws) : jJ p l e R s m args below meth c E A nL Q cells slots pc lv (.ref a :: rest) ws := fun _ _ _ hP hD hS hl => lv_ifnonnull C.1 C.2.1 hd ht (kk _ _ _ hP hD hS hl)
theorem j_ifnonnull_f (C : jC p l e R s m args below meth c y cc nL ret d mc ms E A) {off : Int} (hd : decode cc pc = .ok (.ifnonnull off, 3)) (kk : jJ p l e R s m args below meth c E A nL Q cells slots (pc + 3) lv (rest) ws) : jJ p l e R s m args below meth c E A nL Q cells slots pc lv (.null :: rest) ws := fun _ _ _ hP hD hS hl => lv_ifnonnullN C.1 C.2.1 hd (kk _ _ _ hP hD hS hl)
theorem j_ifnull_f (C : jC p l e R s m args below meth c y cc nL ret d mc ms E A) {a : Nat} {off : Int} (hd : decode cc pc = .ok (.ifnull off, 3)) (kk : jJ p l e R s m args below meth c E A nL Q cells slots (pc + 3) lv (rest) ws) : jJ p l e R s m args below meth c E A nL Q cells slots pc lv (.ref a :: rest) ws := fun _ _ _ hP hD hS hl => lv_ifnull C.1 C.2.1 hd (kk _ _ _ hP hD hS hl)
theorem j_ifnull_t (C : jC p l e R s m args below meth c y cc nL ret d mc ms E A) {off : Int} {tgt : Nat} (hd : decode cc pc = .ok (.ifnull off, 3)) (ht : (pc : Int) + off = (tgt : Int)) (kk : jJ p l e R s m args below meth c E A nL Q cells slots (tgt) lv (rest) ws) : jJ p l e R s m args below meth c E A nL Q cells slots pc lv (.null :: rest) ws := fun _ _ _ hP hD hS hl => lv_ifnullN C.1 C.2.1 hd ht (kk _ _ _ hP hD hS hl)
theorem j_tableIn (C : jC p l e R s m args below meth c y cc nL ret d mc ms E A) {dflt lo hi : Int} {offs : Array Int} {len : Nat} {x : Int32} {off : Int} {tgt : Nat} (hd : decode cc pc = .ok (.tableswitch dflt lo hi offs, len)) (h1 : ¬ x.toInt < lo) (h2 : ¬ hi < x.toInt) (ho : offs[(x.toInt - lo).toNat]? = some off) (ht : (pc : Int) + off = (tgt : Int)) (kk : jJ p l e R s m args below meth c E A nL Q cells slots (tgt) lv (rest) ws) : jJ p l e R s m args below meth c E A nL Q cells slots pc lv (.int x :: rest) ws := fun _ _ _ hP hD hS hl => lv_tableIn C.1 C.2.1 hd h1 h2 ho ht (kk _ _ _ hP hD hS hl)
theorem j_tableOut (C : jC p l e R s m args below meth c y cc nL ret d mc ms E A) {dflt lo hi : Int} {offs : Array Int} {len : Nat} {x : Int32} {tgt : Nat} (hd : decode cc pc = .ok (.tableswitch dflt lo hi offs, len)) (h : x.toInt < lo ∨ hi < x.toInt) (ht : (pc : Int) + dflt = (tgt : Int)) (kk : jJ p l e R s m args below meth c E A nL Q cells slots (tgt) lv (rest) ws) : jJ p l e R s m args below meth c E A nL Q cells slots pc lv (.int x :: rest) ws := fun _ _ _ hP hD hS hl => lv_tableOut C.1 C.2.1 hd h ht (kk _ _ _ hP hD hS hl)
theorem j_lookup (C : jC p l e R s m args below meth c y cc nL ret d mc ms E A) {dflt : Int} {ps : Array (Int × Int)} {len : Nat} {x : Int32} {off : Int} {tgt : Nat} (hd : decode cc pc = .ok (.lookupswitch dflt ps, len)) (hp : (ps.toList.zip (ps.toList.drop 1)).all (fun (a, next) => a.1 < next.1) = true) (ho : Op.lookupswitch.offset ps.toList dflt x.toInt = off) (ht : (pc : Int) + off = (tgt : Int)) (kk : jJ p l e R s m args below meth c E A nL Q cells slots (tgt) lv (rest) ws) : jJ p l e R s m args below meth c E A nL Q cells slots pc lv (.int x :: rest) ws := fun _ _ _ hP hD hS hl => lv_lookup C.1 C.2.1 hd hp ho ht (kk _ _ _ hP hD hS hl)
theorem j_ldc2 (C : jC p l e R s m args below meth c y cc nL ret d mc ms E A) {i : Nat} {v : Int64} (hk : Cond.constantLong y.cls i v ∈ jTg) (hd : decode cc pc = .ok (.ldc2_w i, 3)) (kk : jJ p l e R s m args below meth c E A nL Q cells slots (pc + 3) lv (.long v :: rest) ws) : jJ p l e R s m args below meth c E A nL Q cells slots pc lv (rest) ws := fun _ _ _ hP hD hS hl => lv_ldc2 C.1 C.2.1 C.2.2.2.1 (C.2.2.2.2.1 _ hk) hd (kk _ _ _ hP hD hS hl)
theorem j_ldc (C : jC p l e R s m args below meth c y cc nL ret d mc ms E A) {i : Nat} {v : Int32} (hk : Cond.constant y.cls i v ∈ jTg) (hd : decode cc pc = .ok (.ldc i, 2)) (kk : jJ p l e R s m args below meth c E A nL Q cells slots (pc + 2) lv (.int v :: rest) ws) : jJ p l e R s m args below meth c E A nL Q cells slots pc lv (rest) ws := fun _ _ _ hP hD hS hl => lv_ldc C.1 C.2.1 C.2.2.2.1 (C.2.2.2.2.1 _ hk) hd (kk _ _ _ hP hD hS hl)
theorem j_get (C : jC p l e R s m args below meth c y cc nL ret d mc ms E A) {a : Nat} {T : u_T} {N ci i : Nat} {Cn : String} (q0 : Nat) {fs : List Value} (he : ws[q0]? = some (a, .inr (ci, fs))) (hin : ∀ w ∈ u_ws Cn T N, w ∈ jTg) (hc : vwCl[ci]? = some (Cn, T, N)) (k : Nat) (hk : k < N) (hlink : Cond.fieldLink y.cls i (T k).1 (T k).2.1 (T k).2.2.1 ∈ jTg) {v : Value} (hv : fs[k]? = some v) (hd : decode cc pc = .ok (.getfield i, 3)) (kk : jJ p l e R s m args below meth c E A nL Q cells slots (pc + 3) lv (v :: rest) ws) : jJ p l e R s m args below meth c E A nL Q cells slots pc lv (.ref a :: rest) ws := fun _ _ _ hP hD hS hl => va_get C.1 C.2.1 C.2.2.2.2.1 hin C.2.2.2.1 C.2.2.2.2.2.2.2.2.1.1.1 hP q0 he hc k hk (C.2.2.2.2.1 _ hlink) (fun _ h => h) hv hd (kk _ _ _ hP hD hS hl)
theorem j_put (C : jC p l e R s m args below meth c y cc nL ret d mc ms E A) {a : Nat} {T : u_T} {N ci i : Nat} {Cn : String} {ws' : va_W} (q0 : Nat) {fs : List Value} (he : ws[q0]? = some (a, .inr (ci, fs))) (hin : ∀ w ∈ u_ws Cn T N, w ∈ jTg) (ty0 : Nat → FieldType) (hty : ∀ k, k < N → parseFieldDescriptor (T k).2.2.1 = some (ty0 k)) (hnm : ∀ a, a < N → ∀ b, b < N → a ≠ b → (T a).2.1 ≠ (T b).2.1) (hc : vwCl[ci]? = some (Cn, T, N)) (k : Nat) (hk : k < N) (hlink : Cond.fieldLink y.cls i (T k).1 (T k).2.1 (T k).2.2.1 ∈ jTg) (hfin : (T k).2.2.2 = false) {ty : FieldType} {v : Value} (hde : parseFieldDescriptor (T k).2.2.1 = some ty) (hn : narrow ty v = v) (hfit : fits ty v = true) (hlen : k < fs.length) (hd : decode cc pc = .ok (.putfield i, 3)) (hws : ws.set q0 (a, .inr (ci, fs.set k v)) = ws') (kk : jJ p l e R s m args below meth c E A nL Q cells slots (pc + 3) lv (rest) ws') : jJ p l e R s m args below meth c E A nL Q cells slots pc lv (v :: .ref a :: rest) ws := fun _ _ _ hP hD hS hl => va_put C.1 C.2.1 C.2.2.2.2.1 hin ty0 hty hnm C.2.2.2.1 C.2.2.2.2.2.2.2.2.1.1.1 hP hD hS q0 he hc k hk (C.2.2.2.2.1 _ hlink) (fun _ h => h) hfin hde hn hfit hlen hd (fun _ _ hP hD hS => by rw [hws] at hP hD; exact kk _ _ _ hP hD hS hl)
theorem j_putF (C : jC p l e R s m args below meth c y cc nL ret d mc ms E A) {a : Nat} {T : u_T} {N ci i : Nat} {Cn : String} {ws' : va_W} (q0 : Nat) {fs : List Value} (he : ws[q0]? = some (a, .inr (ci, fs))) (hin : ∀ w ∈ u_ws Cn T N, w ∈ jTg) (ty0 : Nat → FieldType) (hty : ∀ k, k < N → parseFieldDescriptor (T k).2.2.1 = some (ty0 k)) (hnm : ∀ a, a < N → ∀ b, b < N → a ≠ b → (T a).2.1 ≠ (T b).2.1) (hc : vwCl[ci]? = some (Cn, T, N)) (k : Nat) (hk : k < N) (hlink : Cond.fieldLink y.cls i (T k).1 (T k).2.1 (T k).2.2.1 ∈ jTg) (hfin : (T k).2.2.2 = true) (hini : y.name = "<init>") (hdecl : (T k).1 = y.cls) {ty : FieldType} {v : Value} (hde : parseFieldDescriptor (T k).2.2.1 = some ty) (hn : narrow ty v = v) (hfit : fits ty v = true) (hlen : k < fs.length) (hd : decode cc pc = .ok (.putfield i, 3)) (hws : ws.set q0 (a, .inr (ci, fs.set k v)) = ws') (kk : jJ p l e R s m args below meth c E A nL Q cells slots (pc + 3) lv (rest) ws') : jJ p l e R s m args below meth c E A nL Q cells slots pc lv (v :: .ref a :: rest) ws := fun _ _ _ hP hD hS hl => va_putF C.1 C.2.1 C.2.2.2.2.1 hin ty0 hty hnm C.2.2.2.1 C.2.2.2.2.2.2.2.2.1.1.1 hP hD hS q0 he hc k hk (C.2.2.2.2.1 _ hlink) (fun _ h => h) hfin (C.2.2.2.2.2.2.2.2.2.2.2.trans hini) hdecl hde hn hfit hlen hd (fun _ _ hP hD hS => by rw [hws] at hP hD; exact kk _ _ _ hP hD hS hl)
theorem j_iaload (C : jC p l e R s m args below meth c y cc nL ret d mc ms E A) {a n : Nat} {f : Nat → Int32} {i z : Int32} (q0 : Nat) (k : Nat) (he : ws[q0]? = some (a, .inl (E.2.1, n, .inl f))) (hi : i = nI k) (hk : k < n) (hn : n < 2 ^ 31) (hz : f k = z) (hd : decode cc pc = .ok (.iaload, 1)) (kk : jJ p l e R s m args below meth c E A nL Q cells slots (pc + 1) lv (.int z :: rest) ws) : jJ p l e R s m args below meth c E A nL Q cells slots pc lv (.int i :: .ref a :: rest) ws := by
  subst hi
  intro _ _ _ hP hD hS hl
  refine va_iald C.1 C.2.1 C.2.2.2.2.2.2.2.2.1.1.1 hP q0 0 he rfl (vp_in_nI hk hn) hd ?_
  rw [nI_clamp (by omega), hz]
  exact kk _ _ _ hP hD hS hl
theorem j_baload (C : jC p l e R s m args below meth c y cc nL ret d mc ms E A) {a n : Nat} {f : Nat → Int32} {i z : Int32} (q0 : Nat) (k : Nat) (he : ws[q0]? = some (a, .inl (E.2.2.1, n, .inl f))) (hi : i = nI k) (hk : k < n) (hn : n < 2 ^ 31) (hz : f k = z) (hd : decode cc pc = .ok (.baload, 1)) (kk : jJ p l e R s m args below meth c E A nL Q cells slots (pc + 1) lv (.int z :: rest) ws) : jJ p l e R s m args below meth c E A nL Q cells slots pc lv (.int i :: .ref a :: rest) ws := by
  subst hi
  intro _ _ _ hP hD hS hl
  refine va_bald C.1 C.2.1 C.2.2.2.2.2.2.2.2.1.1.1 hP q0 1 he rfl (vp_in_nI hk hn) hd ?_
  rw [nI_clamp (by omega), hz]
  exact kk _ _ _ hP hD hS hl
theorem j_iastore (C : jC p l e R s m args below meth c y cc nL ret d mc ms E A) {a n : Nat} {f : Nat → Int32} {i x : Int32} {ws' : va_W} (q0 : Nat) (k : Nat) (he : ws[q0]? = some (a, .inl (E.2.1, n, .inl f))) (hi : i = nI k) (hk : k < n) (hn : n < 2 ^ 31) (hd : decode cc pc = .ok (.iastore, 1)) (hws : ws.set q0 (a, .inl (E.2.1, n, .inl (upd f k x))) = ws') (kk : jJ p l e R s m args below meth c E A nL Q cells slots (pc + 1) lv (rest) ws') : jJ p l e R s m args below meth c E A nL Q cells slots pc lv (.int x :: .int i :: .ref a :: rest) ws := by
  subst hi
  intro _ _ _ hP hD hS hl
  refine va_iast C.1 C.2.1 C.2.2.2.2.2.2.2.2.1.1.1 hP hD hS q0 0 he rfl (vp_in_nI hk hn) hd (fun _ _ hP hD hS => ?_)
  rw [nI_clamp (by omega), hws] at hP hD
  exact kk _ _ _ hP hD hS hl
theorem j_alen (C : jC p l e R s m args below meth c y cc nL ret d mc ms E A) {a : Nat} {x : vp_A} {v : Int32} (q0 t0 : Nat) {cA : ClassId} {ty : FieldType} (he : ws[q0]? = some (a, .inl (cA, x))) (ht : (jTys E)[t0]? = some (cA, ty)) (hv : nI x.1 = v) (hd : decode cc pc = .ok (.arraylength, 1)) (kk : jJ p l e R s m args below meth c E A nL Q cells slots (pc + 1) lv (.int v :: rest) ws) : jJ p l e R s m args below meth c E A nL Q cells slots pc lv (.ref a :: rest) ws := fun _ _ _ hP hD hS hl => va_alen C.1 C.2.1 C.2.2.2.2.2.2.2.2.1.1.1 hP q0 t0 he ht hv hd (kk _ _ _ hP hD hS hl)
/-- behind the list of the world something is forgotten -/
theorem j_drop {wx : va_W} (kk : jJ p l e R s m args below meth c E A nL Q cells slots (pc) lv (st) ws) : jJ p l e R s m args below meth c E A nL Q cells slots pc lv st (ws ++ wx) := fun _ _ _ hP hD hS hl => kk _ _ _ (fun k q hq => hP k q (List.getElem?_append_left (l₂ := wx) ((List.getElem?_eq_some_iff.mp hq).1) ▸ hq)) ⟨fun i j x y hi hj hxy => hD.1 i j x y (List.getElem?_append_left (l₂ := wx) ((List.getElem?_eq_some_iff.mp hi).1) ▸ hi) (List.getElem?_append_left (l₂ := wx) ((List.getElem?_eq_some_iff.mp hj).1) ▸ hj) hxy, fun k q hq => hD.2 k q (List.getElem?_append_left (l₂ := wx) ((List.getElem?_eq_some_iff.mp hq).1) ▸ hq)⟩ hS hl
theorem j_eq {pc' : Nat} {lv' : List (Nat × Value)} {st' : List Value} {ws' : va_W} (h1 : lv = lv') (h2 : st = st') (h3 : ws = ws') (kk : jJ p l e R s m args below meth c E A nL Q cells slots pc lv' st' ws') : jJ p l e R s m args below meth c E A nL Q cells slots pc lv st ws := by subst h1; subst h2; subst h3; exact kk
/-- fewer locals -/
theorem j_lv {lv' : List (Nat × Value)} (h : ∀ q ∈ lv', q ∈ lv) (kk : jJ p l e R s m args below meth c E A nL Q cells slots pc lv' st ws) : jJ p l e R s m args below meth c E A nL Q cells slots pc lv st ws := fun _ _ _ hP hD hS hl => kk _ _ _ hP hD hS ⟨hl.1, hl.2.1, fun q hq => hl.2.2 q (h q hq)⟩

theorem j_codesN (C : jC p l e R s m args below meth c y cc nL ret d mc ms E A) (hy : y.cls = "Checkdesk$Texts") (hd : decode cc pc = .ok (.getstatic 36, 3)) (kk : ∀ t : Nat, va_T .int t 10 (fun j => .int (jCod j)) A s s.heap → jJ p l e R s m args below meth c E A nL Q cells slots (pc + 3) lv (.ref t :: rest) ws) : jJ p l e R s m args below meth c E A nL Q cells slots pc lv rest ws := by
  intro _ _ _ hP hD hS hl
  obtain ⟨t, h1, h2⟩ := C.2.2.2.2.2.2.2.2.1.2.2.2.1
  have hown := C.2.2.2.1
  rw [hy] at hown
  exact va_getsN C.1 C.2.1 h1 hS hown (va_Nw.use rfl (C.2.2.2.2.2.2.2.2.1.2.2.2.2.2.2.2.2.1 _ (List.mem_cons_self (l := _)))) (fun _ h => h) hd (kk t h2 _ _ _ hP hD hS hl)
theorem j_codesM (C : jC p l e R s m args below meth c y cc nL ret d mc ms E A) {i : Nat} (hlink : Cond.fieldLink y.cls i "CheckdeskModel" "CODES" "[I" ∈ jTg) (hd : decode cc pc = .ok (.getstatic i, 3)) (kk : ∀ t : Nat, va_T .int t 10 (fun j => .int (jCod j)) A s s.heap → jJ p l e R s m args below meth c E A nL Q cells slots (pc + 3) lv (.ref t :: rest) ws) : jJ p l e R s m args below meth c E A nL Q cells slots pc lv rest ws := by
  intro _ _ _ hP hD hS hl
  obtain ⟨t, h1, h2⟩ := C.2.2.2.2.2.2.2.2.1.2.2.2.2.1
  exact va_gets C.1 C.2.1 h1 hS C.2.2.2.1 (C.2.2.2.2.1 _ hlink) (fun _ h => h) hd (kk t h2 _ _ _ hP hD hS hl)
theorem j_tld (C : jC p l e R s m args below meth c y cc nL ret d mc ms E A) {t N : Nat} {f : Nat → Int32} {i z : Int32} (hT : va_T .int t N (fun j => .int (f j)) A s s.heap) (k : Nat) (hi : i = nI k) (hk : k < N) (hn : N < 2 ^ 31) (hz : f k = z) (hd : decode cc pc = .ok (.iaload, 1)) (kk : jJ p l e R s m args below meth c E A nL Q cells slots (pc + 1) lv (.int z :: rest) ws) : jJ p l e R s m args below meth c E A nL Q cells slots pc lv (.int i :: .ref t :: rest) ws := by
  subst hi
  intro _ _ _ hP hD hS hl
  refine va_ti C.1 C.2.1 hT hS (vp_in_nI hk hn) (v := .int z) ?_ hd (kk _ _ _ hP hD hS hl)
  rw [nI_clamp (by omega), hz]
theorem j_tlen (C : jC p l e R s m args below meth c y cc nL ret d mc ms E A) {t N : Nat} {f : Nat → Value} {v : Int32} (hT : va_T .int t N f A s s.heap) (hv : nI N = v) (hd : decode cc pc = .ok (.arraylength, 1)) (kk : jJ p l e R s m args below meth c E A nL Q cells slots (pc + 1) lv (.int v :: rest) ws) : jJ p l e R s m args below meth c E A nL Q cells slots pc lv (.ref t :: rest) ws :=
  fun _ _ _ hP hD hS hl => va_tlen C.1 C.2.1 hT hS hv hd (kk _ _ _ hP hD hS hl)
theorem j_ldcS (C : jC p l e R s m args below meth c y cc nL ret d mc ms E A) {i : Nat} {tx : String} (hm : (y.cls, i, tx) ∈ jStr) (hd : decode cc pc = .ok (.ldc i, 2)) (kk : ∀ a : Nat, jJ p l e R s m args below meth c E A nL Q cells slots (pc + 2) lv (.ref a :: rest) ws) : jJ p l e R s m args below meth c E A nL Q cells slots pc lv rest ws := by
  intro _ _ _ hP hD hS hl
  obtain ⟨a, ha⟩ := C.2.2.2.2.2.2.2.2.1.2.2.2.2.2.1 _ hm
  exact va_ldcS C.1 C.2.1 C.2.2.2.1 ha hd (kk a _ _ _ hP hD hS hl)
/-- a new cell of the class's own kinds -/
theorem j_new (C : jC p l e R s m args below meth c y cc nL ret d mc ms E A) {T : u_T} {N ci i : Nat} {Cn : String} (hin : ∀ w ∈ u_ws Cn T N, w ∈ jTg) (ty : Nat → FieldType) (hty : ∀ k, k < N → parseFieldDescriptor (T k).2.2.1 = some (ty k)) (hcl : Cond.classLink y.cls i Cn ∈ jTg) (hinst : Cond.instantiable Cn N ∈ jTg) (hini : Cond.initialized Cn ∈ jTg) (hc : vwCl[ci]? = some (Cn, T, N)) {fs : List Value} (hfs : ∀ j, j < N → defaultValue (ty j) = vp_V fs j) (hcells : cells + 1 ≤ mc) (hslots : slots + N ≤ ms) (hd : decode cc pc = .ok (.new i, 3))
    (kk : ∀ q : Nat, jJ p l e R s m args below meth c E A nL Q (cells + 1) (slots + N) (pc + 3) lv (.ref q :: rest) (ws ++ [(q, .inr (ci, fs))])) : jJ p l e R s m args below meth c E A nL Q cells slots pc lv rest ws := by
  intro _ _ _ hP hD hS hl
  have hR := C.2.2.2.2.2.2.2.2.2.2.1
  exact va_new C.1 C.2.1 C.2.2.2.2.1 hin ty hty C.2.2.2.1 (C.2.2.2.2.1 _ hcl) (C.2.2.2.2.1 _ hinst) (C.2.2.2.2.1 _ hini) C.2.2.2.2.2.2.2.2.1.1.1 hP hD hS C.2.2.2.2.2.2.2.2.2.1 hc hfs (by rw [hR]; exact hcells) (by rw [hR]; exact hslots) hd (fun q _ hP hD hS => kk q _ _ _ hP hD hS hl)
theorem j_newI (C : jC p l e R s m args below meth c y cc nL ret d mc ms E A) {n : Int32} (k : Nat) (harr : Cond.arrayClass .int ∈ jTg) (hn : n = nI k) (hk : k < 2 ^ 24) (hcells : cells + 1 ≤ mc) (hslots : slots + k ≤ ms) (hd : decode cc pc = .ok (.newarray .int, 2))
    (kk : ∀ q : Nat, jJ p l e R s m args below meth c E A nL Q (cells + 1) (slots + k) (pc + 2) lv (.ref q :: rest) (ws ++ [(q, .inl (E.2.1, k, .inl (fun _ => 0)))])) : jJ p l e R s m args below meth c E A nL Q cells slots pc lv (.int n :: rest) ws := by
  subst hn
  intro _ _ _ hP hD hS hl
  have hR := C.2.2.2.2.2.2.2.2.2.2.1
  refine va_newa (atype := .int) (ty := .int) (N' := k) (a0 := (k, .inl (fun _ => 0))) C.1 C.2.1 (C.2.2.2.2.1 _ harr) rfl C.2.2.2.2.2.2.2.2.1.1.1 hP hD hS C.2.2.2.2.2.2.2.2.2.1 (fun cA => rfl) (nI_pos (by omega)) (nI_clamp (by omega)) ?_ (by rw [hR]; exact hcells) (by rw [hR]; exact hslots) hd (fun q cA _ hK hP hD hS => ?_)
  · show k * 4 ≤ _
    omega
  · have h1 := (hK.2 3 (cA, .int) rfl).2
    have h0 := (C.2.2.2.2.2.2.2.2.1.1.1.2 0 (E.2.1, .int) rfl).2
    have e : cA = E.2.1 := Option.some.inj (h1.symm.trans h0)
    subst e
    exact kk q _ _ _ hP hD hS hl
theorem j_newB (C : jC p l e R s m args below meth c y cc nL ret d mc ms E A) {n : Int32} (k : Nat) (harr : Cond.arrayClass .byte ∈ jTg) (hn : n = nI k) (hk : k < 2 ^ 24) (hcells : cells + 1 ≤ mc) (hslots : slots + k ≤ ms) (hd : decode cc pc = .ok (.newarray .byte, 2))
    (kk : ∀ q : Nat, jJ p l e R s m args below meth c E A nL Q (cells + 1) (slots + k) (pc + 2) lv (.ref q :: rest) (ws ++ [(q, .inl (E.2.2.1, k, .inl (fun _ => 0)))])) : jJ p l e R s m args below meth c E A nL Q cells slots pc lv (.int n :: rest) ws := by
  subst hn
  intro _ _ _ hP hD hS hl
  have hR := C.2.2.2.2.2.2.2.2.2.2.1
  refine va_newa (atype := .byte) (ty := .byte) (N' := k) (a0 := (k, .inl (fun _ => 0))) C.1 C.2.1 (C.2.2.2.2.1 _ harr) rfl C.2.2.2.2.2.2.2.2.1.1.1 hP hD hS C.2.2.2.2.2.2.2.2.2.1 (fun cA => rfl) (nI_pos (by omega)) (nI_clamp (by omega)) ?_ (by rw [hR]; exact hcells) (by rw [hR]; exact hslots) hd (fun q cA _ hK hP hD hS => ?_)
  · show k * 1 ≤ _
    omega
  · have h1 := (hK.2 3 (cA, .byte) rfl).2
    have h0 := (C.2.2.2.2.2.2.2.2.1.1.1.2 1 (E.2.2.1, .byte) rfl).2
    have e : cA = E.2.2.1 := Option.some.inj (h1.symm.trans h0)
    subst e
    exact kk q _ _ _ hP hD hS hl
theorem j_objInit (C : jC p l e R s m args below meth c y cc nL ret d mc ms E A) {i a : Nat} (hl1 : Cond.methodLink y.cls i Lib.objectInit ∈ jTg) (h2 : Cond.instanceMethod Lib.objectInit ∈ jTg) (h3 : Cond.code Lib.objectInit ⟨#[0xb1]⟩ 1 none ∈ jTg) (hcat : (rest.map fun v => v.category).sum ≤ 8) (hd : decode cc pc = .ok (.invokespecial i, 3)) (kk : jJ p l e R s m args below meth c E A nL Q cells slots (pc + 3) lv rest ws) : jJ p l e R s m args below meth c E A nL Q cells slots pc lv (.ref a :: rest) ws := by
  intro _ _ _ hP hD hS hl
  have hR := C.2.2.2.2.2.2.2.2.2.2.1
  refine W.objInit C.1 C.2.1 C.2.2.2.1 (C.2.2.2.2.1 _ hl1) (C.2.2.2.2.1 _ h2) (C.2.2.2.2.1 _ h3) rfl (hl.1.trans C.2.2.1.symm) rfl hd (by rw [hR]; show 1 ≤ d + 6; omega) ?_ (kk _ _ _ hP hD hS hl)
  rw [hR]
  show 2 * 0 + _ + 12 ≤ 40 * d + 100
  omega
theorem j_aaload (C : jC p l e R s m args below meth c y cc nL ret d mc ms E A) {a n : Nat} {f : Nat → Option Nat} {i : Int32} {v : Value} (q0 k : Nat) (he : ws[q0]? = some (a, .inl (E.2.2.2, n, .inr (.inr (.inr (.inr f)))))) (hi : i = nI k) (hk : k < n) (hn : n < 2 ^ 31) (hv : va_rf (f k) = v) (hd : decode cc pc = .ok (.aaload, 1)) (kk : jJ p l e R s m args below meth c E A nL Q cells slots (pc + 1) lv (v :: rest) ws) : jJ p l e R s m args below meth c E A nL Q cells slots pc lv (.int i :: .ref a :: rest) ws := by
  subst hi
  intro _ _ _ hP hD hS hl
  refine W.aald (v := v) (ty := .array .int) C.1 C.2.1 (hP q0 _ he) ((C.2.2.2.2.2.2.2.2.1.1.1.2 2 (E.2.2.2, .array .int) rfl).1 n (fun j => va_rf (f j))) rfl (fun q => by cases q) (by show ¬ (_ < 0 ∨ (arrV _ _ _).slots.size ≤ _); rw [arrV_size]; exact vp_in_nI hk hn) (by show (arrV _ _ _).slots[_]? = _; rw [nI_clamp (by omega), arrV_read _ _ hk, hv]) rfl rfl hd (kk _ _ _ hP hD hS hl)
theorem j_aastore (C : jC p l e R s m args below meth c y cc nL ret d mc ms E A) {a n v : Nat} {f : Nat → Option Nat} {x : vp_A} {i : Int32} {ws' : va_W} (q0 qk k : Nat) (he : ws[q0]? = some (a, .inl (E.2.2.2, n, .inr (.inr (.inr (.inr f)))))) (hv : ws[qk]? = some (v, .inl (E.2.1, x.1, .inl (fun j => match x.2 with | .inl g => g j | _ => 0)))) (hi : i = nI k) (hk : k < n) (hn : n < 2 ^ 31) (hd : decode cc pc = .ok (.aastore, 1)) (hws : ws.set q0 (a, .inl (E.2.2.2, n, .inr (.inr (.inr (.inr (va_up f k (some v))))))) = ws') (kk : jJ p l e R s m args below meth c E A nL Q cells slots (pc + 1) lv rest ws') : jJ p l e R s m args below meth c E A nL Q cells slots pc lv (.ref v :: .int i :: .ref a :: rest) ws := by
  subst hi
  intro _ _ _ hP hD hS hl
  obtain ⟨kA, kI, k1, k2, k3⟩ := C.2.2.2.2.2.2.2.2.1.1.2
  refine W.aast C.1 C.2.1 (hP q0 _ he) (fun q h => by cases h) (fun h => by cases h) k1 k2 rfl k3 ⟨nI_pos (by omega), by show _ < (arrV _ _ _).slots.size; rw [arrV_size, nI_clamp (by omega)]; exact hk⟩ (hP qk _ hv) (fun q h => by cases h) k3 (by show (E.2.1 == E.2.1 || _) = true; rw [beq_self_eq_true, Bool.true_or]) rfl rfl hd fun H1 e z oq => ?_
  have hP1 : va_P E.1 vwCl ws' H1 := by
    rw [← hws]
    refine hP.set hD he ?_ oq
    show H1[a]? = some (vp_cell _ _)
    rw [e, nI_clamp (by omega)]
    rw [vp_cell_q, vp_cell_q, arrV_store]
    congr 2
    funext q
    by_cases hq : q = k
    · subst hq
      simp [updV, va_up, va_rf]
    · simp [updV, va_up, hq]
  exact kk _ _ _ hP1 (by rw [← hws]; exact hD.set he) (hS.put z oq (hD.2 q0 _ he)) hl
theorem j_aastN0 {T : State} {H : Heap} {locs : List Loc} (X : Stand p l e R s m args below meth c T locs cells slots) (hexec : p.tables.exec = Jvm.exec) {a : Addr} {cell : Cell} {j : Int32} (hcell : T.heap[a]? = some cell) (harr : s.isArrayOf cell (.array .int)) (hknown : cell.vm ≠ .unknown)
    (hin : ¬ (j < 0 ∨ cell.slots.size ≤ j.toNatClampNeg))
    {g : JFrame} (hg : g.method = m) {rest : List Value} (hstack : g.stack = .null :: .int j :: .ref a :: rest) (hdg : decode c.code g.pc = .ok (.aastore, 1)) :
    Stand p l e R s m args below meth c (T.setCell a (cell.setSlot j.toNatClampNeg .null)) (locs ++ [⟨a, j.toNatClampNeg⟩]) cells slots ∧
      ∀ target, Steps p.tables e below ((T.setCell a (cell.setSlot j.toNatClampNeg .null)).setTop { g with pc := g.pc + 1, stack := rest }) target → Steps p.tables e below (T.setTop g) target := by
  have hT := State.isArrayOf_alike X.warmed.alike harr
  have hfit : T.fitsSlot cell.cls cell.vm j.toNatClampNeg .null = true := by
    obtain ⟨hobj, k, hk, comp, hkind⟩ := hT
    cases hvm : cell.vm <;> first | exact absurd hvm (hobj _) | simp [State.fitsSlot, State.slotType?, hk, hkind, fits]
  refine ⟨X.stored hcell _ _, fun target hrest => ?_⟩
  subst hg
  jvm_step X.here [hexec, hdg]
  refine aastore.wp_of_null (c := cell) (t := .array .int) X.here.top hstack hcell hT hin hknown (Nat.not_le.mp fun q => hin (Or.inr q)) hfit ?_
  intro acts
  rw [afterInstr_ok]
  exact hrest
theorem j_aastoreN (C : jC p l e R s m args below meth c y cc nL ret d mc ms E A) {a n : Nat} {f : Nat → Option Nat} {i : Int32} {ws' : va_W} (q0 k : Nat) (he : ws[q0]? = some (a, .inl (E.2.2.2, n, .inr (.inr (.inr (.inr f)))))) (hi : i = nI k) (hk : k < n) (hn : n < 2 ^ 31) (hd : decode cc pc = .ok (.aastore, 1)) (hws : ws.set q0 (a, .inl (E.2.2.2, n, .inr (.inr (.inr (.inr (va_up f k none)))))) = ws') (kk : jJ p l e R s m args below meth c E A nL Q cells slots (pc + 1) lv rest ws') : jJ p l e R s m args below meth c E A nL Q cells slots pc lv (.null :: .int i :: .ref a :: rest) ws := by
  subst hi
  intro H locs ls hP hD hS hl
  have harr := (C.2.2.2.2.2.2.2.2.1.1.1.2 2 (E.2.2.2, .array .int) rfl).1 n (fun j => va_rf (f j))
  intro T hT X
  have hT' : T.heap[a]? = some (arrV E.2.2.2 n (fun j => va_rf (f j))) := by rw [hT]; exact hP q0 _ he
  obtain ⟨X', st⟩ := j_aastN0 (H := H) X C.1 hT' harr (fun h => by cases h) (by rw [arrV_size]; exact vp_in_nI hk hn) (g := F0 m pc ls (.null :: .int (nI k) :: .ref a :: rest)) rfl rfl (by rw [C.2.1]; exact hd)
  have hlt : a < T.heap.size := (Array.getElem?_eq_some_iff.mp hT').1
  have e := heapAt_setCell_self (s := T) ((arrV E.2.2.2 n (fun j => va_rf (f j))).setSlot (nI k).toNatClampNeg .null) hlt
  have oq : ∀ q, q ≠ a → (T.setCell a ((arrV E.2.2.2 n (fun j => va_rf (f j))).setSlot (nI k).toNatClampNeg .null)).heap[q]? = H[q]? := fun q hq => by rw [heapAt_setCell_ne _ (Ne.symm hq), hT]
  have z : (T.setCell a ((arrV E.2.2.2 n (fun j => va_rf (f j))).setSlot (nI k).toNatClampNeg .null)).heap.size = H.size := by rw [size_setCell, hT]
  have hP1 : va_P E.1 vwCl ws' (T.setCell a ((arrV E.2.2.2 n (fun j => va_rf (f j))).setSlot (nI k).toNatClampNeg .null)).heap := by
    rw [← hws]
    refine hP.set hD he ?_ oq
    show _ = some (vp_cell _ _)
    rw [e, nI_clamp (by omega)]
    rw [vp_cell_q, arrV_store]
    congr 2
    funext q
    by_cases hq : q = k
    · subst hq
      simp [updV, va_up, va_rf]
    · simp [updV, va_up, hq]
  obtain ⟨t', a1, b1⟩ := kk _ _ _ hP1 (by rw [← hws]; exact hD.set he) (hS.put z oq (hD.2 q0 _ he)) hl (T.setCell a ((arrV E.2.2.2 n (fun j => va_rf (f j))).setSlot (nI k).toNatClampNeg .null)) rfl X'
  exact ⟨t', st t' a1, b1⟩

end JR
end
section
/-! calls, returns, throws over jJ -/
theorem jMet.met {l : Launch} {y : MethodName} {b : ByteArray} {nL : Nat} {ret : Option FieldType} {d mc ms : Nat} {E : jE} {A : Nat → Prop} {av : List Value} {ws : va_W} {post : Option Value → va_W → Prop} (h : jMet l y b nL ret d mc ms E A av ws post jNo) : Met l y (.code y b nL ret :: jTg) (jRm d mc ms) (jPre E A av ws) (jQ E A post) mc ms A := by
  intro p e h1 h2 h3 s m args below h4 h5 h6 h7
  obtain ⟨n, o, a1, a2, a3, a4⟩ := h p e h1 h2 h3 s m args below h4 h5 h6 h7
  refine ⟨n, o, a1, a2, a3, ?_⟩
  rcases a4 with a4 | ⟨q, -, En, ce, L, hx, -⟩
  · exact a4
  · exact absurd hx.1.choose_spec.1 id
/-- what the tables say of a method that is called -/
def jVok (y : MethodName) (b : ByteArray) (nL : Nat) (ret : Option FieldType) (n : Nat) : Prop :=
  Cond.code y b nL ret ∈ jTg ∧ Cond.initialized y.cls ∈ jTg ∧ (y.cls ≠ "java/lang/invoke/MethodHandle" ∧ y.cls ≠ "java/lang/invoke/VarHandle") ∧ (parseMethodDescriptor y.desc).map (fun d => d.parameters.length) = some n ∧ nL ≤ 20
def jVokV (y : MethodName) (b : ByteArray) (nL : Nat) (ret : Option FieldType) (n : Nat) : Prop := jVok y b nL ret n ∧ Cond.instanceMethod y ∈ jTg ∧ Cond.selects y.cls y y ∈ jTg
def jVokS (y : MethodName) (b : ByteArray) (nL : Nat) (ret : Option FieldType) (n : Nat) : Prop := jVok y b nL ret n ∧ Cond.static y ∈ jTg
def jVokI (y : MethodName) (b : ByteArray) (nL : Nat) (n : Nat) : Prop := jVok y b nL none n ∧ y.name = "<init>" ∧ Cond.instanceMethod y ∈ jTg
section JCL
variable {p : Program} {l : Launch} {e : Env} {R : Room} {s : State} {m : MethodId} {args : Array Value} {below : List Frame} {meth : Method} {c : Code} {y : MethodName} {cc : ByteArray} {nL : Nat} {ret : Option FieldType} {d mc ms : Nat} {E : jE} {A : Nat → Prop} {Q : State → Prop} {cells slots pc : Nat} {lv : List (Nat × Value)} {rest st : List Value} {ws : va_W}
variable {y' : MethodName} {b' : ByteArray} {nL' : Nat} {ret' : Option FieldType} {d' mc' ms' n i : Nat} {post : Option Value → va_W → Prop} {px : String → va_W → Prop} {As : List Value}
theorem j_pay (hts : ∀ w ∈ jTg, w.before args s = true) (hc : Cond.code y' b' nL' ret' ∈ jTg) : ∀ w ∈ (Cond.code y' b' nL' ret' :: jTg), ∀ (a' : Array Value) (U : State), s.WarmedH U.vm → w.before a' U = true := fun w hw => (List.mem_cons.mp hw).elim (fun e => by rw [e]; exact jTg_pay hts _ hc) (fun h => jTg_pay hts _ h)
theorem j_CB (C : jC p l e R s m args below meth c y cc nL ret d mc ms E A) (ok : jVok y' b' nL' ret' n) (hl : Cond.methodLink y.cls i y' ∈ jTg) (hd : d' < d) : CallB R s args y.cls i y' b' nL' ret' (Cond.code y' b' nL' ret' :: jTg) (jRm d' mc' ms') mc' ms' n := by
  obtain ⟨h1, h2, h3, h4, h5⟩ := ok
  have hts := C.2.2.2.2.1
  have hR := C.2.2.2.2.2.2.2.2.2.2.1
  subst hR
  refine ⟨rfl, rfl, ?_, ?_, j_pay hts h1, List.mem_cons_self, hts _ h1, hts _ h2, h3, fun sig h => ?_, hts _ hl⟩
  · show d' + 6 + 1 ≤ d + 6
    omega
  · show 8 + (nL' + 11) + (40 * d' + 100) ≤ 40 * d + 100
    omega
  · rw [h] at h4
    exact (Option.some.inj h4).symm
theorem j_pre (C : jC p l e R s m args below meth c y cc nL ret d mc ms E A) {H : Heap} {locs : List Loc} (hP : va_P E.1 vwCl ws H) (hD : va_D A ws) (hS : va_S A s.heap H locs) : ∀ U : State, U.heap = H → s.WarmedH U.vm → jPre E A As ws As.toArray U :=
  fun U hU hW => ⟨rfl, by rw [hU]; exact hP, hD, jG.go hW (fun a h1 h2 => by rw [hU]; exact hS.2.1 a h1 h2) C.2.2.2.2.2.2.2.2.1, fun q h => C.2.2.2.2.2.2.2.2.2.1 q (Nat.le_trans hS.1 (by rw [hU] at h; exact h))⟩
theorem j_run {H : Heap} {locs : List Loc} {ls : Array Slot} {st0 : List Value} {av : Array Value} (hr : vx_Run p l e R s m args below meth c H locs cells slots mc' ms' (F0 m pc ls st0) rest (jQ E A post av) (jX E A px) A) (hS : va_S A s.heap H locs) (hl : lv_has ls nL lv)
    (kx : ∀ En w, px En w → jXJ p l e R s m args below meth c E A nL Q (cells + mc') (slots + ms') pc lv rest En w) (kk : ∀ v w, post v w → jJ p l e R s m args below meth c E A nL Q (cells + mc') (slots + ms') (pc + 3) lv (v.toList ++ rest) w) : W p l e R s m args below meth c H locs cells slots Q (F0 m pc ls st0) := by
  intro T hT X
  rcases hr T hT X with ⟨v, st₀, t, T', L, h0, X', hL, e1, e2, ⟨⟨v', w, hv, hp, hP, hD⟩, hF⟩, st⟩ | ⟨q, st₀, t, T', L, En, ce, h0, X', hL, e1, e2, ⟨⟨w, hp, hP, hD⟩, hF⟩, hce, hcv, hcl, st⟩
  · cases hv
    obtain ⟨k1, k2, k3⟩ := vx_keep h0 e1 hS (fun _ _ h => h) (fun _ h => h) hL hF
    obtain ⟨t2, a1, b1⟩ := kk v w hp T'.heap (locs ++ L) ls (by rw [e1]; exact hP) hD k3 hl T' rfl X'
    exact ⟨t2, st t2 a1, b1⟩
  · obtain ⟨k1, k2, k3⟩ := vx_keep h0 e1 hS (fun _ _ h => h) (fun _ h => h) hL hF
    obtain ⟨t2, a1, b1⟩ := kx En w hp T'.heap (locs ++ L) ls ce q (by rw [e1]; exact hP) hD k3 hl (by rw [e1]; exact hce) hcv hcl T' rfl X'
    exact ⟨t2, st.trans a1, b1⟩
theorem j_runR {H : Heap} {locs : List Loc} {ls : Array Slot} {st0 : List Value} {av : Array Value} (hr : va_Run p l e R s m args below meth c H locs cells slots mc' ms' (F0 m pc ls st0) rest (jQ E A post av) A) (hS : va_S A s.heap H locs) (hl : lv_has ls nL lv)
    (kk : ∀ v w, post v w → jJ p l e R s m args below meth c E A nL Q (cells + mc') (slots + ms') (pc + 3) lv (v.toList ++ rest) w) : W p l e R s m args below meth c H locs cells slots Q (F0 m pc ls st0) := by
  intro T hT X
  obtain ⟨v, st₀, t, T', L, h0, X', hL, e1, e2, ⟨⟨v', w, hv, hp, hP, hD⟩, hF⟩, st⟩ := hr T hT X
  cases hv
  obtain ⟨k1, k2, k3⟩ := vx_keep h0 e1 hS (fun _ _ h => h) (fun _ h => h) hL hF
  obtain ⟨t2, a1, b1⟩ := kk v w hp T'.heap (locs ++ L) ls (by rw [e1]; exact hP) hD k3 hl T' rfl X'
  exact ⟨t2, st t2 a1, b1⟩
/-- invokevirtual -/
theorem j_callV (C : jC p l e R s m args below meth c y cc nL ret d mc ms E A) {a q0 ci : Nat} {fs : List Value} {T : u_T} {N : Nat} (hM : jMet l y' b' nL' ret' d' mc' ms' E A (.ref a :: As) ws post px) (ok : jVokV y' b' nL' ret' n) (hl : Cond.methodLink y.cls i y' ∈ jTg) (hd : d' < d) (hn : As.length = n) (hst : st = As.reverse ++ .ref a :: rest) (hcat : (rest.map fun v => v.category).sum ≤ 8) (he : ws[q0]? = some (a, .inr (ci, fs))) (hc : vwCl[ci]? = some (y'.cls, T, N)) (hb : cells + mc' ≤ mc ∧ slots + ms' ≤ ms) (hdec : decode cc pc = .ok (.invokevirtual i, 3))
    (kx : ∀ En w, px En w → jXJ p l e R s m args below meth c E A nL Q (cells + mc') (slots + ms') pc lv rest En w) (kk : ∀ v w, post v w → jJ p l e R s m args below meth c E A nL Q (cells + mc') (slots + ms') (pc + 3) lv (v.toList ++ rest) w) : jJ p l e R s m args below meth c E A nL Q cells slots pc lv st ws := by
  intro H locs ls hP hD hS hlv
  have hR := C.2.2.2.2.2.2.2.2.2.2.1
  have hts := C.2.2.2.2.1
  refine j_run (vx_runV (As := As) (rest := rest) (C := y'.cls) (b := a) ⟨C.1, C.2.1, C.2.2.1, C.2.2.2.1, hts⟩ hM ⟨j_CB C ok.1 hl hd, hts _ ok.2.1, hts _ ok.2.2⟩ ⟨jPre.blind, va_recv C.2.2.2.2.2.2.2.2.1.1.1 hP hc he, j_pre C hP hD hS⟩ rfl hn hlv.1 hst (lv_room hcat) hdec (by rw [hR]; exact hb)) hS hlv kx kk
/-- invokestatic -/
theorem j_callS (C : jC p l e R s m args below meth c y cc nL ret d mc ms E A) (hM : jMet l y' b' nL' ret' d' mc' ms' E A As ws post px) (ok : jVokS y' b' nL' ret' n) (hl : Cond.methodLink y.cls i y' ∈ jTg) (hd : d' < d) (hn : As.length = n) (hst : st = As.reverse ++ rest) (hcat : (rest.map fun v => v.category).sum ≤ 8) (hb : cells + mc' ≤ mc ∧ slots + ms' ≤ ms) (hdec : decode cc pc = .ok (.invokestatic i, 3))
    (kx : ∀ En w, px En w → jXJ p l e R s m args below meth c E A nL Q (cells + mc') (slots + ms') pc lv rest En w) (kk : ∀ v w, post v w → jJ p l e R s m args below meth c E A nL Q (cells + mc') (slots + ms') (pc + 3) lv (v.toList ++ rest) w) : jJ p l e R s m args below meth c E A nL Q cells slots pc lv st ws := by
  intro H locs ls hP hD hS hlv
  have hR := C.2.2.2.2.2.2.2.2.2.2.1
  have hts := C.2.2.2.2.1
  refine j_run (vx_runS (As := As) (rest := rest) ⟨C.1, C.2.1, C.2.2.1, C.2.2.2.1, hts⟩ hM ⟨j_CB C ok.1 hl hd, hts _ ok.2⟩ ⟨jPre.blind, j_pre C hP hD hS⟩ rfl hn hlv.1 hst (lv_room hcat) hdec (by rw [hR]; exact hb)) hS hlv kx kk
/-- invokespecial of a constructor, by an ordinary link -/
theorem j_callI (C : jC p l e R s m args below meth c y cc nL ret d mc ms E A) {a : Nat} (hM : jMet l y' b' nL' none d' mc' ms' E A (.ref a :: As) ws post jNo) (ok : jVokI y' b' nL' n) (hl : Cond.methodLink y.cls i y' ∈ jTg) (hd : d' < d) (hn : As.length = n) (hst : st = As.reverse ++ .ref a :: rest) (hcat : (rest.map fun v => v.category).sum ≤ 8) (hb : cells + mc' ≤ mc ∧ slots + ms' ≤ ms) (hdec : decode cc pc = .ok (.invokespecial i, 3))
    (kk : ∀ v w, post v w → jJ p l e R s m args below meth c E A nL Q (cells + mc') (slots + ms') (pc + 3) lv (v.toList ++ rest) w) : jJ p l e R s m args below meth c E A nL Q cells slots pc lv st ws := by
  intro H locs ls hP hD hS hlv
  have hR := C.2.2.2.2.2.2.2.2.2.2.1
  have hts := C.2.2.2.2.1
  refine j_runR (va_runI (As := As) (rest := rest) (b := a) ⟨C.1, C.2.1, C.2.2.1, C.2.2.2.1, hts⟩ hM.met ⟨j_CB C ok.1 hl hd, ok.2.1, hts _ ok.2.2⟩ ⟨jPre.blind, j_pre C hP hD hS⟩ rfl hn hlv.1 hst (lv_room hcat) hdec (by rw [hR]; exact hb)) hS hlv kk
/-- .. by the link of nest mates -/
theorem j_callIN (C : jC p l e R s m args below meth c y cc nL ret d mc ms E A) {a : Nat} {host : String} (hM : jMet l y' b' nL' none d' mc' ms' E A (.ref a :: As) ws post jNo) (ok : jVokI y' b' nL' n) (hl : (y.cls, i, y', host) ∈ jNestM) (hd : d' < d) (hn : As.length = n) (hst : st = As.reverse ++ .ref a :: rest) (hcat : (rest.map fun v => v.category).sum ≤ 8) (hb : cells + mc' ≤ mc ∧ slots + ms' ≤ ms) (hdec : decode cc pc = .ok (.invokespecial i, 3))
    (kk : ∀ v w, post v w → jJ p l e R s m args below meth c E A nL Q (cells + mc') (slots + ms') (pc + 3) lv (v.toList ++ rest) w) : jJ p l e R s m args below meth c E A nL Q cells slots pc lv st ws := by
  intro H locs ls hP hD hS hlv
  have hR := C.2.2.2.2.2.2.2.2.2.2.1
  have hts := C.2.2.2.2.1
  obtain ⟨h1, h2, h3, h4, h5⟩ := ok.1
  have hnw := C.2.2.2.2.2.2.2.2.1.2.2.2.2.2.2.2.2.2.1 _ hl
  refine j_runR (va_runIN (As := As) (rest := rest) (b := a) (host := host) (own := y.cls) (n := n) ⟨C.1, C.2.1, C.2.2.1, C.2.2.2.1, hts⟩ hM.met ⟨⟨⟨rfl, rfl, ?_, ?_, j_pay hts h1, List.mem_cons_self⟩, hts _ h1, hts _ h2, h3, fun sig h => ?_, va_Nw.use rfl hnw⟩, ok.2.1, hts _ ok.2.2⟩ ⟨jPre.blind, j_pre C hP hD hS⟩ rfl hn hlv.1 hst (lv_room hcat) hdec (by rw [hR]; exact hb)) hS hlv kk
  · rw [hR]
    show d' + 6 + 1 ≤ d + 6
    omega
  · rw [hR]
    show 8 + (nL' + 11) + (40 * d' + 100) ≤ 40 * d + 100
    omega
  · rw [h] at h4
    exact (Option.some.inj h4).symm
/-- exact answers -/
theorem j_callVr (C : jC p l e R s m args below meth c y cc nL ret d mc ms E A) {a ci : Nat} {fs : List Value} {T : u_T} {N : Nat} {v : Value} {w : va_W} (q0 : Nat) (hM : jMet l y' b' nL' ret' d' mc' ms' E A (.ref a :: As) ws (jR (some v) w) jNo) (ok : jVokV y' b' nL' ret' n) (hl : Cond.methodLink y.cls i y' ∈ jTg) (hd : d' < d) (hn : As.length = n) (hst : st = As.reverse ++ .ref a :: rest) (hcat : (rest.map fun v => v.category).sum ≤ 8) (he : ws[q0]? = some (a, .inr (ci, fs))) (hc : vwCl[ci]? = some (y'.cls, T, N)) (hb : cells + mc' ≤ mc ∧ slots + ms' ≤ ms) (hdec : decode cc pc = .ok (.invokevirtual i, 3))
    (kk : jJ p l e R s m args below meth c E A nL Q (cells + mc') (slots + ms') (pc + 3) lv (v :: rest) w) : jJ p l e R s m args below meth c E A nL Q cells slots pc lv st ws :=
  j_callV C hM ok hl hd hn hst hcat he hc hb hdec (fun _ _ h => h.elim) (fun _ _ h => by obtain ⟨h1, h2⟩ := h; subst h1; subst h2; exact kk)
theorem j_callVv (C : jC p l e R s m args below meth c y cc nL ret d mc ms E A) {a ci : Nat} {fs : List Value} {T : u_T} {N : Nat} {w : va_W} (q0 : Nat) (hM : jMet l y' b' nL' ret' d' mc' ms' E A (.ref a :: As) ws (jR none w) jNo) (ok : jVokV y' b' nL' ret' n) (hl : Cond.methodLink y.cls i y' ∈ jTg) (hd : d' < d) (hn : As.length = n) (hst : st = As.reverse ++ .ref a :: rest) (hcat : (rest.map fun v => v.category).sum ≤ 8) (he : ws[q0]? = some (a, .inr (ci, fs))) (hc : vwCl[ci]? = some (y'.cls, T, N)) (hb : cells + mc' ≤ mc ∧ slots + ms' ≤ ms) (hdec : decode cc pc = .ok (.invokevirtual i, 3))
    (kk : jJ p l e R s m args below meth c E A nL Q (cells + mc') (slots + ms') (pc + 3) lv rest w) : jJ p l e R s m args below meth c E A nL Q cells slots pc lv st ws :=
  j_callV C hM ok hl hd hn hst hcat he hc hb hdec (fun _ _ h => h.elim) (fun _ _ h => by obtain ⟨h1, h2⟩ := h; subst h1; subst h2; exact kk)
theorem j_callVx (C : jC p l e R s m args below meth c y cc nL ret d mc ms E A) {a ci : Nat} {fs : List Value} {T : u_T} {N : Nat} {En : String} {w : va_W} (q0 : Nat) (hM : jMet l y' b' nL' ret' d' mc' ms' E A (.ref a :: As) ws jNv (jT En w)) (ok : jVokV y' b' nL' ret' n) (hl : Cond.methodLink y.cls i y' ∈ jTg) (hd : d' < d) (hn : As.length = n) (hst : st = As.reverse ++ .ref a :: rest) (hcat : (rest.map fun v => v.category).sum ≤ 8) (he : ws[q0]? = some (a, .inr (ci, fs))) (hc : vwCl[ci]? = some (y'.cls, T, N)) (hb : cells + mc' ≤ mc ∧ slots + ms' ≤ ms) (hdec : decode cc pc = .ok (.invokevirtual i, 3))
    (kx : jXJ p l e R s m args below meth c E A nL Q (cells + mc') (slots + ms') pc lv rest En w) : jJ p l e R s m args below meth c E A nL Q cells slots pc lv st ws :=
  j_callV C hM ok hl hd hn hst hcat he hc hb hdec (fun _ _ h => by obtain ⟨h1, h2⟩ := h; subst h1; subst h2; exact kx) (fun _ _ h => h.elim)
theorem j_callSr (C : jC p l e R s m args below meth c y cc nL ret d mc ms E A) {v : Value} {w : va_W} (hM : jMet l y' b' nL' ret' d' mc' ms' E A As ws (jR (some v) w) jNo) (ok : jVokS y' b' nL' ret' n) (hl : Cond.methodLink y.cls i y' ∈ jTg) (hd : d' < d) (hn : As.length = n) (hst : st = As.reverse ++ rest) (hcat : (rest.map fun v => v.category).sum ≤ 8) (hb : cells + mc' ≤ mc ∧ slots + ms' ≤ ms) (hdec : decode cc pc = .ok (.invokestatic i, 3))
    (kk : jJ p l e R s m args below meth c E A nL Q (cells + mc') (slots + ms') (pc + 3) lv (v :: rest) w) : jJ p l e R s m args below meth c E A nL Q cells slots pc lv st ws :=
  j_callS C hM ok hl hd hn hst hcat hb hdec (fun _ _ h => h.elim) (fun _ _ h => by obtain ⟨h1, h2⟩ := h; subst h1; subst h2; exact kk)
theorem j_callSv (C : jC p l e R s m args below meth c y cc nL ret d mc ms E A) {w : va_W} (hM : jMet l y' b' nL' ret' d' mc' ms' E A As ws (jR none w) jNo) (ok : jVokS y' b' nL' ret' n) (hl : Cond.methodLink y.cls i y' ∈ jTg) (hd : d' < d) (hn : As.length = n) (hst : st = As.reverse ++ rest) (hcat : (rest.map fun v => v.category).sum ≤ 8) (hb : cells + mc' ≤ mc ∧ slots + ms' ≤ ms) (hdec : decode cc pc = .ok (.invokestatic i, 3))
    (kk : jJ p l e R s m args below meth c E A nL Q (cells + mc') (slots + ms') (pc + 3) lv rest w) : jJ p l e R s m args below meth c E A nL Q cells slots pc lv st ws :=
  j_callS C hM ok hl hd hn hst hcat hb hdec (fun _ _ h => h.elim) (fun _ _ h => by obtain ⟨h1, h2⟩ := h; subst h1; subst h2; exact kk)
theorem j_callSx (C : jC p l e R s m args below meth c y cc nL ret d mc ms E A) {En : String} {w : va_W} (hM : jMet l y' b' nL' ret' d' mc' ms' E A As ws jNv (jT En w)) (ok : jVokS y' b' nL' ret' n) (hl : Cond.methodLink y.cls i y' ∈ jTg) (hd : d' < d) (hn : As.length = n) (hst : st = As.reverse ++ rest) (hcat : (rest.map fun v => v.category).sum ≤ 8) (hb : cells + mc' ≤ mc ∧ slots + ms' ≤ ms) (hdec : decode cc pc = .ok (.invokestatic i, 3))
    (kx : jXJ p l e R s m args below meth c E A nL Q (cells + mc') (slots + ms') pc lv rest En w) : jJ p l e R s m args below meth c E A nL Q cells slots pc lv st ws :=
  j_callS C hM ok hl hd hn hst hcat hb hdec (fun _ _ h => by obtain ⟨h1, h2⟩ := h; subst h1; subst h2; exact kx) (fun _ _ h => h.elim)
/-- ends -/
theorem j_iret (C : jC p l e R s m args below meth c y cc nL ret d mc ms E A) {v : Int32} (hr : ret = some .int) (hd : decode cc pc = .ok (.ireturn, 1)) (hb : cells ≤ mc ∧ slots ≤ ms) (hp : post (some (.int v)) ws) : jJ p l e R s m args below meth c E A nL (vx_MQ below (jQ E A post) (jX E A px) args s mc ms A) cells slots pc lv [.int v] ws :=
  fun _ _ _ hP hD hS _ => vx_ret (W.widen hb.1 hb.2 (W.iret (hlocks := C.2.2.2.2.2.2.1) C.1 C.2.1 (C.2.2.2.2.2.1.trans hr) (fun t ht _ => ⟨⟨_, ws, rfl, hp, by rw [ht]; exact hP, hD⟩, hS.F ht⟩) hS.2.2 hd))
theorem j_zret (C : jC p l e R s m args below meth c y cc nL ret d mc ms E A) {v : Int32} (hr : ret = some .boolean) (hn : narrow .boolean (.int v) = .int v) (hd : decode cc pc = .ok (.ireturn, 1)) (hb : cells ≤ mc ∧ slots ≤ ms) (hp : post (some (.int v)) ws) : jJ p l e R s m args below meth c E A nL (vx_MQ below (jQ E A post) (jX E A px) args s mc ms A) cells slots pc lv [.int v] ws :=
  fun _ _ _ hP hD hS _ => vx_ret (W.widen hb.1 hb.2 (W.zret (hlocks := C.2.2.2.2.2.2.1) C.1 C.2.1 (C.2.2.2.2.2.1.trans hr) hn (fun t ht _ => ⟨⟨_, ws, rfl, hp, by rw [ht]; exact hP, hD⟩, hS.F ht⟩) hS.2.2 hd))
theorem j_lret (C : jC p l e R s m args below meth c y cc nL ret d mc ms E A) {v : Int64} (hr : ret = some .long) (hd : decode cc pc = .ok (.lreturn, 1)) (hb : cells ≤ mc ∧ slots ≤ ms) (hp : post (some (.long v)) ws) : jJ p l e R s m args below meth c E A nL (vx_MQ below (jQ E A post) (jX E A px) args s mc ms A) cells slots pc lv [.long v] ws :=
  fun _ _ _ hP hD hS _ => vx_ret (W.widen hb.1 hb.2 (W.lret (hlocks := C.2.2.2.2.2.2.1) C.1 C.2.1 (C.2.2.2.2.2.1.trans hr) (fun t ht _ => ⟨⟨_, ws, rfl, hp, by rw [ht]; exact hP, hD⟩, hS.F ht⟩) hS.2.2 hd))
theorem j_vret (C : jC p l e R s m args below meth c y cc nL ret d mc ms E A) (hr : ret = none) (hd : decode cc pc = .ok (.return_, 1)) (hb : cells ≤ mc ∧ slots ≤ ms) (hp : post none ws) : jJ p l e R s m args below meth c E A nL (vx_MQ below (jQ E A post) (jX E A px) args s mc ms A) cells slots pc lv [] ws :=
  fun _ _ _ hP hD hS _ => vx_ret (W.widen hb.1 hb.2 (W.vret (hlocks := C.2.2.2.2.2.2.1) C.1 C.2.1 (C.2.2.2.2.2.1.trans hr) (fun t ht _ => ⟨⟨_, ws, rfl, hp, by rw [ht]; exact hP, hD⟩, hS.F ht⟩) hS.2.2 hd))
theorem j_aret (C : jC p l e R s m args below meth c y cc nL ret d mc ms E A) {a : Nat} {rt : FieldType} (hr : ret = some rt) (hrt : (∃ n, rt = .object n) ∨ ∃ t, rt = .array t) (hd : decode cc pc = .ok (.areturn, 1)) (hb : cells ≤ mc ∧ slots ≤ ms) (hp : post (some (.ref a)) ws) : jJ p l e R s m args below meth c E A nL (vx_MQ below (jQ E A post) (jX E A px) args s mc ms A) cells slots pc lv [.ref a] ws :=
  fun _ _ _ hP hD hS _ => vx_ret (W.widen hb.1 hb.2 (W.aret (hlocks := C.2.2.2.2.2.2.1) C.1 C.2.1 (C.2.2.2.2.2.1.trans hr) hrt (Or.inr ⟨a, rfl⟩) (fun t ht _ => ⟨⟨_, ws, rfl, hp, by rw [ht]; exact hP, hD⟩, hS.F ht⟩) hS.2.2 hd))
/-- an exception goes on to the caller -/
theorem j_xout (C : jC p l e R s m args below meth c y cc nL ret d mc ms E A) {En : String} (hb : cells ≤ mc ∧ slots ≤ ms) (hp : px En ws) : jXJ p l e R s m args below meth c E A nL (vx_MQ below (jQ E A post) (jX E A px) args s mc ms A) cells slots pc lv rest En ws :=
  fun _ _ _ _ _ hP hD hS _ hce hcv hcl => vx_out (fun x hx => (C.2.2.2.2.2.2.2.1 x hx).elim) C.2.2.2.2.2.2.1 hce hcv hcl (fun t ht _ => ⟨⟨ws, hp, by rw [ht]; exact hP, hD⟩, hS.F ht⟩) hS.2.2 hb.1 hb.2
/-- throw new En("text") -/
theorem j_throwS (hl : l.stackTraces = false) (C : jC p l e R s m args below meth c y cc nL ret d mc ms E A) {En text : String} {ik is ic : Nat} (hin : ∀ w ∈ (vx_atS y.cls ic En ["java/lang/RuntimeException", "java/lang/Exception"]).filter goodWord, w ∈ jTg) (hbad : ∀ w ∈ (vx_atS y.cls ic En ["java/lang/RuntimeException", "java/lang/Exception"]).filter (fun w => !goodWord w), w ∈ [Cond.castable En En]) (hcast : (En, En) ∈ jCast) (hfit : Bundle.fit En = true)
    (hgood : ∀ w ∈ Cond.classLink y.cls ik En :: Cond.initialized En :: vx_atS y.cls ic En ["java/lang/RuntimeException", "java/lang/Exception"], vx_ot w = true)
    (hk : Cond.classLink y.cls ik En ∈ jTg) (hini : Cond.initialized En ∈ jTg) (hstr : (y.cls, is, text) ∈ jStr)
    (d0 : decode cc pc = .ok (.new ik, 3)) (d3 : decode cc (pc + 3) = .ok (.dup, 1)) (d4 : decode cc (pc + 4) = .ok (.ldc is, 2)) (d6 : decode cc (pc + 6) = .ok (.invokespecial ic, 3)) (d9 : decode cc (pc + 9) = .ok (.athrow, 1)) (hcat : (rest.map fun v => v.category).sum ≤ 8) (hb : cells + 1 ≤ mc ∧ slots + 6 ≤ ms) (hp : px En ws) :
    jJ p l e R s m args below meth c E A nL (vx_MQ below (jQ E A post) (jX E A px) args s mc ms A) cells slots pc lv rest ws := by
  intro H locs ls hP hD hS hlv
  obtain ⟨hx, hbb, hml, hown, hts, -, hlocks, htab, hG, hA, hR, -⟩ := C
  obtain ⟨-, hU, hN, -, -, hst, hca, -⟩ := hG
  obtain ⟨sa, hsa⟩ := hst _ hstr
  refine vx_throwS hx hbb hl hown hfit (by decide) (hts _ hk) (hts _ hini) hsa (vx_hat (fun w hw => hts _ (hin w hw)) hbad (fun w hw => ?_)) hgood hU hN hS (hlv.1.trans hml.symm) d0 d3 d4 d6 d9 (fun x hx => (htab x hx).elim) ?_ ?_ ?_ ?_ hlocks (fun t _ h1 h2 => ⟨⟨ws, hp, fun k q hq => (hP k q hq).kept (h2 q.1 (hP k q hq).lt), hD⟩, Nat.le_trans hS.1 h1, fun q h3 h4 => by rw [h2 q (Nat.lt_of_lt_of_le h3 hS.1)]; exact hS.2.1 q h3 h4⟩) hS.2.2 hb.1 hb.2
  · obtain rfl := List.mem_singleton.mp hw
    exact va_Nw.use rfl (hca _ hcast)
  · rw [hR]
    show 2 + 3 < d + 6
    omega
  · rw [hR]
    show _ + (13 * (2 + 1) + 43) ≤ 40 * d + 100
    omega
  · rw [hR]; exact hb.1
  · rw [hR]; exact hb.2
end JCL
end
