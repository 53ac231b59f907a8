section
-- ===== PART A: goes FIRST, ahead of the names: the tables' words, and 'selects' of the private methods out of them =====
/-- a private method of a class that the tables say can be made, by its rows of tables_1 -/
def lw_okq (q : MethodName × Nat) : Prop := (q.1.cls ≠ "java/lang/invoke/MethodHandle" ∧ q.1.cls ≠ "java/lang/invoke/VarHandle") ∧ Cond.instantiable q.1.cls q.2 ∈ tables_1 ∧ Cond.privateMethod q.1 ∈ tables_1 ∧ Cond.instanceMethod q.1 ∈ tables_1
theorem lw_p0 : lw_okq (⟨"DiffDesk$Comparison", "restAt", "(II)I"⟩, 3) := ⟨⟨by decide +kernel, by decide +kernel⟩, List.mem_of_getElem? (i := 73) (by decide +kernel), List.mem_of_getElem? (i := 240) (by decide +kernel), List.mem_of_getElem? (i := 241) (by decide +kernel)⟩
theorem lw_p1 : lw_okq (⟨"DiffDesk$Comparison", "isSame", "(II)Z"⟩, 3) := ⟨⟨by decide +kernel, by decide +kernel⟩, List.mem_of_getElem? (i := 73) (by decide +kernel), List.mem_of_getElem? (i := 244) (by decide +kernel), List.mem_of_getElem? (i := 245) (by decide +kernel)⟩
theorem lw_p2 : lw_okq (⟨"DiffDesk$Comparison", "stepAt", "(II)I"⟩, 3) := ⟨⟨by decide +kernel, by decide +kernel⟩, List.mem_of_getElem? (i := 73) (by decide +kernel), List.mem_of_getElem? (i := 254) (by decide +kernel), List.mem_of_getElem? (i := 255) (by decide +kernel)⟩
theorem lw_p3 : lw_okq (⟨"DiffDesk$Merger", "isStable", "(I)Z"⟩, 8) := ⟨⟨by decide +kernel, by decide +kernel⟩, List.mem_of_getElem? (i := 93) (by decide +kernel), List.mem_of_getElem? (i := 263) (by decide +kernel), List.mem_of_getElem? (i := 264) (by decide +kernel)⟩
theorem lw_p4 : lw_okq (⟨"DiffDesk$Merger", "endStretches", "(III)V"⟩, 8) := ⟨⟨by decide +kernel, by decide +kernel⟩, List.mem_of_getElem? (i := 93) (by decide +kernel), List.mem_of_getElem? (i := 268) (by decide +kernel), List.mem_of_getElem? (i := 269) (by decide +kernel)⟩
theorem lw_p5 : lw_okq (⟨"DiffDesk$Merger", "mergeStretch", "(LDiffDesk$Row;)I"⟩, 8) := ⟨⟨by decide +kernel, by decide +kernel⟩, List.mem_of_getElem? (i := 93) (by decide +kernel), List.mem_of_getElem? (i := 276) (by decide +kernel), List.mem_of_getElem? (i := 277) (by decide +kernel)⟩
theorem lw_p6 : lw_okq (⟨"DiffDesk$Merger", "goOnBehindStable", "()V"⟩, 8) := ⟨⟨by decide +kernel, by decide +kernel⟩, List.mem_of_getElem? (i := 93) (by decide +kernel), List.mem_of_getElem? (i := 296) (by decide +kernel), List.mem_of_getElem? (i := 297) (by decide +kernel)⟩
theorem lw_p7 : lw_okq (⟨"java/lang/Throwable", "fillInStackTrace", "(I)Ljava/lang/Throwable;"⟩, 6) := ⟨⟨by decide +kernel, by decide +kernel⟩, List.mem_of_getElem? (i := 413) (by decide +kernel), List.mem_of_getElem? (i := 411) (by decide +kernel), List.mem_of_getElem? (i := 412) (by decide +kernel)⟩
theorem lw_p8 : lw_okq (⟨"DiffDesk", "checkOperation", "(LDiffDesk$Row;I)V"⟩, 9) := ⟨⟨by decide +kernel, by decide +kernel⟩, List.mem_of_getElem? (i := 17) (by decide +kernel), List.mem_of_getElem? (i := 475) (by decide +kernel), List.mem_of_getElem? (i := 476) (by decide +kernel)⟩
theorem lw_p9 : lw_okq (⟨"DiffDesk", "checkRoom", "(I)V"⟩, 9) := ⟨⟨by decide +kernel, by decide +kernel⟩, List.mem_of_getElem? (i := 17) (by decide +kernel), List.mem_of_getElem? (i := 497) (by decide +kernel), List.mem_of_getElem? (i := 498) (by decide +kernel)⟩
theorem lw_p10 : lw_okq (⟨"DiffDesk", "swapResultAndDraft", "()V"⟩, 9) := ⟨⟨by decide +kernel, by decide +kernel⟩, List.mem_of_getElem? (i := 17) (by decide +kernel), List.mem_of_getElem? (i := 518) (by decide +kernel), List.mem_of_getElem? (i := 519) (by decide +kernel)⟩
theorem lw_p11 : lw_okq (⟨"DiffDeskModel", "fill", "(II)V"⟩, 19) := ⟨⟨by decide +kernel, by decide +kernel⟩, List.mem_of_getElem? (i := 522) (by decide +kernel), List.mem_of_getElem? (i := 613) (by decide +kernel), List.mem_of_getElem? (i := 614) (by decide +kernel)⟩
theorem lw_p12 : lw_okq (⟨"DiffDeskModel", "same", "(IIII)Z"⟩, 19) := ⟨⟨by decide +kernel, by decide +kernel⟩, List.mem_of_getElem? (i := 522) (by decide +kernel), List.mem_of_getElem? (i := 617) (by decide +kernel), List.mem_of_getElem? (i := 618) (by decide +kernel)⟩
theorem lw_p13 : lw_okq (⟨"DiffDeskModel", "deletes", "(III)Z"⟩, 19) := ⟨⟨by decide +kernel, by decide +kernel⟩, List.mem_of_getElem? (i := 522) (by decide +kernel), List.mem_of_getElem? (i := 621) (by decide +kernel), List.mem_of_getElem? (i := 622) (by decide +kernel)⟩
theorem lw_p14 : lw_okq (⟨"DiffDeskModel", "put", "(III)V"⟩, 19) := ⟨⟨by decide +kernel, by decide +kernel⟩, List.mem_of_getElem? (i := 522) (by decide +kernel), List.mem_of_getElem? (i := 625) (by decide +kernel), List.mem_of_getElem? (i := 626) (by decide +kernel)⟩
theorem lw_p15 : lw_okq (⟨"DiffDeskModel", "wrong", "(I)I"⟩, 19) := ⟨⟨by decide +kernel, by decide +kernel⟩, List.mem_of_getElem? (i := 522) (by decide +kernel), List.mem_of_getElem? (i := 645) (by decide +kernel), List.mem_of_getElem? (i := 646) (by decide +kernel)⟩
def lw_privs_1 : List (MethodName × Nat) := [(⟨"DiffDesk$Comparison", "restAt", "(II)I"⟩, 3), (⟨"DiffDesk$Comparison", "isSame", "(II)Z"⟩, 3), (⟨"DiffDesk$Comparison", "stepAt", "(II)I"⟩, 3), (⟨"DiffDesk$Merger", "isStable", "(I)Z"⟩, 8), (⟨"DiffDesk$Merger", "endStretches", "(III)V"⟩, 8), (⟨"DiffDesk$Merger", "mergeStretch", "(LDiffDesk$Row;)I"⟩, 8), (⟨"DiffDesk$Merger", "goOnBehindStable", "()V"⟩, 8), (⟨"java/lang/Throwable", "fillInStackTrace", "(I)Ljava/lang/Throwable;"⟩, 6), (⟨"DiffDesk", "checkOperation", "(LDiffDesk$Row;I)V"⟩, 9), (⟨"DiffDesk", "checkRoom", "(I)V"⟩, 9), (⟨"DiffDesk", "swapResultAndDraft", "()V"⟩, 9), (⟨"DiffDeskModel", "fill", "(II)V"⟩, 19), (⟨"DiffDeskModel", "same", "(IIII)Z"⟩, 19), (⟨"DiffDeskModel", "deletes", "(III)Z"⟩, 19), (⟨"DiffDeskModel", "put", "(III)V"⟩, 19), (⟨"DiffDeskModel", "wrong", "(I)I"⟩, 19)]
theorem lw_r1 : ∀ q ∈ lw_privs_1, lw_okq q := List.forall_mem_cons.mpr ⟨lw_p0, List.forall_mem_cons.mpr ⟨lw_p1, List.forall_mem_cons.mpr ⟨lw_p2, List.forall_mem_cons.mpr ⟨lw_p3, List.forall_mem_cons.mpr ⟨lw_p4, List.forall_mem_cons.mpr ⟨lw_p5, List.forall_mem_cons.mpr ⟨lw_p6, List.forall_mem_cons.mpr ⟨lw_p7, List.forall_mem_cons.mpr ⟨lw_p8, List.forall_mem_cons.mpr ⟨lw_p9, List.forall_mem_cons.mpr ⟨lw_p10, List.forall_mem_cons.mpr ⟨lw_p11, List.forall_mem_cons.mpr ⟨lw_p12, List.forall_mem_cons.mpr ⟨lw_p13, List.forall_mem_cons.mpr ⟨lw_p14, List.forall_mem_cons.mpr ⟨lw_p15, fun _ h => absurd h List.not_mem_nil⟩⟩⟩⟩⟩⟩⟩⟩⟩⟩⟩⟩⟩⟩⟩⟩
theorem lw_p16 : lw_okq (⟨"DiffDeskModel", "trouble", "(IIII)I"⟩, 19) := ⟨⟨by decide +kernel, by decide +kernel⟩, List.mem_of_getElem? (i := 522) (by decide +kernel), List.mem_of_getElem? (i := 649) (by decide +kernel), List.mem_of_getElem? (i := 650) (by decide +kernel)⟩
theorem lw_p17 : lw_okq (⟨"DiffDeskModel", "take", "(I)V"⟩, 19) := ⟨⟨by decide +kernel, by decide +kernel⟩, List.mem_of_getElem? (i := 522) (by decide +kernel), List.mem_of_getElem? (i := 653) (by decide +kernel), List.mem_of_getElem? (i := 654) (by decide +kernel)⟩
theorem lw_p18 : lw_okq (⟨"DiffDeskModel", "keep", "(I[I)V"⟩, 19) := ⟨⟨by decide +kernel, by decide +kernel⟩, List.mem_of_getElem? (i := 522) (by decide +kernel), List.mem_of_getElem? (i := 661) (by decide +kernel), List.mem_of_getElem? (i := 662) (by decide +kernel)⟩
theorem lw_p19 : lw_okq (⟨"DiffDeskModel", "between", "(IIIIII)I"⟩, 19) := ⟨⟨by decide +kernel, by decide +kernel⟩, List.mem_of_getElem? (i := 522) (by decide +kernel), List.mem_of_getElem? (i := 665) (by decide +kernel), List.mem_of_getElem? (i := 666) (by decide +kernel)⟩
theorem lw_p20 : lw_okq (⟨"DiffDeskModel", "alikeParts", "(IIIIII)Z"⟩, 19) := ⟨⟨by decide +kernel, by decide +kernel⟩, List.mem_of_getElem? (i := 522) (by decide +kernel), List.mem_of_getElem? (i := 669) (by decide +kernel), List.mem_of_getElem? (i := 670) (by decide +kernel)⟩
theorem lw_p21 : lw_okq (⟨"DiffDeskModel", "copy", "(III)V"⟩, 19) := ⟨⟨by decide +kernel, by decide +kernel⟩, List.mem_of_getElem? (i := 522) (by decide +kernel), List.mem_of_getElem? (i := 673) (by decide +kernel), List.mem_of_getElem? (i := 674) (by decide +kernel)⟩
theorem lw_p22 : lw_okq (⟨"DiffDeskModel", "countHunks", "(I)I"⟩, 19) := ⟨⟨by decide +kernel, by decide +kernel⟩, List.mem_of_getElem? (i := 522) (by decide +kernel), List.mem_of_getElem? (i := 689) (by decide +kernel), List.mem_of_getElem? (i := 690) (by decide +kernel)⟩
theorem lw_p23 : lw_okq (⟨"DiffDeskModel", "together", "(II)Z"⟩, 19) := ⟨⟨by decide +kernel, by decide +kernel⟩, List.mem_of_getElem? (i := 522) (by decide +kernel), List.mem_of_getElem? (i := 693) (by decide +kernel), List.mem_of_getElem? (i := 694) (by decide +kernel)⟩
def lw_privs_2 : List (MethodName × Nat) := [(⟨"DiffDeskModel", "trouble", "(IIII)I"⟩, 19), (⟨"DiffDeskModel", "take", "(I)V"⟩, 19), (⟨"DiffDeskModel", "keep", "(I[I)V"⟩, 19), (⟨"DiffDeskModel", "between", "(IIIIII)I"⟩, 19), (⟨"DiffDeskModel", "alikeParts", "(IIIIII)Z"⟩, 19), (⟨"DiffDeskModel", "copy", "(III)V"⟩, 19), (⟨"DiffDeskModel", "countHunks", "(I)I"⟩, 19), (⟨"DiffDeskModel", "together", "(II)Z"⟩, 19)]
theorem lw_r2 : ∀ q ∈ lw_privs_2, lw_okq q := List.forall_mem_cons.mpr ⟨lw_p16, List.forall_mem_cons.mpr ⟨lw_p17, List.forall_mem_cons.mpr ⟨lw_p18, List.forall_mem_cons.mpr ⟨lw_p19, List.forall_mem_cons.mpr ⟨lw_p20, List.forall_mem_cons.mpr ⟨lw_p21, List.forall_mem_cons.mpr ⟨lw_p22, List.forall_mem_cons.mpr ⟨lw_p23, fun _ h => absurd h List.not_mem_nil⟩⟩⟩⟩⟩⟩⟩⟩
def lw_privs : List (MethodName × Nat) := lw_privs_1 ++ (lw_privs_2)
def lw_tbl : List Cond := k2_sels lw_privs ++ tables_1
theorem lw_privs_ok : ∀ q ∈ lw_privs, lw_okq q := by
  show ∀ q ∈ lw_privs_1 ++ (lw_privs_2), lw_okq q
  exact List.forall_mem_append.mpr ⟨lw_r1, lw_r2⟩
end
section
def va_AOA (ty : FieldType) (U : State) : Prop := (Cond.arrayOver (.array ty)).before #[] U = true
theorem va_AOA.of {ty : FieldType} {A : Array Value} {U : State} (h : (Cond.arrayOver (.array ty)).before A U = true) : va_AOA ty U := h
theorem va_AOA.use {ty : FieldType} {A : Array Value} {U : State} (h : va_AOA ty U) : (Cond.arrayOver (.array ty)).before A U = true := h
/-! ===== BEGIN words of one list among another's, by their places ===== -/
theorem goodIn_r {big : List Cond} (ws : List Cond) (ps : List Nat) (hp : ws = ps.filterMap (fun i => big[i]?)) (h : ws.all goodWord = true) : GoodIn big ws := by
  intro w hw
  have h1 := List.all_eq_true.mp h w hw
  rw [hp] at hw
  obtain ⟨i, -, hi⟩ := List.mem_filterMap.mp hw
  have hm : w ∈ big := by first | exact List.mem_of_getElem? hi | exact List.getElem?_mem hi
  exact ⟨hm, good_of_word h1⟩
theorem goodIn_app {big a b : List Cond} (ha : GoodIn big a) (hb : GoodIn big b) : GoodIn big (a ++ b) := fun w h => (List.mem_append.mp h).elim (ha w) (hb w)
theorem goodIn_ca {big a b : List Cond} {c : Cond} (ha : GoodIn big (c :: a)) (hb : GoodIn big b) : GoodIn big (c :: (a ++ b)) := fun w h => (List.mem_cons.mp h).elim (fun e => ha w (List.mem_cons.mpr (Or.inl e))) (fun h => (List.mem_append.mp h).elim (fun h => ha w (List.mem_cons.mpr (Or.inr h))) (hb w))
theorem goodIn_sub {big ws : List Cond} (hm : ∀ w ∈ ws, w ∈ big) (h : ws.all goodWord = true) : GoodIn big ws := fun w hw => ⟨hm w hw, good_of_word (List.all_eq_true.mp h w hw)⟩
/-! ===== END ===== -/

/-! ===== BEGIN new T[n][m]: the outer array a place, the inner ones among the pooled ===== -/
/-- f, but v at every address of l -/
def vr_up {α : Type} (f : Nat → α) (l : List Nat) (v : α) : Nat → α := fun a => if a ∈ l then v else f a
theorem vr_up_in {α : Type} {f : Nat → α} {l : List Nat} {v : α} {a : Nat} (h : a ∈ l) : vr_up f l v a = v := if_pos h
theorem vr_up_ne {α : Type} {f : Nat → α} {l : List Nat} {v : α} {a : Nat} (h : a ∉ l) : vr_up f l v a = f a := if_neg h
theorem vr_rows {L l : List Nat} {f : Nat → va_E} {e : va_E} (h : ∀ a, a ∈ l → a ∉ L) : va_pl L f ++ l.map (fun a => (a, e)) = va_pl (L ++ l) (vr_up f l e) := by
  unfold va_pl
  rw [List.map_append]
  congr 1
  · apply List.map_congr_left
    intro a ha
    rw [vr_up_ne (fun q => h a q ha)]
  · apply List.map_congr_left
    intro a ha
    rw [vr_up_in ha]
theorem vr_lay {X rows : va_W} {x : Nat × va_E} {pl : va_W} {D : va_G} {cl : List vw_C} {H : Heap} (hP : va_P D cl (((X ++ pl) ++ [x]) ++ rows) H) : va_P D cl ((X ++ [x]) ++ (pl ++ rows)) H := by
  rw [List.append_assoc (X ++ pl)] at hP
  have h := va_P.swap hP
  rw [← List.append_assoc X] at h
  have h2 := va_P.swap h
  rw [List.append_assoc (X ++ [x])] at h2
  exact h2
theorem vr_layD {X rows : va_W} {x : Nat × va_E} {pl : va_W} {A : Nat → Prop} (hD : va_D A (((X ++ pl) ++ [x]) ++ rows)) : va_D A ((X ++ [x]) ++ (pl ++ rows)) := by
  rw [List.append_assoc (X ++ pl)] at hD
  have h := va_D.swap hD
  rw [← List.append_assoc X] at h
  have h2 := va_D.swap h
  rw [List.append_assoc (X ++ [x])] at h2
  exact h2
theorem vr_outer (c : ClassId) (N h0 : Nat) : ∀ i : Nat, Jvm.Free.Multi.outerC c N h0 i = arrV c N (fun j => va_rf (if j < i then some (h0 + 1 + j) else none))
  | 0 => by
    show ({ cls := c, slots := Array.replicate N .null, vm := .none } : Cell) = _
    rw [arrV_new]
    refine congrArg (arrV c N) (funext fun j => ?_)
    simp [va_rf]
  | i + 1 => by
    show (Jvm.Free.Multi.outerC c N h0 i).setSlot i (.ref (h0 + 1 + i)) = _
    rw [vr_outer c N h0 i, arrV_store]
    refine congrArg (arrV c N) (funext fun j => ?_)
    by_cases e : j = i
    · subst e
      simp [updV, va_rf]
    · by_cases h : j < i
      · simp [updV, e, h, Nat.lt_succ_of_lt h]
      · simp [updV, e, h, show ¬ j < i + 1 by omega]
section VGM
variable {p : Program} {l : Launch} {e : Env} {R : Room} {s : State} {m : MethodId} {args : Array Value} {below : List Frame} {meth : Method} {c : Code} {H : Heap} {locs : List Loc} {cells slots : Nat} {Q : State → Prop}
variable {cc : ByteArray} {pc : Nat} {ls : Array Slot} {rest : List Value} {D : va_G} {cl : List vw_C} {A : Nat → Prop} {a : Nat} {tys : List (ClassId × FieldType)} {ws : va_W} {H0 : Heap}
theorem va_mna {X : va_W} {L : List Nat} {f : Nat → va_E} {cc : ByteArray} (hexec : p.tables.exec = Jvm.exec) (hb : c.code = cc) {own : String} {index : Nat} {ty : FieldType} {cy : ClassId} (hown : s.vm.findClass own = some m.cls) (hclink : (Cond.classLink own index ("[" ++ (FieldType.array ty).toString)).before args s = true) (hover : va_AOA ty s) (harr : (Cond.arrayClass ty).before args s = true) (hcy : s.vm.findClass (FieldType.array ty).toString = some cy)
    (hK : va_K D cl tys s) (hP : va_P D cl (X ++ va_pl L f) H) (hD : va_D A (X ++ va_pl L f)) (hS : va_S A H0 H locs) (hA : ∀ q, H0.size ≤ q → A q) {n k : Int32} {N' K' : Nat} {z : vp_A} (hn : ¬ n < 0) (hk : ¬ k < 0) (hN : n.toNatClampNeg = N') (hM : k.toNatClampNeg = K')
    (hb1 : N' * 4 ≤ 536870912) (hb2 : K' * componentBytes ty ≤ 536870912) (hb3 : K' ≤ 536870912) (hdf : fits ty (defaultValue ty) = true) (hdd : (defaultValue ty).isDefault = true) (hcells : cells + (1 + N') ≤ R.cells) (hslots : slots + (N' + N' * K') ≤ R.slots) (hz : ∀ c : ClassId, Jvm.Free.Multi.innerC c K' (defaultValue ty) = vp_cell c z) (hdg : decode cc pc = .ok (.multianewarray index 2, 4))
    (kk : ∀ (q : Nat) (r : Nat → Nat) (cA : ClassId) (H1 : Heap), (∀ i j : Nat, i < N' → j < N' → r i = r j → i = j) → (∀ i : Nat, i < N' → r i ∉ L) → va_K D cl (tys ++ [(cA, .array ty)]) s →
      va_P D cl ((X ++ [(q, .inl (cA, N', .inr (.inr (.inr (.inr (fun i => if i < N' then some (r i) else none))))))]) ++ va_pl (L ++ (List.range N').map r) (vr_up f ((List.range N').map r) (.inl (cy, z)))) H1 → va_D A ((X ++ [(q, .inl (cA, N', .inr (.inr (.inr (.inr (fun i => if i < N' then some (r i) else none))))))]) ++ va_pl (L ++ (List.range N').map r) (vr_up f ((List.range N').map r) (.inl (cy, z)))) → va_S A H0 H1 locs →
      W p l e R s m args below meth c H1 locs (cells + 1 + N') (slots + N' + N' * K') Q (F0 m (pc + 4) ls (.ref q :: rest))) : W p l e R s m args below meth c H locs cells slots Q (F0 m pc ls (.int k :: .int n :: rest)) := by
  subst hN
  subst hM
  intro T hT Xs
  obtain ⟨vm₁, cA, comp, -, fA, fC, hO, -, X', step⟩ := Xs.multianewarray2F hexec hown hclink (va_AOA.use hover) harr (g := F0 m pc ls (.int k :: .int n :: rest)) rfl (by rw [hb]; exact hdg) rfl hn hk hb1 hb2 hb3 hdf hdd hcells hslots
  have ec : some cy = some comp := hcy.symm.trans fC
  cases ec
  generalize hF : Jvm.Free.Multi.fill (T.setVm vm₁) cA cy n.toNatClampNeg k.toNatClampNeg (defaultValue ty) n.toNatClampNeg = F at X' step
  have hTh : (T.setVm vm₁).heap = H := hT
  obtain ⟨f1, f2, -, -⟩ := Jvm.Free.Multi.fill_facts (T.setVm vm₁) cA cy n.toNatClampNeg k.toNatClampNeg (defaultValue ty) n.toNatClampNeg
  rw [hF, hTh] at f1 f2
  have hold : ∀ x : Nat, x < H.size → F.heap[x]? = H[x]? := fun x hx => by
    have := Jvm.Free.Multi.fill_old (T.setVm vm₁) cA cy n.toNatClampNeg k.toNatClampNeg (defaultValue ty) (a := x) (by rw [hTh]; exact hx) n.toNatClampNeg
    rw [hF, hTh] at this
    exact this
  have hrow : ∀ j : Nat, j < n.toNatClampNeg → F.heap[H.size + 1 + j]? = some (vp_cell cy z) := fun j hj => by
    have := Jvm.Free.Multi.fill_inner (T.setVm vm₁) cA cy n.toNatClampNeg k.toNatClampNeg (defaultValue ty) n.toNatClampNeg j hj
    rw [hF, hTh, hz] at this
    exact this
  have hout : Jvm.Free.Multi.outerC cA n.toNatClampNeg H.size n.toNatClampNeg = vp_cell cA (n.toNatClampNeg, .inr (.inr (.inr (.inr (fun i => if i < n.toNatClampNeg then some (H.size + 1 + i) else none))))) := by
    rw [vp_cell_q]
    exact vr_outer cA n.toNatClampNeg H.size n.toNatClampNeg
  rw [hout] at f2
  have hlt : ∀ a, a ∈ L → a < H.size := fun a ha => by
    obtain ⟨k9, hk9⟩ := va_pl_get (X := X) (f := f) ha
    exact (hP k9 _ hk9).lt
  have hnl : ∀ i : Nat, i < n.toNatClampNeg → H.size + 1 + i ∉ L := fun i _ h => by
    have := hlt _ h
    omega
  have hnm : ∀ a, a ∈ (List.range n.toNatClampNeg).map (fun i => H.size + 1 + i) → a ∉ L := fun a ha h => by
    obtain ⟨i, -, rfl⟩ := List.mem_map.mp ha
    have := hlt _ h
    omega
  have hP0 : va_P D cl (X ++ va_pl L f) F.heap := hP.kept (fun k9 x hx => hold x.1 ((hP k9 x hx).lt))
  have hP1 : va_P D cl ((X ++ va_pl L f) ++ [(H.size, .inl (cA, n.toNatClampNeg, .inr (.inr (.inr (.inr (fun i => if i < n.toNatClampNeg then some (H.size + 1 + i) else none))))))]) F.heap := hP0.app (fun k9 x hx => by
    have h0 : k9 < 1 := (List.getElem?_eq_some_iff.mp hx).1
    rw [show k9 = 0 by omega] at hx
    cases hx
    exact f2)
  have hP2 : va_P D cl (((X ++ va_pl L f) ++ [(H.size, .inl (cA, n.toNatClampNeg, .inr (.inr (.inr (.inr (fun i => if i < n.toNatClampNeg then some (H.size + 1 + i) else none))))))]) ++ ((List.range n.toNatClampNeg).map (fun i => H.size + 1 + i)).map (fun a => (a, .inl (cy, z)))) F.heap := hP1.app (fun k9 x hx => by
    obtain ⟨a, ha, rfl⟩ := List.mem_map.mp (List.mem_of_getElem? hx)
    obtain ⟨i, hi, rfl⟩ := List.mem_map.mp ha
    exact hrow i (List.mem_range.mp hi))
  have hD2 : va_D A (((X ++ va_pl L f) ++ [(H.size, .inl (cA, n.toNatClampNeg, .inr (.inr (.inr (.inr (fun i => if i < n.toNatClampNeg then some (H.size + 1 + i) else none))))))]) ++ ((List.range n.toNatClampNeg).map (fun i => H.size + 1 + i)).map (fun a => (a, .inl (cy, z)))) := by
    have hD1 := hD.push (e := .inl (cA, n.toNatClampNeg, .inr (.inr (.inr (.inr (fun i => if i < n.toNatClampNeg then some (H.size + 1 + i) else none)))))) hP rfl (hA _ hS.1)
    generalize hW1 : (X ++ va_pl L f) ++ [(H.size, .inl (cA, n.toNatClampNeg, .inr (.inr (.inr (.inr (fun i => if i < n.toNatClampNeg then some (H.size + 1 + i) else none))))))] = W1 at hD1 hP1 ⊢
    have hle : ∀ (k9 : Nat) (x : Nat × va_E), W1[k9]? = some x → x.1 ≤ H.size := fun k9 x hx => by
      rw [← hW1] at hx
      by_cases hl : k9 < (X ++ va_pl L f).length
      · rw [List.getElem?_append_left hl] at hx
        exact Nat.le_of_lt ((hP k9 x hx).lt)
      · rw [List.getElem?_append_right (by omega)] at hx
        have h0 : k9 - (X ++ va_pl L f).length < 1 := (List.getElem?_eq_some_iff.mp hx).1
        rw [show k9 - (X ++ va_pl L f).length = 0 by omega] at hx
        cases hx
        exact Nat.le_refl _
    have hr : ∀ (k9 : Nat) (x : Nat × va_E), (((List.range n.toNatClampNeg).map (fun i => H.size + 1 + i)).map (fun a => ((a, .inl (cy, z)) : Nat × va_E)))[k9]? = some x → x.1 = H.size + 1 + k9 := fun k9 x hx => by
      rw [List.getElem?_map, List.getElem?_map] at hx
      by_cases h9 : k9 < n.toNatClampNeg
      · rw [List.getElem?_range h9] at hx
        cases hx
        rfl
      · have hn0 : (List.range n.toNatClampNeg)[k9]? = none := List.getElem?_eq_none (by rw [List.length_range]; omega)
        rw [hn0] at hx
        cases hx
    refine ⟨fun i j x y hi hj hxy => ?_, fun k9 x hx => ?_⟩
    · by_cases h1 : i < W1.length <;> by_cases h2 : j < W1.length
      · rw [List.getElem?_append_left h1] at hi
        rw [List.getElem?_append_left h2] at hj
        exact hD1.1 i j x y hi hj hxy
      · rw [List.getElem?_append_left h1] at hi
        rw [List.getElem?_append_right (by omega)] at hj
        have := hle _ _ hi
        have := hr _ _ hj
        omega
      · rw [List.getElem?_append_right (by omega)] at hi
        rw [List.getElem?_append_left h2] at hj
        have := hle _ _ hj
        have := hr _ _ hi
        omega
      · rw [List.getElem?_append_right (by omega)] at hi hj
        have := hr _ _ hi
        have := hr _ _ hj
        omega
    · by_cases h1 : k9 < W1.length
      · rw [List.getElem?_append_left h1] at hx
        exact hD1.2 k9 x hx
      · rw [List.getElem?_append_right (by omega)] at hx
        have := hr _ _ hx
        exact hA _ (by have := hS.1; omega)
  have hAr : ArrOfT s cA (.array ty) := fun N9 z9 => by
    obtain ⟨-, k9, hk9, cm9, hkk9⟩ := (hO 0 0 0).1
    exact ⟨(fun q hq => by cases hq), k9, hk9, cm9, hkk9⟩
  have hK2 : va_K D cl (tys ++ [(cA, .array ty)]) s := ⟨hK.1, fun k9 x hx => by
    by_cases hl : k9 < tys.length
    · rw [List.getElem?_append_left hl] at hx
      exact hK.2 k9 x hx
    · rw [List.getElem?_append_right (by omega)] at hx
      have h0 : k9 - tys.length < 1 := (List.getElem?_eq_some_iff.mp hx).1
      rw [show k9 - tys.length = 0 by omega] at hx
      cases hx
      exact ⟨hAr, fA⟩⟩
  obtain ⟨t, a1, b1⟩ := kk H.size (fun i => H.size + 1 + i) cA F.heap (fun i j _ _ h => by have h9 : H.size + 1 + i = H.size + 1 + j := h; omega) hnl hK2 (by rw [← vr_rows hnm]; exact vr_lay hP2) (by rw [← vr_rows hnm]; exact vr_layD hD2) ⟨by rw [f1]; have := hS.1; omega, fun x h1 h2 => (hold x (Nat.lt_of_lt_of_le h1 hS.1)).trans (hS.2.1 x h1 h2), hS.2.2⟩ F rfl X'
  refine ⟨t, step t ?_, b1⟩
  have e : T.heap.size = H.size := by rw [hT]
  rw [e]
  exact a1
end VGM
/-! ===== END ===== -/

/-! ===== BEGIN exceptions that leave a method, and their catching by the caller (launches without stack traces) ===== -/
section VXA
/-! The laws vx_back, vx_callV, vx_callS, vx_callSW, vx_throw0, vx_throwS follow proofs of the library, with one case more: JvmDerived/Free/Laws.lean (Back.of_free), Shelf42/LK1.lean (callV, callS), Shelf/KitTraced.lean (throwNew0V, throwNewS). -/
/-- where a method has thrown q: the class by its name, the cell, what was written, the world -/
def vx_T (XC : String → State → State → Prop) (st : State) (q : Addr) (t : State) (mc ms : Nat) (free : Addr → Prop) : Prop :=
  ∃ (E : String) (ce : Cell) (L : List Loc), XC E st t ∧ t.heap[q]? = some ce ∧ ce.vm = .none ∧ st.vm.findClass E = some ce.cls ∧ st.WarmedH t.vm ∧ st.sameButNew ({ t with vm := st.vm } : State) L mc ms ∧ ∀ z ∈ L, free z.base
def vx_Q (Qc : Array Value → State → Outcome → State → Prop) (XC : String → State → State → Prop) (mc ms : Nat) (free : Addr → Prop) : Array Value → State → Outcome → State → Prop := fun a st o t =>
  (Qc a st o t ∧ ∃ L, FrameEnd st o t L mc ms ∧ ∀ q ∈ L, free q.base) ∨ ∃ q, o = .threw q ∧ vx_T XC st q t mc ms free
/-- a callee that returns or throws -/
def vx_Met (l : Launch) (y : MethodName) (ws : List Cond) (rm : Room) (Pc : Array Value → State → Prop) (Qc : Array Value → State → Outcome → State → Prop) (XC : String → State → State → Prop) (mc ms : Nat) (free : Addr → Prop) : Prop :=
  MetFree l y (headSpec ws rm) Pc (fun _ _ _ _ _ => True) (vx_Q Qc XC mc ms free)
def vx_Post (XC : String → State → State → Prop) (mc ms : Nat) (free : Addr → Prop) : Pt → Array Value → Addr → Pt → Prop := fun A a q B =>
  ∃ (g : JFrame) (mk : MethodId) (t : State) (L : List Loc) (E : String) (ce : Cell), B.U.heap = t.heap ∧ B.U.vm = t.vm ∧ XC E (A.U.calling g mk a) t ∧ t.heap[q]? = some ce ∧ ce.vm = .none ∧ A.U.vm.findClass E = some ce.cls ∧ B.locs = A.locs ++ L ∧ (∀ z ∈ L, free z.base) ∧ B.cells = A.cells + mc ∧ B.slots = A.slots + ms
def vx_Back (l : Launch) (R : Room) (p : Program) (e : Env) (below : List Frame) (s : State) (sargs : Array Value) (y : MethodName) (len W9 : Nat)
    (Pre : Pt → Array Value → Prop) (Post : Pt → Array Value → Option Value → Pt → Prop) (PostX : Pt → Array Value → Addr → Pt → Prop) : Prop :=
  ∀ (m : MethodId) (meth : Method) (c : Code) (A : Pt) (g : JFrame) (ig : Instr) (mk : MethodId) (a : Array Value),
    Stand p l e R s m sargs below meth c A.U A.locs A.cells A.slots → g.method = m → g.locals.size = c.maxLocals → decode c.code g.pc = .ok (ig, len) →
    2 * g.monitorRoom + (g.stack.map fun v => v.category).sum ≤ W9 → A.U.methodNamed? y = some mk → Pre A a →
    (∃ (v : Option Value) (B : Pt), Stand p l e R s m sargs below meth c B.U B.locs B.cells B.slots ∧ Post A a v B ∧
      Steps p.tables e below (doInvoke e (A.U.setTop g) [] mk a).1 (B.U.setTop { g with pc := g.pc + len, stack := v.toList ++ g.stack })) ∨
    (∃ (q : Addr) (B : Pt), Stand p l e R s m sargs below meth c B.U B.locs B.cells B.slots ∧ PostX A a q B ∧
      Steps p.tables e below (doInvoke e (A.U.setTop g) [] mk a).1 ((B.U.setTop g).pushFrame (.throwing q)))
section Payer
variable {l : Launch} {R : Room} {p : Program} {e : Env} {below : List Frame} {s : State} {sargs : Array Value} {y : MethodName} {len W9 : Nat}
theorem vx_back {ws : List Cond} {rm : Room} {Pc : Array Value → State → Prop} {Qc : Array Value → State → Outcome → State → Prop} {XC : String → State → State → Prop} {mc ms : Nat} {free : Addr → Prop} {bytes : ByteArray} {maxL : Nat} {ret : Option FieldType}
    (hM : vx_Met l y ws rm Pc Qc XC mc ms free) (hblind : FrameBlind Pc) (hrc : rm.cells = mc) (hrs : rm.slots = ms)
    (hframes : rm.frames + 1 ≤ R.frames) (hlocals : W9 + (maxL + 11) + rm.locals ≤ R.locals)
    (hws : ∀ w ∈ ws, ∀ a' U, s.WarmedH U.vm → w.before a' U = true) (hcode : Cond.code y bytes maxL ret ∈ ws) (hinit : ∀ a' U, s.WarmedH U.vm → (Cond.initialized y.cls).before a' U = true) :
    vx_Back l R p e below s sargs y len W9 (PreOf R mc ms Pc) (PostOf Qc mc ms free) (vx_Post XC mc ms free) := by
  intro m meth c A g ig mk a X hg hsize hdg hW hn hp
  have h1 : (headSpec ws rm).pre.before a A.U = true := atoms_intro fun w hw => hws w hw _ _ X.warmed
  have h2 : (Cond.code y bytes maxL ret).before a A.U = true := hws _ hcode _ _ X.warmed
  have h3 : (Cond.initialized y.cls).before a A.U = true := hinit _ _ X.warmed
  have h4 : A.cells + (headSpec ws rm).room.cells ≤ R.cells := by rw [show (headSpec ws rm).room.cells = mc from hrc]; exact hp.1
  have h5 : A.slots + (headSpec ws rm).room.slots ≤ R.slots := by rw [show (headSpec ws rm).room.slots = ms from hrs]; exact hp.2.1
  have hPc : Pc a (A.U.calling g mk a) := hblind _ _ _ _ hp.2.2
  obtain ⟨U, Ls, c0, s0⟩ := A
  dsimp only [Pt.U, Pt.locs, Pt.cells, Pt.slots] at h1 h2 h3 h4 h5 X hn hPc ⊢
  obtain ⟨methY, cY, hmY, hcY, -, hlY, -, -, -, -⟩ := Cond.code_spec hn h2
  obtain ⟨kY, hkY, -⟩ := className_of_methodNamed hn
  have hinitY : kY.init = .initialized := Cond.initialized_spec (findClass_of_methodNamed hn) hkY h3
  have h : At U g.method c below := by rw [hg]; exact X.here
  have hlocals9 : W9 + (maxL + 11) + (headSpec ws rm).room.locals ≤ R.locals := hlocals
  have happ : (headSpec ws rm).appliesLoose y e.platform (U.calling g mk a) = true :=
    Spec.appliesLoose_calling (g := g) h hdg hn hkY hinitY
      (X.room_calling (g := g) (R' := (headSpec ws rm).room) hsize hmY hcY hframes (by rw [hlY]; omega) h4 h5) h1
  obtain ⟨mid, hmid⟩ := h.above
  have hfr : (U.setTop g).frames = (.java g :: mid) ++ below := by rw [State.frames_setTop' g h.top, hmid]; rfl
  obtain ⟨o, s₂, hsteps, -, hend, hq⟩ := Steps.callFree hM p X.admits X.cas X.clock (acts := []) hfr happ hPc trivial
  have hq' : vx_Q Qc XC mc ms free a (U.calling g mk a) o s₂ := hq
  rw [State.frames_setTop' g h.top] at hend
  obtain ⟨g₀, hg0⟩ := Option.isSome_iff_exists.mp h.top
  obtain ⟨r, hr⟩ := State.topJava?_eq_some.mp hg0
  have hr' : (({ U with heap := s₂.heap, slotsUsed := s₂.slotsUsed } : State).setVm s₂.vm).frames = .java g₀ :: r := hr
  rcases hq' with ⟨hqc, L, hfe, hL⟩ | ⟨q, rfl, E, ce, L, hx, hce, hcv, hcl, hW₂, hsm, hL⟩
  · obtain ⟨⟨v, rfl⟩, hW₂, e2, q2, q3, q4, q5, q6⟩ := id hfe
    have e3 : s₂ = ({ (U.calling g mk a).setFrames s₂.frames with heap := s₂.heap, slotsUsed := s₂.slotsUsed } : State).setVm s₂.vm := by
      have : s₂ = ({ s₂ with vm := (U.calling g mk a).vm } : State).setVm s₂.vm := rfl
      rw [e2] at this
      exact this
    obtain ⟨c₂, i₂, len₂, hc₂, hd₂, hf₂⟩ := hend
    have hW' : U.WarmedH s₂.vm := hW₂
    have hcc : c₂ = c := by
      have h1 : s₂.code? g.method = U.code? g.method := by
        rw [State.code?_eq, State.code?_eq, hW'.alike.method?]
      exact Option.some.inj (hc₂.symm.trans (h1.trans h.code))
    subst hcc
    have hlen : len₂ = len := by rw [hdg] at hd₂; cases hd₂; rfl
    subst hlen
    have hs₂ : s₂ = (({ U with heap := s₂.heap, slotsUsed := s₂.slotsUsed } : State).setVm s₂.vm).setTop { g with pc := g.pc + len₂, stack := v.toList ++ g.stack } := by
      refine e3.trans ?_
      rw [hf₂, State.calling_eq h.top, State.setFrames_setFrames, State.setTop_of_frames _ hr', hr]
      rfl
    have hsame : U.sameButNew ({ U with heap := s₂.heap, slotsUsed := s₂.slotsUsed } : State) L mc ms := by
      refine ⟨?_, q2, q3, q4, q5, q6⟩
      obtain ⟨t, ht, -⟩ := State.frames_cons hr
      show ({ U with heap := s₂.heap, slotsUsed := s₂.slotsUsed } : State) = { U.setFrames U.frames with heap := s₂.heap, slotsUsed := s₂.slotsUsed }
      rw [State.setFrames_self ht]
    subst hg
    refine Or.inl ⟨v, ⟨(({ U with heap := s₂.heap, slotsUsed := s₂.slotsUsed } : State).setVm s₂.vm), Ls ++ L, c0 + mc, s0 + ms⟩,
      ⟨X.admits, X.cas, X.clock, X.frames, X.room, X.hears, X.method, X.code, (X.here.setHeapUsed s₂.heap s₂.slotsUsed).setVm hW'.alike, X.tail, State.WarmedH.trans X.warmed hW', X.limits, X.bytes, X.same.trans (hsame.setVm s.vm)⟩,
      ⟨g, mk, s₂, L, rfl, rfl, hqc, rfl, hL, rfl, rfl⟩, ?_⟩
    show Steps p.tables e below _ ((({ U with heap := s₂.heap, slotsUsed := s₂.slotsUsed } : State).setVm s₂.vm).setTop { g with pc := g.pc + len₂, stack := v.toList ++ g.stack })
    rw [← hs₂]
    exact hsteps
  · obtain ⟨e2, q2, q3, q4, q5, q6⟩ := id hsm
    have e3 : s₂ = ({ (U.calling g mk a).setFrames s₂.frames with heap := s₂.heap, slotsUsed := s₂.slotsUsed } : State).setVm s₂.vm := by
      have : s₂ = ({ s₂ with vm := (U.calling g mk a).vm } : State).setVm s₂.vm := rfl
      rw [e2] at this
      exact this
    have hf₂ : s₂.frames = .throwing q :: .java g :: U.frames.tail := hend
    have hW' : U.WarmedH s₂.vm := hW₂
    have hs₂ : s₂ = ((({ U with heap := s₂.heap, slotsUsed := s₂.slotsUsed } : State).setVm s₂.vm).setTop g).pushFrame (.throwing q) := by
      refine e3.trans ?_
      rw [hf₂, State.calling_eq h.top, State.setFrames_setFrames, State.pushFrame, State.frames_setTop _ hr', State.setTop_of_frames _ hr', State.setFrames_setFrames, hr]
      rfl
    have hsame : U.sameButNew ({ U with heap := s₂.heap, slotsUsed := s₂.slotsUsed } : State) L mc ms := by
      refine ⟨?_, q2, q3, q4, q5, q6⟩
      obtain ⟨t, ht, -⟩ := State.frames_cons hr
      show ({ U with heap := s₂.heap, slotsUsed := s₂.slotsUsed } : State) = { U.setFrames U.frames with heap := s₂.heap, slotsUsed := s₂.slotsUsed }
      rw [State.setFrames_self ht]
    subst hg
    refine Or.inr ⟨q, ⟨(({ U with heap := s₂.heap, slotsUsed := s₂.slotsUsed } : State).setVm s₂.vm), Ls ++ L, c0 + mc, s0 + ms⟩,
      ⟨X.admits, X.cas, X.clock, X.frames, X.room, X.hears, X.method, X.code, (X.here.setHeapUsed s₂.heap s₂.slotsUsed).setVm hW'.alike, X.tail, State.WarmedH.trans X.warmed hW', X.limits, X.bytes, X.same.trans (hsame.setVm s.vm)⟩,
      ⟨g, mk, s₂, L, E, ce, rfl, rfl, hx, hce, hcv, hcl, rfl, hL, rfl, rfl⟩, ?_⟩
    show Steps p.tables e below _ (((({ U with heap := s₂.heap, slotsUsed := s₂.slotsUsed } : State).setVm s₂.vm).setTop g).pushFrame (.throwing q))
    rw [← hs₂]
    exact hsteps
end Payer
section Calls
variable {p : Program} {l : Launch} {e : Env} {R : Room} {s : State} {m : MethodId} {args : Array Value} {below : List Frame} {meth : Method} {c : Code} {T : State} {locs : List Loc} {cells slots : Nat}
theorem vx_callV (X : Stand p l e R s m args below meth c T locs cells slots) (hexec : p.tables.exec = Jvm.exec) {own C : String} {index : Nat} {y : MethodName} {bytes : ByteArray} {maxL : Nat} {ret : Option FieldType}
    (hown : s.vm.findClass own = some m.cls) (hlink : (Cond.methodLink own index y).before args s = true) (hinst : (Cond.instanceMethod y).before args s = true) (hsel : (Cond.selects C y y).before args s = true)
    (hcode : (Cond.code y bytes maxL ret).before args s = true) (hy : y.cls ≠ "java/lang/invoke/MethodHandle" ∧ y.cls ≠ "java/lang/invoke/VarHandle")
    {W9 : Nat} {Pre : Pt → Array Value → Prop} {Post : Pt → Array Value → Option Value → Pt → Prop} {PostX : Pt → Array Value → Addr → Pt → Prop} (hK : vx_Back l R p e below s args y 3 W9 Pre Post PostX)
    {b : Addr} {cellB : Cell} (hcell : T.heap[b]? = some cellB) (hobj : cellB.vm.isStatics = false) (hcls : s.vm.findClass C = some cellB.cls)
    {g : JFrame} (hg : g.method = m) (hsize : g.locals.size = c.maxLocals) {argsL rest : List Value} (hlen : ∀ sig, parseMethodDescriptor y.desc = some sig → argsL.length = sig.parameters.length)
    (hstack : g.stack = argsL.reverse ++ .ref b :: rest) (hW : 2 * g.monitorRoom + (rest.map fun v => v.category).sum ≤ W9) (hdg : decode c.code g.pc = .ok (.invokevirtual index, 3))
    (hpre : ∀ vm₁, s.WarmedH vm₁ → Pre ⟨T.setVm vm₁, locs, cells, slots⟩ (Value.ref b :: argsL).toArray) :
    (∃ (v : Option Value) (vm₁ : Vm) (B : Pt), s.WarmedH vm₁ ∧ Stand p l e R s m args below meth c B.U B.locs B.cells B.slots ∧ Post ⟨T.setVm vm₁, locs, cells, slots⟩ (Value.ref b :: argsL).toArray v B ∧
      ∀ target, Steps p.tables e below (B.U.setTop { g with pc := g.pc + 3, stack := v.toList ++ rest }) target → Steps p.tables e below (T.setTop g) target) ∨
    (∃ (q : Addr) (vm₁ : Vm) (B : Pt), s.WarmedH vm₁ ∧ Stand p l e R s m args below meth c B.U B.locs B.cells B.slots ∧ PostX ⟨T.setVm vm₁, locs, cells, slots⟩ (Value.ref b :: argsL).toArray q B ∧
      Steps p.tables e below (T.setTop g) ((B.U.setTop { g with stack := rest }).pushFrame (.throwing q))) := by
  obtain ⟨mk, methM, hnamed, hmethM, hstM, habM⟩ := Cond.instanceMethod_spec hinst
  obtain ⟨methM', cM, hmethM', -, -, -, -, -, -, hsigM⟩ := Cond.code_spec hnamed hcode
  cases hmethM.symm.trans hmethM'
  obtain ⟨c2, r2, m2, q1, q2, q3, q4, kP, hkP, hkPi⟩ := Cond.selects_spec hsel
  cases hcls.symm.trans q1
  cases (State.methodFound?_of_named hnamed hy).symm.trans q2
  cases hnamed.symm.trans q3
  have hselP : selectMethod e.platform s.vm cellB.cls mk = .method mk := by rw [Launch.admits_selectMethod X.admits]; exact q4
  obtain ⟨vm₁, X₁, hstep₁⟩ := X.invokevirtual hexec hown hlink hnamed hmethM hstM hkP hkPi hy (a := b) (cell := cellB) hcell
    (fun z h => by rw [h] at hobj; cases hobj) hselP hmethM habM hkP hkPi (g := g) hg (argsL := argsL) (rest := rest) (hlen _ hsigM) hstack hdg
  rcases hK m meth c ⟨T.setVm vm₁, locs, cells, slots⟩ { g with stack := rest } (.invokevirtual index) mk (Value.ref b :: argsL).toArray X₁ hg hsize hdg hW (X₁.named hnamed) (hpre vm₁ X₁.warmed) with ⟨v, B, X', hpost, hsteps⟩ | ⟨q, B, X', hpost, hsteps⟩
  · exact Or.inl ⟨v, vm₁, B, X₁.warmed, X', hpost, fun target h => hstep₁ _ fun acts => by rw [doInvoke_state]; exact hsteps.trans h⟩
  · exact Or.inr ⟨q, vm₁, B, X₁.warmed, X', hpost, hstep₁ _ fun acts => by rw [doInvoke_state]; exact hsteps⟩
theorem vx_callS (X : Stand p l e R s m args below meth c T locs cells slots) (hexec : p.tables.exec = Jvm.exec) {own : String} {index : Nat} {y : MethodName} {bytes : ByteArray} {maxL : Nat} {ret : Option FieldType}
    (hown : s.vm.findClass own = some m.cls) (hlink : (Cond.methodLink own index y).before args s = true) (hstat : (Cond.static y).before args s = true) (hinit : (Cond.initialized y.cls).before args s = true)
    (hcode : (Cond.code y bytes maxL ret).before args s = true) (hy : y.cls ≠ "java/lang/invoke/MethodHandle" ∧ y.cls ≠ "java/lang/invoke/VarHandle")
    {W9 : Nat} {Pre : Pt → Array Value → Prop} {Post : Pt → Array Value → Option Value → Pt → Prop} {PostX : Pt → Array Value → Addr → Pt → Prop} (hK : vx_Back l R p e below s args y 3 W9 Pre Post PostX)
    {g : JFrame} (hg : g.method = m) (hsize : g.locals.size = c.maxLocals) {argsL rest : List Value} (hlen : ∀ sig, parseMethodDescriptor y.desc = some sig → argsL.length = sig.parameters.length)
    (hstack : g.stack = argsL.reverse ++ rest) (hW : 2 * g.monitorRoom + (rest.map fun v => v.category).sum ≤ W9) (hdg : decode c.code g.pc = .ok (.invokestatic index, 3))
    (hpre : ∀ vm₁, s.WarmedH vm₁ → Pre ⟨T.setVm vm₁, locs, cells, slots⟩ argsL.toArray) :
    (∃ (v : Option Value) (vm₁ : Vm) (B : Pt), s.WarmedH vm₁ ∧ Stand p l e R s m args below meth c B.U B.locs B.cells B.slots ∧ Post ⟨T.setVm vm₁, locs, cells, slots⟩ argsL.toArray v B ∧
      ∀ target, Steps p.tables e below (B.U.setTop { g with pc := g.pc + 3, stack := v.toList ++ rest }) target → Steps p.tables e below (T.setTop g) target) ∨
    (∃ (q : Addr) (vm₁ : Vm) (B : Pt), s.WarmedH vm₁ ∧ Stand p l e R s m args below meth c B.U B.locs B.cells B.slots ∧ PostX ⟨T.setVm vm₁, locs, cells, slots⟩ argsL.toArray q B ∧
      Steps p.tables e below (T.setTop g) ((B.U.setTop { g with stack := rest }).pushFrame (.throwing q))) := by
  obtain ⟨mk, hnamed⟩ := Cond.code_named hcode
  obtain ⟨methM, cM, hmethM, -, -, -, -, -, -, hsigM⟩ := Cond.code_spec hnamed hcode
  have hstatic : methM.isStatic = true := Cond.static_spec hnamed hmethM hstat
  obtain ⟨kP, hkP, -⟩ := className_of_methodNamed hnamed
  have hinitP : kP.init = .initialized := Cond.initialized_spec (findClass_of_methodNamed hnamed) hkP hinit
  obtain ⟨vm₁, X₁, hstep₁⟩ := X.invokestatic hexec hown hlink hnamed hmethM hstatic hkP hinitP hy (g := g) hg (argsL := argsL) (rest := rest) (hlen _ hsigM) hstack hdg
  rcases hK m meth c ⟨T.setVm vm₁, locs, cells, slots⟩ { g with stack := rest } (.invokestatic index) mk argsL.toArray X₁ hg hsize hdg hW (X₁.named hnamed) (hpre vm₁ X₁.warmed) with ⟨v, B, X', hpost, hsteps⟩ | ⟨q, B, X', hpost, hsteps⟩
  · exact Or.inl ⟨v, vm₁, B, X₁.warmed, X', hpost, fun target h => hstep₁ _ fun acts => by rw [doInvoke_state]; exact hsteps.trans h⟩
  · exact Or.inr ⟨q, vm₁, B, X₁.warmed, X', hpost, hstep₁ _ fun acts => by rw [doInvoke_state]; exact hsteps⟩
end Calls
theorem vx_cls {s : State} {T : State} {vm₁ : Vm} {E : String} {k : ClassId} (hW : s.WarmedH vm₁) (h : (T.setVm vm₁).vm.findClass E = some k) : s.vm.findClass E = some k := by
  have h1 : vm₁.findClass E = some k := h
  rw [hW.alike.findClass] at h1
  exact h1
/-- the method's frame g, with q thrown over it -/
def vx_W (p : Program) (l : Launch) (e : Env) (R : Room) (s : State) (m : MethodId) (args : Array Value) (below : List Frame) (meth : Method) (c : Code) (H : Heap) (locs : List Loc) (cells slots : Nat) (Q : State → Prop) (g : JFrame) (q : Addr) : Prop :=
  ∀ T : State, T.heap = H → Stand p l e R s m args below meth c T locs cells slots → ∃ t, Steps p.tables e below ((T.setTop g).pushFrame (.throwing q)) t ∧ Q t
def vx_Run (p : Program) (l : Launch) (e : Env) (R : Room) (s : State) (m : MethodId) (args : Array Value) (below : List Frame) (meth : Method) (c : Code) (H : Heap) (locs : List Loc) (cells slots mc ms : Nat) (g : JFrame) (rest : List Value) (Qa : State → Outcome → State → Prop) (XC : String → State → State → Prop) (free : Addr → Prop) : Prop :=
  ∀ T : State, T.heap = H → Stand p l e R s m args below meth c T locs cells slots →
    (∃ (v : Option Value) (st₀ t T' : State) (L : List Loc), st₀.heap = H ∧ Stand p l e R s m args below meth c T' (locs ++ L) (cells + mc) (slots + ms) ∧ (∀ q ∈ L, free q.base) ∧ T'.heap = t.heap ∧ T'.vm = t.vm ∧ Qa st₀ (.returned v) t ∧
      Goes p e below T g T' { g with pc := g.pc + 3, stack := v.toList ++ rest }) ∨
    (∃ (q : Addr) (st₀ t T' : State) (L : List Loc) (E : String) (ce : Cell), st₀.heap = H ∧ Stand p l e R s m args below meth c T' (locs ++ L) (cells + mc) (slots + ms) ∧ (∀ z ∈ L, free z.base) ∧ T'.heap = t.heap ∧ T'.vm = t.vm ∧ XC E st₀ t ∧ t.heap[q]? = some ce ∧ ce.vm = .none ∧ s.vm.findClass E = some ce.cls ∧
      Steps p.tables e below (T.setTop g) ((T'.setTop { g with stack := rest }).pushFrame (.throwing q)))
def vx_X {S : Type} (px : S → Prop) (B : String → S → State → Prop) (A : Nat → Prop) : String → State → State → Prop := fun E st t => ∃ u : S, px u ∧ B E u t ∧ va_F A st t
section Runs
variable {p : Program} {l : Launch} {e : Env} {R : Room} {s : State} {m : MethodId} {args : Array Value} {below : List Frame} {meth : Method} {c : Code} {H : Heap} {locs : List Loc} {cells slots : Nat}
variable {y : MethodName} {bytes cc : ByteArray} {maxL nL mc ms n index : Nat} {ret : Option FieldType} {ws : List Cond} {rm : Room} {Pc : Array Value → State → Prop} {Qc : Array Value → State → Outcome → State → Prop} {XC : String → State → State → Prop} {free : Addr → Prop} {Ts : List Cond} {own C : String} {b : Addr} {As rest : List Value} {g : JFrame}
theorem vx_callBack (cb : CallB R s args own index y bytes maxL ret ws rm mc ms n) (hM : vx_Met l y ws rm Pc Qc XC mc ms free) (hbl : FrameBlind Pc) : vx_Back l R p e below s args y 3 8 (PreOf R mc ms Pc) (PostOf Qc mc ms free) (vx_Post XC mc ms free) := by
  obtain ⟨hrc, hrs, hfr, hlo, hws, hcw, -, hini, -⟩ := cb
  exact vx_back (bytes := bytes) (maxL := maxL) (ret := ret) hM hbl hrc hrs hfr hlo hws hcw (fun a' U hW => word_at hW (Or.inl (by first | rfl | simp [Cond.onTables, Cond.keeps, Cond.steady])) hini)
theorem vx_runV (S : CallFix p m c cc nL s args Ts own) (hM : vx_Met l y ws rm Pc Qc XC mc ms free) (cw : CallW R s args own C index y bytes maxL ret ws rm mc ms n) (hp : PreV s H C b Pc As)
    (hg : g.method = m) (hn : As.length = n) (hsize : g.locals.size = nL) (hstack : g.stack = As.reverse ++ .ref b :: rest) (hW : 2 * g.monitorRoom + (rest.map fun v => v.category).sum ≤ 8) (hdg : decode cc g.pc = .ok (.invokevirtual index, 3)) (hf : cells + mc ≤ R.cells ∧ slots + ms ≤ R.slots) :
    vx_Run p l e R s m args below meth c H locs cells slots mc ms g rest (Qc (Value.ref b :: As).toArray) XC free := by
  have hK : vx_Back l R p e below s args y 3 8 (PreOf R mc ms Pc) (PostOf Qc mc ms free) (vx_Post XC mc ms free) := vx_callBack cw.1 hM hp.1
  obtain ⟨⟨-, -, -, -, -, -, hcode, -, hy, hlen, hl⟩, hin, hse⟩ := cw
  obtain ⟨hx, hb, hml, ho, -⟩ := S
  obtain ⟨-, ⟨cellB, hcB, hoB, hclB⟩, hPc⟩ := hp
  intro T hT X
  rcases vx_callV X hx (C := C) (bytes := bytes) (maxL := maxL) (ret := ret) ho hl hin hse hcode hy hK (by rw [hT]; exact hcB) hoB hclB hg (hsize.trans hml.symm) (argsL := As) (rest := rest) (fun sig h => hn.trans (hlen sig h)) hstack hW (by rw [hb]; exact hdg)
    (fun vm₁ hW₁ => ⟨hf.1, hf.2, hPc (T.setVm vm₁) hT hW₁⟩) with ⟨v, vm₁, ⟨U', l2, c2, s2⟩, hW₁, X', ⟨g', mk, t, L, e1, e2, hq, h1, hL, h2, h3⟩, st⟩ | ⟨q, vm₁, ⟨U', l2, c2, s2⟩, hW₁, X', ⟨g', mk, t, L, E, ce, e1, e2, hq, hce, hcv, hcl, h1, hL, h2, h3⟩, st⟩
  · dsimp only [Pt.U, Pt.locs, Pt.cells, Pt.slots] at X' e1 e2 h1 h2 h3 st
    subst h1; subst h2; subst h3
    exact Or.inl ⟨v, (T.setVm vm₁).calling g' mk (Value.ref b :: As).toArray, t, U', L, hT, X', hL, e1, e2, hq, st⟩
  · dsimp only [Pt.U, Pt.locs, Pt.cells, Pt.slots] at X' e1 e2 h1 h2 h3 st hcl
    subst h1; subst h2; subst h3
    exact Or.inr ⟨q, (T.setVm vm₁).calling g' mk (Value.ref b :: As).toArray, t, U', L, E, ce, hT, X', hL, e1, e2, hq, hce, hcv, vx_cls hW₁ hcl, st⟩
theorem vx_runS (S : CallFix p m c cc nL s args Ts own) (hM : vx_Met l y ws rm Pc Qc XC mc ms free) (cw : CallB R s args own index y bytes maxL ret ws rm mc ms n ∧ (Cond.static y).before args s = true) (hp : PreS s H Pc As)
    (hg : g.method = m) (hn : As.length = n) (hsize : g.locals.size = nL) (hstack : g.stack = As.reverse ++ rest) (hW : 2 * g.monitorRoom + (rest.map fun v => v.category).sum ≤ 8) (hdg : decode cc g.pc = .ok (.invokestatic index, 3)) (hf : cells + mc ≤ R.cells ∧ slots + ms ≤ R.slots) :
    vx_Run p l e R s m args below meth c H locs cells slots mc ms g rest (Qc As.toArray) XC free := by
  have hK : vx_Back l R p e below s args y 3 8 (PreOf R mc ms Pc) (PostOf Qc mc ms free) (vx_Post XC mc ms free) := vx_callBack cw.1 hM hp.1
  obtain ⟨⟨-, -, -, -, -, -, hcode, hini, hy, hlen, hl⟩, hstt⟩ := cw
  obtain ⟨hx, hb, hml, ho, -⟩ := S
  intro T hT X
  rcases vx_callS X hx (bytes := bytes) (maxL := maxL) (ret := ret) ho hl hstt hini hcode hy hK hg (hsize.trans hml.symm) (argsL := As) (rest := rest) (fun sig h => hn.trans (hlen sig h)) hstack hW (by rw [hb]; exact hdg)
    (fun vm₁ hW₁ => ⟨hf.1, hf.2, hp.2 (T.setVm vm₁) hT hW₁⟩) with ⟨v, vm₁, ⟨U', l2, c2, s2⟩, hW₁, X', ⟨g', mk, t, L, e1, e2, hq, h1, hL, h2, h3⟩, st⟩ | ⟨q, vm₁, ⟨U', l2, c2, s2⟩, hW₁, X', ⟨g', mk, t, L, E, ce, e1, e2, hq, hce, hcv, hcl, h1, hL, h2, h3⟩, st⟩
  · dsimp only [Pt.U, Pt.locs, Pt.cells, Pt.slots] at X' e1 e2 h1 h2 h3 st
    subst h1; subst h2; subst h3
    exact Or.inl ⟨v, (T.setVm vm₁).calling g' mk As.toArray, t, U', L, hT, X', hL, e1, e2, hq, st⟩
  · dsimp only [Pt.U, Pt.locs, Pt.cells, Pt.slots] at X' e1 e2 h1 h2 h3 st hcl
    subst h1; subst h2; subst h3
    exact Or.inr ⟨q, (T.setVm vm₁).calling g' mk As.toArray, t, U', L, E, ce, hT, X', hL, e1, e2, hq, hce, hcv, vx_cls hW₁ hcl, st⟩
end Runs
section Rows
variable {p : Program} {l : Launch} {e : Env} {R : Room} {s : State} {m : MethodId} {args : Array Value} {below : List Frame} {meth : Method} {c : Code} {H : Heap} {locs : List Loc} {cells slots : Nat} {Q : State → Prop}
variable {mc ms : Nat} {free : Addr → Prop} {A0 A1 : Nat → Prop} {H0 : Heap} {a : Array Value} {pc : Nat} {ls : Array Slot} {st0 rest : List Value}
theorem vx_keep {st₀ t T' : State} {L : List Loc} (h0 : st₀.heap = H) (e1 : T'.heap = t.heap) (hS : va_S A0 H0 H locs) (hA : ∀ q, q < H.size → A1 q → A0 q) (hf : ∀ q, free q → A0 q) (hL : ∀ q ∈ L, free q.base) (hF : va_F A1 st₀ t) :
    H.size ≤ T'.heap.size ∧ (∀ q : Nat, q < H.size → ¬ A1 q → T'.heap[q]? = H[q]?) ∧ va_S A0 H0 T'.heap (locs ++ L) := by
  obtain ⟨hz, hk⟩ := hF
  rw [h0] at hz hk
  exact ⟨by rw [e1]; exact hz, fun q h1 h2 => by rw [e1]; exact hk q h1 h2,
    ⟨Nat.le_trans hS.1 (by rw [e1]; exact hz), fun q h1 h2 => by rw [e1, hk q (Nat.lt_of_lt_of_le h1 hS.1) (fun z => h2 (hA q (Nat.lt_of_lt_of_le h1 hS.1) z))]; exact hS.2.1 q h1 h2, fun q hq => by
      rcases List.mem_append.mp hq with h | h
      · exact hS.2.2 q h
      · exact hf _ (hL q h)⟩⟩
theorem vx_calli {S SX : Type} {post : Int32 → S → Prop} {px : SX → Prop} {B : S → State → Prop} {BX : String → SX → State → Prop} {AX : Nat → Prop} (hr : vx_Run p l e R s m args below meth c H locs cells slots mc ms (F0 m pc ls st0) rest (va_Qi post B A1 a) (vx_X px BX AX) free) (hS : va_S A0 H0 H locs) (hA : ∀ q, q < H.size → A1 q → A0 q) (hf : ∀ q, free q → A0 q) (hAX : ∀ q, q < H.size → AX q → A0 q)
    (kx : ∀ (E : String) (ce : Cell) (q9 : Addr) (u : SX) (t : State) (H1 : Heap) (locs1 : List Loc), t.heap = H1 → s.vm.Alike t.vm → px u → BX E u t → H.size ≤ H1.size → (∀ q : Nat, q < H.size → ¬ AX q → H1[q]? = H[q]?) → va_S A0 H0 H1 locs1 → H1[q9]? = some ce → ce.vm = .none → s.vm.findClass E = some ce.cls → vx_W p l e R s m args below meth c H1 locs1 (cells + mc) (slots + ms) Q (F0 m pc ls rest) q9)
    (kk : ∀ (r : Int32) (u : S) (t : State) (H1 : Heap) (locs1 : List Loc), t.heap = H1 → s.vm.Alike t.vm → post r u → B u t → H.size ≤ H1.size → (∀ q : Nat, q < H.size → ¬ A1 q → H1[q]? = H[q]?) → va_S A0 H0 H1 locs1 → W p l e R s m args below meth c H1 locs1 (cells + mc) (slots + ms) Q (F0 m (pc + 3) ls (.int r :: rest))) : W p l e R s m args below meth c H locs cells slots Q (F0 m pc ls st0) := by
  intro T hT X
  rcases hr T hT X with ⟨v, st₀, t, T', L, h0, X', hL, e1, e2, ⟨⟨r, u, hv, hp, hb⟩, hF⟩, st⟩ | ⟨q, st₀, t, T', L, E, ce, h0, X', hL, e1, e2, ⟨u, hp, hb, hF⟩, hce, hcv, hcl, st⟩
  · cases hv
    obtain ⟨k1, k2, k3⟩ := vx_keep h0 e1 hS hA hf hL hF
    obtain ⟨t2, a1, b1⟩ := kk r u t T'.heap (locs ++ L) e1.symm (by rw [← e2]; exact X'.warmed.alike) hp hb k1 k2 k3 T' rfl X'
    exact ⟨t2, st t2 a1, b1⟩
  · obtain ⟨k1, k2, k3⟩ := vx_keep h0 e1 hS hAX hf hL hF
    obtain ⟨t2, a1, b1⟩ := kx E ce q u t T'.heap (locs ++ L) e1.symm (by rw [← e2]; exact X'.warmed.alike) hp hb k1 k2 k3 (by rw [e1]; exact hce) hcv hcl T' rfl X'
    exact ⟨t2, st.trans a1, b1⟩
theorem vx_calll {S SX : Type} {post : Int64 → S → Prop} {px : SX → Prop} {B : S → State → Prop} {BX : String → SX → State → Prop} {AX : Nat → Prop} (hr : vx_Run p l e R s m args below meth c H locs cells slots mc ms (F0 m pc ls st0) rest (va_Ql post B A1 a) (vx_X px BX AX) free) (hS : va_S A0 H0 H locs) (hA : ∀ q, q < H.size → A1 q → A0 q) (hf : ∀ q, free q → A0 q) (hAX : ∀ q, q < H.size → AX q → A0 q)
    (kx : ∀ (E : String) (ce : Cell) (q9 : Addr) (u : SX) (t : State) (H1 : Heap) (locs1 : List Loc), t.heap = H1 → s.vm.Alike t.vm → px u → BX E u t → H.size ≤ H1.size → (∀ q : Nat, q < H.size → ¬ AX q → H1[q]? = H[q]?) → va_S A0 H0 H1 locs1 → H1[q9]? = some ce → ce.vm = .none → s.vm.findClass E = some ce.cls → vx_W p l e R s m args below meth c H1 locs1 (cells + mc) (slots + ms) Q (F0 m pc ls rest) q9)
    (kk : ∀ (r : Int64) (u : S) (t : State) (H1 : Heap) (locs1 : List Loc), t.heap = H1 → s.vm.Alike t.vm → post r u → B u t → H.size ≤ H1.size → (∀ q : Nat, q < H.size → ¬ A1 q → H1[q]? = H[q]?) → va_S A0 H0 H1 locs1 → W p l e R s m args below meth c H1 locs1 (cells + mc) (slots + ms) Q (F0 m (pc + 3) ls (.long r :: rest))) : W p l e R s m args below meth c H locs cells slots Q (F0 m pc ls st0) := by
  intro T hT X
  rcases hr T hT X with ⟨v, st₀, t, T', L, h0, X', hL, e1, e2, ⟨⟨r, u, hv, hp, hb⟩, hF⟩, st⟩ | ⟨q, st₀, t, T', L, E, ce, h0, X', hL, e1, e2, ⟨u, hp, hb, hF⟩, hce, hcv, hcl, st⟩
  · cases hv
    obtain ⟨k1, k2, k3⟩ := vx_keep h0 e1 hS hA hf hL hF
    obtain ⟨t2, a1, b1⟩ := kk r u t T'.heap (locs ++ L) e1.symm (by rw [← e2]; exact X'.warmed.alike) hp hb k1 k2 k3 T' rfl X'
    exact ⟨t2, st t2 a1, b1⟩
  · obtain ⟨k1, k2, k3⟩ := vx_keep h0 e1 hS hAX hf hL hF
    obtain ⟨t2, a1, b1⟩ := kx E ce q u t T'.heap (locs ++ L) e1.symm (by rw [← e2]; exact X'.warmed.alike) hp hb k1 k2 k3 (by rw [e1]; exact hce) hcv hcl T' rfl X'
    exact ⟨t2, st.trans a1, b1⟩
theorem vx_callf {S SX : Type} {post : UInt32 → S → Prop} {px : SX → Prop} {B : S → State → Prop} {BX : String → SX → State → Prop} {AX : Nat → Prop} (hr : vx_Run p l e R s m args below meth c H locs cells slots mc ms (F0 m pc ls st0) rest (va_Qf post B A1 a) (vx_X px BX AX) free) (hS : va_S A0 H0 H locs) (hA : ∀ q, q < H.size → A1 q → A0 q) (hf : ∀ q, free q → A0 q) (hAX : ∀ q, q < H.size → AX q → A0 q)
    (kx : ∀ (E : String) (ce : Cell) (q9 : Addr) (u : SX) (t : State) (H1 : Heap) (locs1 : List Loc), t.heap = H1 → s.vm.Alike t.vm → px u → BX E u t → H.size ≤ H1.size → (∀ q : Nat, q < H.size → ¬ AX q → H1[q]? = H[q]?) → va_S A0 H0 H1 locs1 → H1[q9]? = some ce → ce.vm = .none → s.vm.findClass E = some ce.cls → vx_W p l e R s m args below meth c H1 locs1 (cells + mc) (slots + ms) Q (F0 m pc ls rest) q9)
    (kk : ∀ (r : UInt32) (u : S) (t : State) (H1 : Heap) (locs1 : List Loc), t.heap = H1 → s.vm.Alike t.vm → post r u → B u t → H.size ≤ H1.size → (∀ q : Nat, q < H.size → ¬ A1 q → H1[q]? = H[q]?) → va_S A0 H0 H1 locs1 → W p l e R s m args below meth c H1 locs1 (cells + mc) (slots + ms) Q (F0 m (pc + 3) ls (.float r :: rest))) : W p l e R s m args below meth c H locs cells slots Q (F0 m pc ls st0) := by
  intro T hT X
  rcases hr T hT X with ⟨v, st₀, t, T', L, h0, X', hL, e1, e2, ⟨⟨r, u, hv, hp, hb⟩, hF⟩, st⟩ | ⟨q, st₀, t, T', L, E, ce, h0, X', hL, e1, e2, ⟨u, hp, hb, hF⟩, hce, hcv, hcl, st⟩
  · cases hv
    obtain ⟨k1, k2, k3⟩ := vx_keep h0 e1 hS hA hf hL hF
    obtain ⟨t2, a1, b1⟩ := kk r u t T'.heap (locs ++ L) e1.symm (by rw [← e2]; exact X'.warmed.alike) hp hb k1 k2 k3 T' rfl X'
    exact ⟨t2, st t2 a1, b1⟩
  · obtain ⟨k1, k2, k3⟩ := vx_keep h0 e1 hS hAX hf hL hF
    obtain ⟨t2, a1, b1⟩ := kx E ce q u t T'.heap (locs ++ L) e1.symm (by rw [← e2]; exact X'.warmed.alike) hp hb k1 k2 k3 (by rw [e1]; exact hce) hcv hcl T' rfl X'
    exact ⟨t2, st.trans a1, b1⟩
theorem vx_calld {S SX : Type} {post : UInt64 → S → Prop} {px : SX → Prop} {B : S → State → Prop} {BX : String → SX → State → Prop} {AX : Nat → Prop} (hr : vx_Run p l e R s m args below meth c H locs cells slots mc ms (F0 m pc ls st0) rest (va_Qd post B A1 a) (vx_X px BX AX) free) (hS : va_S A0 H0 H locs) (hA : ∀ q, q < H.size → A1 q → A0 q) (hf : ∀ q, free q → A0 q) (hAX : ∀ q, q < H.size → AX q → A0 q)
    (kx : ∀ (E : String) (ce : Cell) (q9 : Addr) (u : SX) (t : State) (H1 : Heap) (locs1 : List Loc), t.heap = H1 → s.vm.Alike t.vm → px u → BX E u t → H.size ≤ H1.size → (∀ q : Nat, q < H.size → ¬ AX q → H1[q]? = H[q]?) → va_S A0 H0 H1 locs1 → H1[q9]? = some ce → ce.vm = .none → s.vm.findClass E = some ce.cls → vx_W p l e R s m args below meth c H1 locs1 (cells + mc) (slots + ms) Q (F0 m pc ls rest) q9)
    (kk : ∀ (r : UInt64) (u : S) (t : State) (H1 : Heap) (locs1 : List Loc), t.heap = H1 → s.vm.Alike t.vm → post r u → B u t → H.size ≤ H1.size → (∀ q : Nat, q < H.size → ¬ A1 q → H1[q]? = H[q]?) → va_S A0 H0 H1 locs1 → W p l e R s m args below meth c H1 locs1 (cells + mc) (slots + ms) Q (F0 m (pc + 3) ls (.double r :: rest))) : W p l e R s m args below meth c H locs cells slots Q (F0 m pc ls st0) := by
  intro T hT X
  rcases hr T hT X with ⟨v, st₀, t, T', L, h0, X', hL, e1, e2, ⟨⟨r, u, hv, hp, hb⟩, hF⟩, st⟩ | ⟨q, st₀, t, T', L, E, ce, h0, X', hL, e1, e2, ⟨u, hp, hb, hF⟩, hce, hcv, hcl, st⟩
  · cases hv
    obtain ⟨k1, k2, k3⟩ := vx_keep h0 e1 hS hA hf hL hF
    obtain ⟨t2, a1, b1⟩ := kk r u t T'.heap (locs ++ L) e1.symm (by rw [← e2]; exact X'.warmed.alike) hp hb k1 k2 k3 T' rfl X'
    exact ⟨t2, st t2 a1, b1⟩
  · obtain ⟨k1, k2, k3⟩ := vx_keep h0 e1 hS hAX hf hL hF
    obtain ⟨t2, a1, b1⟩ := kx E ce q u t T'.heap (locs ++ L) e1.symm (by rw [← e2]; exact X'.warmed.alike) hp hb k1 k2 k3 (by rw [e1]; exact hce) hcv hcl T' rfl X'
    exact ⟨t2, st.trans a1, b1⟩
theorem vx_callv {S SX : Type} {post : S → Prop} {px : SX → Prop} {B : S → State → Prop} {BX : String → SX → State → Prop} {AX : Nat → Prop} (hr : vx_Run p l e R s m args below meth c H locs cells slots mc ms (F0 m pc ls st0) rest (va_Qv post B A1 a) (vx_X px BX AX) free) (hS : va_S A0 H0 H locs) (hA : ∀ q, q < H.size → A1 q → A0 q) (hf : ∀ q, free q → A0 q) (hAX : ∀ q, q < H.size → AX q → A0 q)
    (kx : ∀ (E : String) (ce : Cell) (q9 : Addr) (u : SX) (t : State) (H1 : Heap) (locs1 : List Loc), t.heap = H1 → s.vm.Alike t.vm → px u → BX E u t → H.size ≤ H1.size → (∀ q : Nat, q < H.size → ¬ AX q → H1[q]? = H[q]?) → va_S A0 H0 H1 locs1 → H1[q9]? = some ce → ce.vm = .none → s.vm.findClass E = some ce.cls → vx_W p l e R s m args below meth c H1 locs1 (cells + mc) (slots + ms) Q (F0 m pc ls rest) q9)
    (kk : ∀ (u : S) (t : State) (H1 : Heap) (locs1 : List Loc), t.heap = H1 → s.vm.Alike t.vm → post u → B u t → H.size ≤ H1.size → (∀ q : Nat, q < H.size → ¬ A1 q → H1[q]? = H[q]?) → va_S A0 H0 H1 locs1 → W p l e R s m args below meth c H1 locs1 (cells + mc) (slots + ms) Q (F0 m (pc + 3) ls (rest))) : W p l e R s m args below meth c H locs cells slots Q (F0 m pc ls st0) := by
  intro T hT X
  rcases hr T hT X with ⟨v, st₀, t, T', L, h0, X', hL, e1, e2, ⟨⟨u, hv, hp, hb⟩, hF⟩, st⟩ | ⟨q, st₀, t, T', L, E, ce, h0, X', hL, e1, e2, ⟨u, hp, hb, hF⟩, hce, hcv, hcl, st⟩
  · cases hv
    obtain ⟨k1, k2, k3⟩ := vx_keep h0 e1 hS hA hf hL hF
    obtain ⟨t2, a1, b1⟩ := kk u t T'.heap (locs ++ L) e1.symm (by rw [← e2]; exact X'.warmed.alike) hp hb k1 k2 k3 T' rfl X'
    exact ⟨t2, st t2 a1, b1⟩
  · obtain ⟨k1, k2, k3⟩ := vx_keep h0 e1 hS hAX hf hL hF
    obtain ⟨t2, a1, b1⟩ := kx E ce q u t T'.heap (locs ++ L) e1.symm (by rw [← e2]; exact X'.warmed.alike) hp hb k1 k2 k3 (by rw [e1]; exact hce) hcv hcl T' rfl X'
    exact ⟨t2, st.trans a1, b1⟩
/-- caught by the row x of this method's table; the rows ahead don't take it -/
theorem vx_catch {own name : String} {E : String} {ce : Cell} {q : Addr} (hown : s.vm.findClass own = some m.cls) (pre : List ExceptionTableEntry) (x : ExceptionTableEntry) (suf : List ExceptionTableEntry) (hsplit : c.exceptionTable.toList = pre ++ x :: suf)
    (hpass : ∀ z ∈ pre, covers z pc = false ∨ (z.catchType ≠ 0 ∧ ∃ nm : String, (Cond.classLink own z.catchType nm).before args s = true ∧ va_Nc E nm s)) (hx : covers x pc = true) (h0 : x.catchType ≠ 0)
    (hlink : (Cond.classLink own x.catchType name).before args s = true) (hcast : (Cond.castable E name).before args s = true) (hcell : H[q]? = some ce) (hv : ce.vm = .none) (hcl : s.vm.findClass E = some ce.cls)
    (kk : W p l e R s m args below meth c H locs cells slots Q (F0 m x.handlerPc ls [.ref q])) : vx_W p l e R s m args below meth c H locs cells slots Q (F0 m pc ls rest) q := by
  intro T hT X
  have hpl : e.platform.magicAccessors = ({} : Platform).magicAccessors := by rw [X.admits.platform]
  obtain ⟨c3, c4, hc3, hc4, hasg⟩ := Cond.castable_spec hcast
  cases Option.some.inj (hc3.symm.trans hcl)
  obtain ⟨c5, hc5, hcl5⟩ := Cond.classLink_spec hown hlink e.platform hpl
  cases Option.some.inj (hc4.symm.trans hc5)
  obtain ⟨vm', X', st⟩ := X.thenCaughtThrough q (g := F0 m pc ls rest) rfl (Steps.refl _) (by rw [hT]; exact hcell) (by rw [hv]; rfl) (by obtain ⟨k9, h9, -⟩ := Vm.findClass_spec hcl; exact ⟨k9, h9⟩) pre x suf hsplit
    (fun z hz => by
      rcases hpass z hz with h | ⟨hz0, nm, hl1, hn1⟩
      · exact Or.inl h
      · obtain ⟨c6, hc6, hcl6⟩ := Cond.classLink_spec hown hl1 e.platform hpl
        obtain ⟨a8, b8, h1, h2, h3⟩ := hn1
        cases Option.some.inj (h1.symm.trans hcl)
        cases Option.some.inj (h2.symm.trans hc6)
        exact Or.inr ⟨hz0, _, hcl6, h3⟩) hx (Or.inr ⟨h0, c4, hcl5, hasg⟩)
  obtain ⟨t, a1, b1⟩ := kk (T.setVm vm') hT X'
  exact ⟨t, st.trans a1, b1⟩
end Rows
section Ends
variable {p : Program} {l : Launch} {e : Env} {R : Room} {s : State} {m : MethodId} {args : Array Value} {below : List Frame} {meth : Method} {c : Code} {H : Heap} {locs : List Loc} {cells slots : Nat} {Q : State → Prop}
variable {mc ms : Nat} {free : Addr → Prop} {A0 A1 : Nat → Prop} {H0 : Heap} {a : Array Value} {ls : Array Slot} {st0 rest : List Value}
variable {Qc : Array Value → State → Outcome → State → Prop} {XC : String → State → State → Prop}
/-- what a body that may throw owes at its end -/
def vx_MQ (below : List Frame) (Qc : Array Value → State → Outcome → State → Prop) (XC : String → State → State → Prop) (a : Array Value) (s : State) (mc ms : Nat) (free : Addr → Prop) : State → Prop := fun t =>
  ∃ o, t.status = .running ∧ Ended t below o ∧ vx_Q Qc XC mc ms free a s o t
theorem vx_ret {g : JFrame} {mc ms : Nat} (k : W p l e R s m args below meth c H locs cells slots (MQ below Qc args s mc ms free) g) : W p l e R s m args below meth c H locs cells slots (vx_MQ below Qc XC args s mc ms free) g := by
  intro T hT X
  obtain ⟨t, a1, o, b1, b2, b3, b4⟩ := k T hT X
  exact ⟨t, a1, o, b1, b2, Or.inl ⟨b3, b4⟩⟩
/-- not caught here: it goes on to the caller -/
theorem vx_widen {g : JFrame} {q : Addr} {k n : Nat} (h1 : cells ≤ k) (h2 : slots ≤ n) (kk : vx_W p l e R s m args below meth c H locs k n Q g q) : vx_W p l e R s m args below meth c H locs cells slots Q g q := fun T hT X => kk T hT (stand_widen X h1 h2)
theorem vx_out {pc : Nat} {E : String} {ce : Cell} {q : Addr} {mc ms : Nat} (hout : ∀ x ∈ c.exceptionTable.toList, covers x pc = false) (hlocks : meth.locks = false) (hcell : H[q]? = some ce) (hv : ce.vm = .none) (hcl : s.vm.findClass E = some ce.cls)
    (hx : ∀ t : State, t.heap = H → s.vm.Alike t.vm → XC E s t) (hf : ∀ z ∈ locs, free z.base) (hc : cells ≤ mc) (hs : slots ≤ ms) :
    vx_W p l e R s m args below meth c H locs cells slots (vx_MQ below Qc XC args s mc ms free) (F0 m pc ls rest) q := by
  intro T hT X
  obtain ⟨st1, hrun, hend, hW, hsm⟩ := X.leaveThrown q (g := F0 m pc ls rest) rfl rfl rfl hout hlocks
  have hcell9 : (T.setFrames (.throwing q :: below)).heap[q]? = some ce := by
    show T.heap[q]? = some ce
    rw [hT]; exact hcell
  exact ⟨_, st1, .threw q, hrun, hend, Or.inr ⟨q, rfl, E, ce, locs, hx _ hT hW.alike, hcell9, hv, hcl, hW, hsm.mono hc hs, hf⟩⟩
theorem vx_frame {U : State} {k n : Nat} (h : s.sameButNew ({ U with vm := s.vm } : State) locs k n) : s.heap.size ≤ U.heap.size ∧ ∀ q : Nat, q < s.heap.size → (∀ z ∈ locs, z.base ≠ q) → U.heap[q]? = s.heap[q]? := by
  obtain ⟨-, h2, -, -, -, h6⟩ := h
  refine ⟨h2, fun q hq hz => ?_⟩
  obtain ⟨c9, e1, e2, e3, e4⟩ := h6 q _ (Array.getElem?_eq_getElem hq)
  have hs : c9.slots = (s.heap[q]).slots := Array.ext_getElem? fun i => e4 i fun hm => hz _ hm rfl
  have h9 : c9 = s.heap[q] := by
    rw [hs] at e2
    exact e2
  have e5 : U.heap[q]? = some c9 := e1
  rw [e5, h9, Array.getElem?_eq_getElem hq]
/-- the words of a throw but the four that speak of the heap -/
def vx_no (w : Cond) : Bool := decide (w ≠ .isRef (.static Bundle.tN "UNASSIGNED_STACK" Bundle.steD)) && decide (w ≠ .isRef (.static Bundle.tN "SUPPRESSED_SENTINEL" Bundle.listD)) && decide (w ≠ .laysStatic Bundle.tN "UNASSIGNED_STACK" Bundle.steD) && decide (w ≠ .laysStatic Bundle.tN "SUPPRESSED_SENTINEL" Bundle.listD)
def vx_at0 (own : String) (ic : Nat) (X : String) (names : List String) : List Cond := (Bundle.ownAtoms0 own ic X names).filter vx_no
def vx_atS (own : String) (ic : Nat) (X : String) (names : List String) : List Cond := (Bundle.ownAtoms own ic X names).filter vx_no
/-- a word that the tables alone decide, or a good one -/
def vx_ot (w : Cond) : Bool := w.onTables || goodWord w
theorem vx_ot_at {args a' : Array Value} {s U : State} {w : Cond} (hW : s.WarmedH U.vm) (hvm : s.vm = U.vm) (hg : vx_ot w = true) (h : w.before args s = true) : w.before a' U = true := by
  simp only [vx_ot, Bool.or_eq_true] at hg
  rcases hg with hg | hg
  · exact va_tabs hg hvm h
  · exact word_at hW (good_of_word hg) h
/-- a list's words: the good ones out of the method's own list, the others by premises of their own -/
theorem vx_hat {args : Array Value} {s : State} {L B : List Cond} (h1 : ∀ w ∈ L.filter goodWord, w.before args s = true) (h2 : ∀ w ∈ L.filter (fun w => !goodWord w), w ∈ B) (h3 : ∀ w ∈ B, w.before args s = true) : ∀ w ∈ L, w.before args s = true := by
  intro w hw
  by_cases g : goodWord w = true
  · exact h1 w (List.mem_filter.mpr ⟨hw, g⟩)
  · refine h3 w (h2 w (List.mem_filter.mpr ⟨hw, ?_⟩))
    show (!goodWord w) = true
    cases hgw : goodWord w
    · rfl
    · exact absurd hgw g
theorem vx_c {args : Array Value} {s : State} {w : Cond} {B : List Cond} (h : w.before args s = true) (t : ∀ w ∈ B, w.before args s = true) : ∀ w' ∈ w :: B, w'.before args s = true := fun w' h' => (List.mem_cons.mp h').elim (fun e => by rw [e]; exact h) (t w')
theorem vx_n {args : Array Value} {s : State} : ∀ w ∈ ([] : List Cond), w.before args s = true := fun _ h => nomatch h
theorem vx_own {args : Array Value} {s : State} {L : List Cond} (h1 : ∀ w ∈ L.filter vx_no, w.before args s = true)
    (hU : (Cond.isRef (.static Bundle.tN "UNASSIGNED_STACK" Bundle.steD)).before args s = true) (hN : (Cond.isRef (.static Bundle.tN "SUPPRESSED_SENTINEL" Bundle.listD)).before args s = true)
    (lU : (Cond.laysStatic Bundle.tN "UNASSIGNED_STACK" Bundle.steD).before args s = true) (lN : (Cond.laysStatic Bundle.tN "SUPPRESSED_SENTINEL" Bundle.listD).before args s = true) : ∀ w ∈ L, w.before args s = true := by
  intro w hw
  by_cases e1 : w = .isRef (.static Bundle.tN "UNASSIGNED_STACK" Bundle.steD)
  · rw [e1]; exact hU
  · by_cases e2 : w = .isRef (.static Bundle.tN "SUPPRESSED_SENTINEL" Bundle.listD)
    · rw [e2]; exact hN
    · by_cases e3 : w = .laysStatic Bundle.tN "UNASSIGNED_STACK" Bundle.steD
      · rw [e3]; exact lU
      · by_cases e4 : w = .laysStatic Bundle.tN "SUPPRESSED_SENTINEL" Bundle.listD
        · rw [e4]; exact lN
        · exact h1 w (List.mem_filter.mpr ⟨hw, by unfold vx_no; rw [decide_eq_true e1, decide_eq_true e2, decide_eq_true e3, decide_eq_true e4]; rfl⟩)
/-- where a static field lies, its class's statics cell in H -/
def vx_L (C n d : String) (A : Nat → Prop) (U : State) (H : Heap) : Prop := ∃ (c : ClassId) (k : Class) (i : Nat) (f : Field) (a : Nat) (cell : Cell), U.vm.findClass C = some c ∧ U.fieldFound? C n d = some (c, k, i, f) ∧ f.isStatic = true ∧ k.statics = some a ∧ H[a]? = some cell ∧ cell.vm.isStatics = true ∧ cell.cls = c ∧ f.slot < cell.slots.size ∧ k.staticTypes[f.slot]? = some f.type ∧ ¬ A a
theorem vx_L.moved {C n d : String} {A : Nat → Prop} {u U : State} {H : Heap} (hvm : u.vm.Alike U.vm) (h : vx_L C n d A u H) : vx_L C n d A U H := by
  obtain ⟨c, k, i, f, a, cell, h1, h2, h3, h4, h5, h6, h7, h8, h9, h10⟩ := h
  obtain ⟨k', hi', he⟩ := State.fieldFound?_setVm hvm h2
  exact ⟨c, k', i, f, a, cell, by rw [hvm.findClass]; exact h1, hi', h3, by rw [he]; exact h4, h5, h6, h7, h8, by rw [he]; exact h9, h10⟩
theorem vx_L.kept {C n d : String} {A : Nat → Prop} {U : State} {H H1 : Heap} (h : vx_L C n d A U H) (hq : ∀ a : Nat, a < H.size → ¬ A a → H1[a]? = H[a]?) : vx_L C n d A U H1 := by
  obtain ⟨c, k, i, f, a, cell, h1, h2, h3, h4, h5, h6, h7, h8, h9, h10⟩ := h
  exact ⟨c, k, i, f, a, cell, h1, h2, h3, h4, by rw [hq a (Array.getElem?_eq_some_iff.mp h5).1 h10]; exact h5, h6, h7, h8, h9, h10⟩
theorem vx_L.narrow {C n d : String} {A B : Nat → Prop} {U : State} {H : Heap} (h : vx_L C n d A U H) (hAB : ∀ q, B q → A q) : vx_L C n d B U H := by
  obtain ⟨c, k, i, f, a, cell, h1, h2, h3, h4, h5, h6, h7, h8, h9, h10⟩ := h
  exact ⟨c, k, i, f, a, cell, h1, h2, h3, h4, h5, h6, h7, h8, h9, fun z => h10 (hAB _ z)⟩
theorem vx_L.word {C n d : String} {A : Nat → Prop} {s : State} {args : Array Value} (h : vx_L C n d A s s.heap) : (Cond.laysStatic C n d).before args s = true := by
  obtain ⟨c, k, i, f, a, cell, h1, h2, h3, h4, h5, h6, h7, h8, h9, -⟩ := h
  show (Cond.laysStatic C n d).holds args s none s [] = true
  exact Cond.laysStatic_of h1 h2 h3 h4 h5 h6 h7 h8 h9
/-- .. and what it holds: null or some reference -/
def vx_Zq (C n d : String) (A : Nat → Prop) (U : State) (H : Heap) : Prop := va_Zq C n d A U H ∧ vx_L C n d A U H
theorem vx_Zq.moved {C n d : String} {A : Nat → Prop} {u U : State} {H : Heap} (hvm : u.vm.Alike U.vm) (h : vx_Zq C n d A u H) : vx_Zq C n d A U H := ⟨va_Zq.moved hvm h.1, vx_L.moved hvm h.2⟩
theorem vx_Zq.kept {C n d : String} {A : Nat → Prop} {U : State} {H H1 : Heap} (h : vx_Zq C n d A U H) (hq : ∀ a : Nat, a < H.size → ¬ A a → H1[a]? = H[a]?) : vx_Zq C n d A U H1 := ⟨va_Zq.kept h.1 hq, vx_L.kept h.2 hq⟩
theorem vx_Zq.narrow {C n d : String} {A B : Nat → Prop} {U : State} {H : Heap} (h : vx_Zq C n d A U H) (hAB : ∀ q, B q → A q) : vx_Zq C n d B U H := ⟨va_Zq.narrow h.1 hAB, vx_L.narrow h.2 hAB⟩
theorem vx_Zqof {args : Array Value} {s : State} {C n d : String} {A : Nat → Prop} (hl : (Cond.laysStatic C n d).before args s = true) (hini : (Cond.initialized C).before args s = true) (h : (Cond.isRef (.static C n d)).before args s = true) (hA : ∀ a : Nat, a < s.heap.size → ¬ A a) : vx_Zq C n d A s s.heap := by
  refine ⟨va_Zqof hl hini h hA, ?_⟩
  obtain ⟨c, k, i, f, a, cell, h1, h2, h3, h4, h5, h6, h7, h8, h9⟩ := Cond.laysStatic_spec hl
  exact ⟨c, k, i, f, a, cell, h1, h2, h3, h4, h5, h6, h7, h8, h9, hA a (Array.getElem?_eq_some_iff.mp h5).1⟩
theorem vx_isRef {C n d : String} {v : Value} {A : Nat → Prop} {s : State} {args : Array Value} (h : va_Z C n d v A s s.heap) (hv : v.isRef = true) : (Cond.isRef (.static C n d)).before args s = true := by
  obtain ⟨cf, kf, fi, f, a, cell, h1, h2, h3, h4, h5, h6, h7, -⟩ := h
  have he : (Term.static C n d).eval args s none [] s = some v := by
    simp [Term.eval, State.fieldNamed?, h1, h2, h4, h5, h6, h7]
  simp only [Cond.before, Cond.holds, Cond.value, he]
  cases v <;> simp_all [Value.isRef]
theorem vx_isRefq {C n d : String} {A : Nat → Prop} {s : State} {args : Array Value} (h : va_Zq C n d A s s.heap) : (Cond.isRef (.static C n d)).before args s = true := by
  rcases h with h | ⟨t, h⟩
  · exact vx_isRef h rfl
  · exact vx_isRef h rfl
/-- the same frame, seen from here: as if the method were called anew in this heap -/
theorem vx_rebase {T : State} (X : Stand p l e R s m args below meth c T locs cells slots) {R' : Room} (hf : R'.frames ≤ R.frames) (hl : R'.locals ≤ R.locals) (hc : cells + R'.cells ≤ R.cells) (hs : slots + R'.slots ≤ R.slots) :
    Stand p l e R' ((T.setVm s.vm).setFrames (.invoking m args :: below)) m args below meth c T [] 0 0 := by
  have htop : (T.setVm s.vm).topJava?.isSome := X.here.top
  have hF : ((T.setVm s.vm).setFrames (.invoking m args :: below)).frames = .invoking m args :: below := State.frames_setFrames _ (State.cur_lt_of_top htop)
  obtain ⟨g₀, hg0⟩ := Option.isSome_iff_exists.mp htop
  obtain ⟨r, hr⟩ := State.topJava?_eq_some.mp hg0
  have hl9 : e.platform.stackLimits (T.setVm s.vm).me = e.platform.stackLimits s.me := X.limits
  have hb9 : (T.setVm s.vm).me.stackBytes = s.me.stackBytes := X.bytes
  refine ⟨X.admits, X.cas, X.clock, hF, ?_, X.hears, X.method, X.code, X.here, X.tail, X.warmed, ?_, ?_, ?_⟩
  · have h := X.room
    have hU : ((T.setVm s.vm).setFrames (.invoking m args :: below)).localsInUse = s.localsInUse := by
      rw [State.localsInUse_invoking hF (meth := meth) (c := c) X.method X.code, State.localsInUse_invoking X.frames X.method X.code]
    simp only [State.hasRoom, Bool.and_eq_true, decide_eq_true_eq] at h ⊢
    obtain ⟨⟨⟨⟨h1, h2, h3, h4, h5, h6⟩, h7⟩, h8⟩, h9⟩ := h
    rw [X.frames, List.length_cons] at h2 h3
    have q1 := X.heapSize
    have q2 := X.used
    simp only [hF, hU, List.length_cons, State.stackLimits_setFrames, State.stackBytes_setFrames, hl9, hb9]
    refine ⟨⟨⟨⟨by omega, by omega, by omega, by omega, by omega, h6⟩, ?_⟩, ?_⟩, X.book⟩
    · show T.heap.size + R'.cells ≤ e.platform.maxCells
      omega
    · show T.slotsUsed + R'.slots ≤ e.platform.maxSlots
      omega
  · rw [State.stackLimits_setFrames]; rfl
  · rw [State.stackBytes_setFrames]; rfl
  · refine ⟨?_, Nat.le_refl _, Nat.le_refl _, ?_, ?_, fun a c9 h9 => ⟨c9, h9, rfl, rfl, fun _ _ => rfl⟩⟩
    · obtain ⟨t, ht, -⟩ := State.frames_cons hr
      show T.setVm s.vm = { ((T.setVm s.vm).setFrames (.invoking m args :: below)).setFrames (T.setVm s.vm).frames with heap := T.heap, slotsUsed := T.slotsUsed }
      rw [State.setFrames_setFrames, State.setFrames_self ht]
      rfl
    · show T.slotsUsed = T.slotsUsed + ((T.heap.toList.drop T.heap.size).map (·.slots.size)).sum
      rw [List.drop_eq_nil_of_le (Nat.le_of_eq Array.length_toList)]
      rfl
    · show ((T.heap.toList.drop T.heap.size).map (·.slots.size)).sum ≤ 0
      rw [List.drop_eq_nil_of_le (Nat.le_of_eq Array.length_toList)]
      exact Nat.le_refl _
/-- 'throw new E()': new; dup; invokespecial; athrow -/
theorem vx_throw0 {cc : ByteArray} {pc : Nat} (hexec : p.tables.exec = Jvm.exec) (hb : c.code = cc) (hl : l.stackTraces = false) {own cls : String} {names : List String} {ik ic mc ms : Nat} {A : Nat → Prop}
    (hown : s.vm.findClass own = some m.cls) (hcls : Bundle.fit cls = true) (hnames : ∀ n ∈ names, Bundle.fit n = true)
    (hk : (Cond.classLink own ik cls).before args s = true) (hini : (Cond.initialized cls).before args s = true) (hat : ∀ w ∈ vx_at0 own ic cls names, w.before args s = true)
    (hgood : ∀ w ∈ Cond.classLink own ik cls :: Cond.initialized cls :: vx_at0 own ic cls names, vx_ot w = true)
    (hU : vx_Zq Bundle.tN "UNASSIGNED_STACK" Bundle.steD A s s.heap) (hN : vx_Zq Bundle.tN "SUPPRESSED_SENTINEL" Bundle.listD A s s.heap) (hS : va_S A s.heap H locs) (hsize : ls.size = c.maxLocals)
    (d0 : decode cc pc = .ok (.new ik, 3)) (d3 : decode cc (pc + 3) = .ok (.dup, 1)) (d4 : decode cc (pc + 4) = .ok (.invokespecial ic, 3)) (d7 : decode cc (pc + 7) = .ok (.athrow, 1))
    (hout : ∀ x ∈ c.exceptionTable.toList, covers x (pc + 7) = false)
    (hRframes : names.length + 3 < R.frames) (hRlocals : (rest.map fun v => v.category).sum + (13 * (names.length + 1) + 42) ≤ R.locals) (hRcells : cells + 1 ≤ R.cells) (hRslots : slots + 6 ≤ R.slots) (hlocks : meth.locks = false)
    (hx : ∀ t : State, s.vm.Alike t.vm → H.size ≤ t.heap.size → (∀ q : Nat, q < H.size → t.heap[q]? = H[q]?) → XC cls s t)
    (hf : ∀ z ∈ locs, free z.base) (hc : cells + 1 ≤ mc) (hs : slots + 6 ≤ ms) :
    W p l e R s m args below meth c H locs cells slots (vx_MQ below Qc XC args s mc ms free) (F0 m pc ls rest) := by
  intro T hT X
  have htr : e.platform.stackTraces = false := (show e.platform.stackTraces = l.stackTraces by rw [X.admits.platform]).trans hl
  have Y := vx_rebase X (R' := { frames := R.frames, locals := R.locals, cells := 1, slots := 6 }) (Nat.le_refl _) (Nat.le_refl _) hRcells hRslots
  obtain ⟨s', hA⟩ : ∃ z, z = (T.setVm s.vm).setFrames (.invoking m args :: below) := ⟨_, rfl⟩
  rw [← hA] at Y
  have hvm : s'.vm = s.vm := by rw [hA]; rfl
  have hhp : s'.heap = H := by rw [hA]; exact hT
  have hW0 : s.WarmedH s'.vm := by rw [hvm]; exact State.WarmedH.refl s
  have hat' : ∀ w ∈ vx_at0 own ic cls names, w.before args s' = true := fun w hw => vx_ot_at hW0 hvm.symm (hgood w (List.mem_cons_of_mem _ (List.mem_cons_of_mem _ hw))) (hat w hw)
  have hk' : (Cond.classLink own ik cls).before args s' = true := vx_ot_at hW0 hvm.symm (hgood _ List.mem_cons_self) hk
  have hini' : (Cond.initialized cls).before args s' = true := vx_ot_at hW0 hvm.symm (hgood _ (List.mem_cons_of_mem _ List.mem_cons_self)) hini
  have hU' : vx_Zq Bundle.tN "UNASSIGNED_STACK" Bundle.steD A s' s'.heap := by rw [hhp]; exact vx_Zq.moved hW0.alike (hU.kept hS.2.1)
  have hN' : vx_Zq Bundle.tN "SUPPRESSED_SENTINEL" Bundle.listD A s' s'.heap := by rw [hhp]; exact vx_Zq.moved hW0.alike (hN.kept hS.2.1)
  have h : ∀ w ∈ Bundle.ownAtoms0 own ic cls names, w.before args s' = true := vx_own hat' (vx_isRefq hU'.1) (vx_isRefq hN'.1) hU'.2.word hN'.2.word
  have hown' : s'.vm.findClass own = some m.cls := by rw [hvm]; exact hown
  have hins : (Cond.instantiable cls 6).before args s' = true := h _ (by simp [Bundle.ownAtoms0])
  obtain ⟨vm₁, cX, kX, hfX, hkX, -, -, X₁, st1⟩ := Y.newCold hexec (own := own) (C := cls) (index := ik) (n := 6) hown' hk' hins hini'
    (g := F0 m pc ls rest) rfl (by rw [hb]; exact d0) (Nat.le_refl _) (Nat.le_refl _)
  generalize hT1 : (T.setVm vm₁).pushCell { cls := cX, slots := kX.instanceTypes.map defaultValue, vm := .none } = T1 at X₁ st1
  have hcat : (Value.ref T.heap.size).category = 1 := rfl
  have hcellA : T1.heap[T.heap.size]? = some (freshCell cX kX) := by rw [← hT1]; exact State.heap_pushCell_size _ _
  have d3' : decode c.code (pc + 3) = .ok (.dup, 1) := by rw [hb]; exact d3
  obtain ⟨U, hsteps, hrun, hend, hW, hsame, ce, hce, hO⟩ := X₁.ctorThrow0 hexec htr (own := own) (cls := cls) (names := names) (ic := ic) hown' hcls hnames h (fun x hx => nomatch hx) hfX hkX hcellA (by rw [hhp, hT]; exact Nat.le_refl _)
    (g := { method := m, pc := pc + 4, locals := ls, stack := .ref T.heap.size :: .ref T.heap.size :: rest, locked := none }) rfl hsize rfl rfl (rest := rest) rfl
    (by rw [hb]; exact d4) (by rw [hb]; exact d7) hout hRframes (by simp only [List.map_cons, List.sum_cons, hcat]; omega) hlocks
  obtain ⟨f1, f2⟩ := vx_frame hsame
  rw [hhp] at f1 f2
  have hWs : s.WarmedH U.vm := State.WarmedH.trans hW0 hW
  have hcl : s.vm.findClass cls = some ce.cls := by
    have h9 := hO.cls
    rw [hvm] at h9
    exact h9
  have hall : s.sameButNew ({ U with vm := s.vm } : State) locs mc ms := by
    subst hA
    obtain ⟨e1, e2⟩ := hsame
    rw [State.setFrames_setFrames] at e1
    have h2 : (T.setVm s.vm).sameButNew ({ U with vm := s.vm } : State) [] (0 + 1) (0 + 6) := ⟨e1, e2⟩
    have h3 := X.same.trans h2
    rw [List.append_nil] at h3
    exact h3.mono hc hs
  refine ⟨U, ?_, .threw T.heap.size, hrun, hend, Or.inr ⟨T.heap.size, rfl, cls, ce, locs, hx U hWs.alike f1 (fun q hq => f2 q hq (fun z hz => nomatch hz)), hce, hO.vm, hcl, hWs, hall, hf⟩⟩
  refine st1 _ ?_
  show Steps p.tables e below (T1.setTop { method := m, pc := pc + 3, locals := ls, stack := .ref T.heap.size :: rest, locked := none }) _
  jvm_step X₁.here [X₁.here.top, hexec, d3', Value.category]
  exact hsteps
/-- 'throw new E("text")': new; dup; ldc; invokespecial; athrow -/
theorem vx_throwS {cc : ByteArray} {pc : Nat} (hexec : p.tables.exec = Jvm.exec) (hb : c.code = cc) (hl : l.stackTraces = false) {own cls text : String} {names : List String} {ik is ic mc ms sa : Nat} {A : Nat → Prop}
    (hown : s.vm.findClass own = some m.cls) (hcls : Bundle.fit cls = true) (hnames : ∀ n ∈ names, Bundle.fit n = true)
    (hk : (Cond.classLink own ik cls).before args s = true) (hini : (Cond.initialized cls).before args s = true) (hstr : vk_R own is text sa s) (hat : ∀ w ∈ vx_atS own ic cls names, w.before args s = true)
    (hgood : ∀ w ∈ Cond.classLink own ik cls :: Cond.initialized cls :: vx_atS own ic cls names, vx_ot w = true)
    (hU : vx_Zq Bundle.tN "UNASSIGNED_STACK" Bundle.steD A s s.heap) (hN : vx_Zq Bundle.tN "SUPPRESSED_SENTINEL" Bundle.listD A s s.heap) (hS : va_S A s.heap H locs) (hsize : ls.size = c.maxLocals)
    (d0 : decode cc pc = .ok (.new ik, 3)) (d3 : decode cc (pc + 3) = .ok (.dup, 1)) (d4 : decode cc (pc + 4) = .ok (.ldc is, 2)) (d6 : decode cc (pc + 6) = .ok (.invokespecial ic, 3)) (d9 : decode cc (pc + 9) = .ok (.athrow, 1))
    (hout : ∀ x ∈ c.exceptionTable.toList, covers x (pc + 9) = false)
    (hRframes : names.length + 3 < R.frames) (hRlocals : (rest.map fun v => v.category).sum + (13 * (names.length + 1) + 43) ≤ R.locals) (hRcells : cells + 1 ≤ R.cells) (hRslots : slots + 6 ≤ R.slots) (hlocks : meth.locks = false)
    (hx : ∀ t : State, s.vm.Alike t.vm → H.size ≤ t.heap.size → (∀ q : Nat, q < H.size → t.heap[q]? = H[q]?) → XC cls s t)
    (hf : ∀ z ∈ locs, free z.base) (hc : cells + 1 ≤ mc) (hs : slots + 6 ≤ ms) :
    W p l e R s m args below meth c H locs cells slots (vx_MQ below Qc XC args s mc ms free) (F0 m pc ls rest) := by
  intro T hT X
  have htr : e.platform.stackTraces = false := (show e.platform.stackTraces = l.stackTraces by rw [X.admits.platform]).trans hl
  have Y := vx_rebase X (R' := { frames := R.frames, locals := R.locals, cells := 1, slots := 6 }) (Nat.le_refl _) (Nat.le_refl _) hRcells hRslots
  obtain ⟨s', hA⟩ : ∃ z, z = (T.setVm s.vm).setFrames (.invoking m args :: below) := ⟨_, rfl⟩
  rw [← hA] at Y
  have hvm : s'.vm = s.vm := by rw [hA]; rfl
  have hhp : s'.heap = H := by rw [hA]; exact hT
  have hW0 : s.WarmedH s'.vm := by rw [hvm]; exact State.WarmedH.refl s
  have hat' : ∀ w ∈ vx_atS own ic cls names, w.before args s' = true := fun w hw => vx_ot_at hW0 hvm.symm (hgood w (List.mem_cons_of_mem _ (List.mem_cons_of_mem _ hw))) (hat w hw)
  have hk' : (Cond.classLink own ik cls).before args s' = true := vx_ot_at hW0 hvm.symm (hgood _ List.mem_cons_self) hk
  have hini' : (Cond.initialized cls).before args s' = true := vx_ot_at hW0 hvm.symm (hgood _ (List.mem_cons_of_mem _ List.mem_cons_self)) hini
  have hU' : vx_Zq Bundle.tN "UNASSIGNED_STACK" Bundle.steD A s' s'.heap := by rw [hhp]; exact vx_Zq.moved hW0.alike (hU.kept hS.2.1)
  have hN' : vx_Zq Bundle.tN "SUPPRESSED_SENTINEL" Bundle.listD A s' s'.heap := by rw [hhp]; exact vx_Zq.moved hW0.alike (hN.kept hS.2.1)
  have h : ∀ w ∈ Bundle.ownAtoms own ic cls names, w.before args s' = true := vx_own hat' (vx_isRefq hU'.1) (vx_isRefq hN'.1) hU'.2.word hN'.2.word
  have hown' : s'.vm.findClass own = some m.cls := by rw [hvm]; exact hown
  have hins : (Cond.instantiable cls 6).before args s' = true := h _ (by simp [Bundle.ownAtoms])
  obtain ⟨vm₁, cX, kX, hfX, hkX, -, -, X₁, st1⟩ := Y.newCold hexec (own := own) (C := cls) (index := ik) (n := 6) hown' hk' hins hini'
    (g := F0 m pc ls rest) rfl (by rw [hb]; exact d0) (Nat.le_refl _) (Nat.le_refl _)
  generalize hT1 : (T.setVm vm₁).pushCell { cls := cX, slots := kX.instanceTypes.map defaultValue, vm := .none } = T1 at X₁ st1
  have hcat : (Value.ref T.heap.size).category = 1 := rfl
  have hcellA : T1.heap[T.heap.size]? = some (freshCell cX kX) := by rw [← hT1]; exact State.heap_pushCell_size _ _
  have d3' : decode c.code (pc + 3) = .ok (.dup, 1) := by rw [hb]; exact d3
  have d4' : decode c.code (pc + 4) = .ok (.ldc is, 2) := by rw [hb]; exact d4
  have hstr' : vk_R own is text sa s' := vk_R.warm hW0 hstr
  obtain ⟨U, hsteps, hrun, hend, hW, hsame, ce, hce, hO⟩ := X₁.ctorThrowS hexec htr (own := own) (cls := cls) (names := names) (ic := ic) hown' hcls hnames h (fun x hx => nomatch hx) hfX hkX hcellA (by rw [hhp, hT]; exact Nat.le_refl _) (msg := .ref sa) rfl
    (g := { method := m, pc := pc + 6, locals := ls, stack := .ref sa :: .ref T.heap.size :: .ref T.heap.size :: rest, locked := none }) rfl hsize rfl rfl (rest := rest) rfl
    (by rw [hb]; exact d6) (by rw [hb]; exact d9) hout hRframes (by simp only [List.map_cons, List.sum_cons, hcat]; omega) hlocks
  obtain ⟨f1, f2⟩ := vx_frame hsame
  rw [hhp] at f1 f2
  have hWs : s.WarmedH U.vm := State.WarmedH.trans hW0 hW
  have hcl : s.vm.findClass cls = some ce.cls := by
    have h9 := hO.cls
    rw [hvm] at h9
    exact h9
  have hall : s.sameButNew ({ U with vm := s.vm } : State) locs mc ms := by
    subst hA
    obtain ⟨e1, e2⟩ := hsame
    rw [State.setFrames_setFrames] at e1
    have h2 : (T.setVm s.vm).sameButNew ({ U with vm := s.vm } : State) [] (0 + 1) (0 + 6) := ⟨e1, e2⟩
    have h3 := X.same.trans h2
    rw [List.append_nil] at h3
    exact h3.mono hc hs
  refine ⟨U, ?_, .threw T.heap.size, hrun, hend, Or.inr ⟨T.heap.size, rfl, cls, ce, locs, hx U hWs.alike f1 (fun q hq => f2 q hq (fun z hz => nomatch hz)), hce, hO.vm, hcl, hWs, hall, hf⟩⟩
  refine st1 _ ?_
  show Steps p.tables e below (T1.setTop { method := m, pc := pc + 3, locals := ls, stack := .ref T.heap.size :: rest, locked := none }) _
  jvm_step X₁.here [X₁.here.top, hexec, d3', Value.category]
  exact X₁.ldcString hexec (own := own) (text := text) (index := is) (a := sa) hown' hstr'.1 hstr'.2
    (g := { method := m, pc := pc + 4, locals := ls, stack := .ref T.heap.size :: .ref T.heap.size :: rest, locked := none }) rfl d4' _ hsteps
/-- 'throw new E("text")', the text by a wide index -/
theorem vx_throwSW {cc : ByteArray} {pc : Nat} (hexec : p.tables.exec = Jvm.exec) (hb : c.code = cc) (hl : l.stackTraces = false) {own cls text : String} {names : List String} {ik is ic mc ms sa : Nat} {A : Nat → Prop}
    (hown : s.vm.findClass own = some m.cls) (hcls : Bundle.fit cls = true) (hnames : ∀ n ∈ names, Bundle.fit n = true)
    (hk : (Cond.classLink own ik cls).before args s = true) (hini : (Cond.initialized cls).before args s = true) (hstr : vk_R own is text sa s) (hat : ∀ w ∈ vx_atS own ic cls names, w.before args s = true)
    (hgood : ∀ w ∈ Cond.classLink own ik cls :: Cond.initialized cls :: vx_atS own ic cls names, vx_ot w = true)
    (hU : vx_Zq Bundle.tN "UNASSIGNED_STACK" Bundle.steD A s s.heap) (hN : vx_Zq Bundle.tN "SUPPRESSED_SENTINEL" Bundle.listD A s s.heap) (hS : va_S A s.heap H locs) (hsize : ls.size = c.maxLocals)
    (d0 : decode cc pc = .ok (.new ik, 3)) (d3 : decode cc (pc + 3) = .ok (.dup, 1)) (d4 : decode cc (pc + 4) = .ok (.ldc_w is, 3)) (d7 : decode cc (pc + 7) = .ok (.invokespecial ic, 3)) (d10 : decode cc (pc + 10) = .ok (.athrow, 1))
    (hout : ∀ x ∈ c.exceptionTable.toList, covers x (pc + 10) = false)
    (hRframes : names.length + 3 < R.frames) (hRlocals : (rest.map fun v => v.category).sum + (13 * (names.length + 1) + 43) ≤ R.locals) (hRcells : cells + 1 ≤ R.cells) (hRslots : slots + 6 ≤ R.slots) (hlocks : meth.locks = false)
    (hx : ∀ t : State, s.vm.Alike t.vm → H.size ≤ t.heap.size → (∀ q : Nat, q < H.size → t.heap[q]? = H[q]?) → XC cls s t)
    (hf : ∀ z ∈ locs, free z.base) (hc : cells + 1 ≤ mc) (hs : slots + 6 ≤ ms) :
    W p l e R s m args below meth c H locs cells slots (vx_MQ below Qc XC args s mc ms free) (F0 m pc ls rest) := by
  intro T hT X
  have htr : e.platform.stackTraces = false := (show e.platform.stackTraces = l.stackTraces by rw [X.admits.platform]).trans hl
  have Y := vx_rebase X (R' := { frames := R.frames, locals := R.locals, cells := 1, slots := 6 }) (Nat.le_refl _) (Nat.le_refl _) hRcells hRslots
  obtain ⟨s', hA⟩ : ∃ z, z = (T.setVm s.vm).setFrames (.invoking m args :: below) := ⟨_, rfl⟩
  rw [← hA] at Y
  have hvm : s'.vm = s.vm := by rw [hA]; rfl
  have hhp : s'.heap = H := by rw [hA]; exact hT
  have hW0 : s.WarmedH s'.vm := by rw [hvm]; exact State.WarmedH.refl s
  have hat' : ∀ w ∈ vx_atS own ic cls names, w.before args s' = true := fun w hw => vx_ot_at hW0 hvm.symm (hgood w (List.mem_cons_of_mem _ (List.mem_cons_of_mem _ hw))) (hat w hw)
  have hk' : (Cond.classLink own ik cls).before args s' = true := vx_ot_at hW0 hvm.symm (hgood _ List.mem_cons_self) hk
  have hini' : (Cond.initialized cls).before args s' = true := vx_ot_at hW0 hvm.symm (hgood _ (List.mem_cons_of_mem _ List.mem_cons_self)) hini
  have hU' : vx_Zq Bundle.tN "UNASSIGNED_STACK" Bundle.steD A s' s'.heap := by rw [hhp]; exact vx_Zq.moved hW0.alike (hU.kept hS.2.1)
  have hN' : vx_Zq Bundle.tN "SUPPRESSED_SENTINEL" Bundle.listD A s' s'.heap := by rw [hhp]; exact vx_Zq.moved hW0.alike (hN.kept hS.2.1)
  have h : ∀ w ∈ Bundle.ownAtoms own ic cls names, w.before args s' = true := vx_own hat' (vx_isRefq hU'.1) (vx_isRefq hN'.1) hU'.2.word hN'.2.word
  have hown' : s'.vm.findClass own = some m.cls := by rw [hvm]; exact hown
  have hins : (Cond.instantiable cls 6).before args s' = true := h _ (by simp [Bundle.ownAtoms])
  obtain ⟨vm₁, cX, kX, hfX, hkX, -, -, X₁, st1⟩ := Y.newCold hexec (own := own) (C := cls) (index := ik) (n := 6) hown' hk' hins hini'
    (g := F0 m pc ls rest) rfl (by rw [hb]; exact d0) (Nat.le_refl _) (Nat.le_refl _)
  generalize hT1 : (T.setVm vm₁).pushCell { cls := cX, slots := kX.instanceTypes.map defaultValue, vm := .none } = T1 at X₁ st1
  have hcat : (Value.ref T.heap.size).category = 1 := rfl
  have hcellA : T1.heap[T.heap.size]? = some (freshCell cX kX) := by rw [← hT1]; exact State.heap_pushCell_size _ _
  have d3' : decode c.code (pc + 3) = .ok (.dup, 1) := by rw [hb]; exact d3
  have d4' : decode c.code (pc + 4) = .ok (.ldc_w is, 3) := by rw [hb]; exact d4
  have hstr' : vk_R own is text sa s' := vk_R.warm hW0 hstr
  obtain ⟨U, hsteps, hrun, hend, hW, hsame, ce, hce, hO⟩ := X₁.ctorThrowS hexec htr (own := own) (cls := cls) (names := names) (ic := ic) hown' hcls hnames h (fun x hx => nomatch hx) hfX hkX hcellA (by rw [hhp, hT]; exact Nat.le_refl _) (msg := .ref sa) rfl
    (g := { method := m, pc := pc + 7, locals := ls, stack := .ref sa :: .ref T.heap.size :: .ref T.heap.size :: rest, locked := none }) rfl hsize rfl rfl (rest := rest) rfl
    (by rw [hb]; exact d7) (by rw [hb]; exact d10) hout hRframes (by simp only [List.map_cons, List.sum_cons, hcat]; omega) hlocks
  obtain ⟨f1, f2⟩ := vx_frame hsame
  rw [hhp] at f1 f2
  have hWs : s.WarmedH U.vm := State.WarmedH.trans hW0 hW
  have hcl : s.vm.findClass cls = some ce.cls := by
    have h9 := hO.cls
    rw [hvm] at h9
    exact h9
  have hall : s.sameButNew ({ U with vm := s.vm } : State) locs mc ms := by
    subst hA
    obtain ⟨e1, e2⟩ := hsame
    rw [State.setFrames_setFrames] at e1
    have h2 : (T.setVm s.vm).sameButNew ({ U with vm := s.vm } : State) [] (0 + 1) (0 + 6) := ⟨e1, e2⟩
    have h3 := X.same.trans h2
    rw [List.append_nil] at h3
    exact h3.mono hc hs
  refine ⟨U, ?_, .threw T.heap.size, hrun, hend, Or.inr ⟨T.heap.size, rfl, cls, ce, locs, hx U hWs.alike f1 (fun q hq => f2 q hq (fun z hz => nomatch hz)), hce, hO.vm, hcl, hWs, hall, hf⟩⟩
  refine st1 _ ?_
  show Steps p.tables e below (T1.setTop { method := m, pc := pc + 3, locals := ls, stack := .ref T.heap.size :: rest, locked := none }) _
  jvm_step X₁.here [X₁.here.top, hexec, d3', Value.category]
  exact X₁.ldcStringW hexec (own := own) (text := text) (index := is) (a := sa) hown' hstr'.1 hstr'.2
    (g := { method := m, pc := pc + 4, locals := ls, stack := .ref T.heap.size :: .ref T.heap.size :: rest, locked := none }) rfl d4' _ hsteps
end Ends
section Bodies
variable {l : Launch}
theorem vx_ofW {y : MethodName} {ws ws' : List Cond} {rm : Room} {Pc : Array Value → State → Prop} {Qc : Array Value → State → Outcome → State → Prop} {XC : String → State → State → Prop} {mc ms : Nat} {free : Addr → Prop} {cc : ByteArray} {maxL : Nat} {ret : Option FieldType}
    (hy : plainName y.cls = true) (hw : ws = Cond.code y cc maxL ret :: ws')
    (body : ∀ p e s m args below meth c s₁, BodyLoose p l y (headSpec ws rm) cc maxL ret e s m args below meth c s₁ → c.maxLocals = maxL → (∀ x ∈ c.exceptionTable.toList, False) → Pc args s →
      W p l e (headSpec ws rm).room s m args below meth c s.heap [] 0 0 (vx_MQ below Qc XC args s mc ms free) (entryFrame m args maxL)) : vx_Met l y ws rm Pc Qc XC mc ms free := by
  refine MetFree.of_bodyS (code := cc) (maxLocals := maxL) (ret := ret) hy ?_ ?_
  · intro args s m h hn
    obtain ⟨meth, c, h1, h2, h3, h4, h5, h6, -, -⟩ := Cond.code_spec hn (atoms_spec (ws := ws) h _ (by rw [hw]; exact List.mem_cons_self))
    exact ⟨meth, c, h1, h2, h3, h4, h5, h6⟩
  · intro p e s m args below meth c s₁ B hml hP _
    have hh0 : s₁.heap = s.heap := by rw [B.state]; rfl
    have ht : ∀ x ∈ c.exceptionTable.toList, False := by
      obtain ⟨meth9, c9, h1, h2, -, -, -, -, h7, -⟩ := Cond.code_spec B.named (atoms_spec (ws := ws) B.pre _ (by rw [hw]; exact List.mem_cons_self))
      cases Option.some.inj (h1.symm.trans B.method)
      cases Option.some.inj (h2.symm.trans (Stand.of_body B).code)
      intro x hx
      rw [Array.isEmpty_iff.mp h7] at hx
      cases hx
    obtain ⟨t, a1, o, b1, b2, b3⟩ := body p e s m args below meth c s₁ B hml ht hP s₁ hh0 (Stand.of_body B)
    exact ⟨t, o, a1, b1, b2, b3⟩
/-- the table of a body with handlers -/
theorem vx_table {p : Program} {x y : MethodName} {S : Spec} {cc bytes : ByteArray} {maxL maxL' : Nat} {ret ret' : Option FieldType} {e : Env} {s s₁ : State} {m : MethodId} {args : Array Value} {below : List Frame} {meth : Method} {c : Code} {hh : List (Nat × Nat × Nat × Nat)}
    (B : BodyLoose p l y S cc maxL ret e s m args below meth c s₁) (h : (Cond.codeWith y bytes maxL' ret' hh).before args s = true) : c.exceptionTable.toList = tableOf hh := by
  obtain ⟨m9, meth9, c9, hn9, h1, h2, -, -, h6, -⟩ := Cond.codeWith_spec h
  cases Option.some.inj (hn9.symm.trans B.named)
  cases Option.some.inj (h1.symm.trans B.method)
  cases Option.some.inj (h2.symm.trans (Stand.of_body B).code)
  rw [← h6, table_eq]
end Bodies
end VXA
/-! ===== END ===== -/
/-! ===== BEGIN a static call of a method with an exception table ===== -/
section VXS
variable {p : Program} {l : Launch} {e : Env} {R : Room} {s : State} {m : MethodId} {args : Array Value} {below : List Frame} {meth : Method} {c : Code} {T : State} {H : Heap} {locs : List Loc} {cells slots : Nat}
abbrev vx_CSW (R : Room) (s : State) (args : Array Value) (own : String) (index : Nat) (y : MethodName) (bytes : ByteArray) (maxL : Nat) (ret : Option FieldType) (hh : List (Nat × Nat × Nat × Nat)) (ws : List Cond) (rm : Room) (mc ms n : Nat) : Prop :=
  (rm.cells = mc ∧ rm.slots = ms ∧ rm.frames + 1 ≤ R.frames ∧ 8 + (maxL + 11) + rm.locals ≤ R.locals ∧ (∀ w ∈ ws, ∀ (a' : Array Value) (U : State), s.WarmedH U.vm → w.before a' U = true) ∧ Cond.codeWith y bytes maxL ret hh ∈ ws) ∧
  (Cond.codeWith y bytes maxL ret hh).before args s = true ∧ (Cond.initialized y.cls).before args s = true ∧ (y.cls ≠ "java/lang/invoke/MethodHandle" ∧ y.cls ≠ "java/lang/invoke/VarHandle") ∧
  (∀ sig, parseMethodDescriptor y.desc = some sig → n = sig.parameters.length) ∧ (Cond.methodLink own index y).before args s = true ∧ (Cond.static y).before args s = true
theorem vx_cwSW {own : String} {index maxL mc ms : Nat} {y : MethodName} {bytes : ByteArray} {ret : Option FieldType} {hh : List (Nat × Nat × Nat × Nat)} {Ts ws ws' : List Cond} {rm : Room} (n : Nat) (ht : ∀ w ∈ Ts, w.before args s = true) (hT : GoodIn Ts (va_wsS own index y ws)) (hw : ws = Cond.codeWith y bytes maxL ret hh :: ws') (hrc : rm.cells = mc) (hrs : rm.slots = ms)
    (hd : y.cls ≠ "java/lang/invoke/MethodHandle" ∧ y.cls ≠ "java/lang/invoke/VarHandle" ∧ (parseMethodDescriptor y.desc).map (fun d => d.parameters.length) = some n) (hR : rm.frames + 1 ≤ R.frames ∧ 8 + (maxL + 11) + rm.locals ≤ R.locals) :
    vx_CSW R s args own index y bytes maxL ret hh ws rm mc ms n := by
  have ok : ∀ w ∈ va_wsS own index y ws, w.before args s = true := fun w h => ht w (hT w h).1
  have hG : GoodIn Ts ws := fun w h => hT w (by unfold va_wsS; exact List.mem_append_right _ h)
  have hc : Cond.codeWith y bytes maxL ret hh ∈ ws := by rw [hw]; exact List.mem_cons_self
  refine ⟨⟨hrc, hrs, hR.1, hR.2, pay_in ht hG, hc⟩, ht _ (hG _ hc).1, ok _ (by simp [va_wsS]), ⟨hd.1, hd.2.1⟩, fun sig h => ?_, ok _ (by simp [va_wsS]), ok _ (by simp [va_wsS])⟩
  have h2 := hd.2.2
  rw [h] at h2
  exact (Option.some.inj h2).symm
theorem vx_callSW (X : Stand p l e R s m args below meth c T locs cells slots) (hexec : p.tables.exec = Jvm.exec) {own : String} {index : Nat} {y : MethodName} {bytes : ByteArray} {maxL : Nat} {ret : Option FieldType} {hh : List (Nat × Nat × Nat × Nat)}
    (hown : s.vm.findClass own = some m.cls) (hlink : (Cond.methodLink own index y).before args s = true) (hstat : (Cond.static y).before args s = true) (hinit : (Cond.initialized y.cls).before args s = true)
    (hcode : (Cond.codeWith y bytes maxL ret hh).before args s = true) (hy : y.cls ≠ "java/lang/invoke/MethodHandle" ∧ y.cls ≠ "java/lang/invoke/VarHandle")
    {W9 : Nat} {Pre : Pt → Array Value → Prop} {Post : Pt → Array Value → Option Value → Pt → Prop} (hK : Back l R p e below s args y 3 W9 Pre Post)
    {g : JFrame} (hg : g.method = m) (hsize : g.locals.size = c.maxLocals) {argsL rest : List Value} (hlen : ∀ sig, parseMethodDescriptor y.desc = some sig → argsL.length = sig.parameters.length)
    (hstack : g.stack = argsL.reverse ++ rest) (hW : 2 * g.monitorRoom + (rest.map fun v => v.category).sum ≤ W9) (hdg : decode c.code g.pc = .ok (.invokestatic index, 3))
    (hpre : ∀ vm₁, s.WarmedH vm₁ → Pre ⟨T.setVm vm₁, locs, cells, slots⟩ argsL.toArray) :
    ∃ (v : Option Value) (vm₁ : Vm) (B : Pt), s.WarmedH vm₁ ∧ Stand p l e R s m args below meth c B.U B.locs B.cells B.slots ∧ Post ⟨T.setVm vm₁, locs, cells, slots⟩ argsL.toArray v B ∧
      ∀ target, Steps p.tables e below (B.U.setTop { g with pc := g.pc + 3, stack := v.toList ++ rest }) target → Steps p.tables e below (T.setTop g) target := by
  obtain ⟨mk, methM, cM, hnamed, hmethM, -, -, -, -, -, -, hsigM⟩ := Cond.codeWith_spec hcode
  have hstatic : methM.isStatic = true := Cond.static_spec hnamed hmethM hstat
  obtain ⟨kP, hkP, -⟩ := className_of_methodNamed hnamed
  have hinitP : kP.init = .initialized := Cond.initialized_spec (findClass_of_methodNamed hnamed) hkP hinit
  obtain ⟨vm₁, X₁, hstep₁⟩ := X.invokestatic hexec hown hlink hnamed hmethM hstatic hkP hinitP hy (g := g) hg (argsL := argsL) (rest := rest) (hlen _ hsigM) hstack hdg
  obtain ⟨v, B, X', hpost, hsteps⟩ := hK m meth c ⟨T.setVm vm₁, locs, cells, slots⟩ { g with stack := rest } (.invokestatic index) mk argsL.toArray X₁ hg hsize hdg hW (X₁.named hnamed) (hpre vm₁ X₁.warmed)
  exact ⟨v, vm₁, B, X₁.warmed, X', hpost, fun target h => hstep₁ _ fun acts => by rw [doInvoke_state]; exact hsteps.trans h⟩
theorem vx_runSW {y : MethodName} {bytes cc : ByteArray} {maxL nL mc ms n index : Nat} {ret : Option FieldType} {hh : List (Nat × Nat × Nat × Nat)} {ws : List Cond} {rm : Room} {Pc : Array Value → State → Prop} {Qc : Array Value → State → Outcome → State → Prop} {free : Addr → Prop} {Ts : List Cond} {own : String} {As rest : List Value} {g : JFrame}
    (S : CallFix p m c cc nL s args Ts own) (hM : Met l y ws rm Pc Qc mc ms free) (cw : vx_CSW R s args own index y bytes maxL ret hh ws rm mc ms n) (hp : PreS s H Pc As)
    (hg : g.method = m) (hn : As.length = n) (hsize : g.locals.size = nL) (hstack : g.stack = As.reverse ++ rest) (hW : 2 * g.monitorRoom + (rest.map fun v => v.category).sum ≤ 8) (hdg : decode cc g.pc = .ok (.invokestatic index, 3)) (hf : cells + mc ≤ R.cells ∧ slots + ms ≤ R.slots) :
    va_Run p l e R s m args below meth c H locs cells slots mc ms g rest (Qc As.toArray) (free) := by
  obtain ⟨⟨hrc, hrs, hfr, hlo, hws, hcw⟩, hcode, hini, hy, hlen, hl, hstt⟩ := cw
  have hK : Back l R p e below s args y 3 8 (PreOf R mc ms Pc) (PostOf Qc mc ms free) := va_backW (hh := hh) (bytes := bytes) (maxL := maxL) (ret := ret) hM hp.1 hrc hrs hfr hlo hws hcw (fun a' U hW => word_at hW (Or.inl (by first | rfl | simp [Cond.onTables, Cond.keeps, Cond.steady])) hini)
  obtain ⟨hx, hb, hml, ho, -⟩ := S
  intro T hT X
  obtain ⟨v, vm₁, ⟨U', l2, c2, s2⟩, hW₁, X', ⟨g', mk, t, L, e1, e2, hq, h1, hL, h2, h3⟩, st⟩ := vx_callSW X hx (hh := hh) (bytes := bytes) (maxL := maxL) (ret := ret) ho hl hstt hini hcode hy hK hg (hsize.trans hml.symm) (argsL := As) (rest := rest) (fun sig h => hn.trans (hlen sig h)) hstack hW (by rw [hb]; exact hdg)
    (fun vm₁ hW₁ => ⟨hf.1, hf.2, hp.2 (T.setVm vm₁) hT hW₁⟩)
  dsimp only [Pt.U, Pt.locs, Pt.cells, Pt.slots] at X' e1 e2 h1 h2 h3 st
  subst h1; subst h2; subst h3
  exact ⟨v, (T.setVm vm₁).calling g' mk As.toArray, t, U', L, hT, X', hL, e1, e2, hq, st⟩
/-- not caught here, past rows that name other classes: it goes on to the caller -/
theorem vx_outP {p : Program} {l : Launch} {e : Env} {R : Room} {s : State} {m : MethodId} {args : Array Value} {below : List Frame} {meth : Method} {c : Code} {H : Heap} {locs : List Loc} {cells slots : Nat} {free : Addr → Prop} {ls : Array Slot} {rest : List Value} {Qc : Array Value → State → Outcome → State → Prop} {XC : String → State → State → Prop}
    {pc : Nat} {own E : String} {ce : Cell} {q : Addr} {mc ms : Nat} (hown : s.vm.findClass own = some m.cls) (hlocks : meth.locks = false)
    (hpass : ∀ z ∈ c.exceptionTable.toList, covers z pc = false ∨ (z.catchType ≠ 0 ∧ ∃ nm : String, (Cond.classLink own z.catchType nm).before args s = true ∧ va_Nc E nm s)) (hcell : H[q]? = some ce) (hv : ce.vm = .none) (hcl : s.vm.findClass E = some ce.cls)
    (hx : ∀ t : State, t.heap = H → s.vm.Alike t.vm → XC E s t) (hf : ∀ z ∈ locs, free z.base) (hc : cells ≤ mc) (hs : slots ≤ ms) :
    vx_W p l e R s m args below meth c H locs cells slots (vx_MQ below Qc XC args s mc ms free) (F0 m pc ls rest) q := by
  intro T hT X
  have hpl : e.platform.magicAccessors = ({} : Platform).magicAccessors := by rw [X.admits.platform]
  obtain ⟨vm', hW', X', st⟩ := X.outThrough hlocks q (g := F0 m pc ls rest) rfl rfl rfl (cell := ce) (by rw [hT]; exact hcell) (by rw [hv]; rfl)
    (by obtain ⟨k9, h9, -⟩ := Vm.findClass_spec hcl; exact ⟨k9, h9⟩) (fun z hz => by
      rcases hpass z hz with h | ⟨hz0, nm, hl1, hn1⟩
      · exact Or.inl h
      · obtain ⟨c6, hc6, hcl6⟩ := Cond.classLink_spec hown hl1 e.platform hpl
        obtain ⟨a8, b8, h1, h2, h3⟩ := hn1
        cases Option.some.inj (h1.symm.trans hcl)
        cases Option.some.inj (h2.symm.trans hc6)
        exact Or.inr ⟨hz0, _, hcl6, h3⟩)
  obtain ⟨g₀, hfr⟩ := X'.frames_eq
  have hcell9 : ((T.setVm vm').setFrames (.throwing q :: below)).heap[q]? = some ce := by
    show T.heap[q]? = some ce
    rw [hT]; exact hcell
  have hend : Ended ((T.setVm vm').setFrames (.throwing q :: below)) below (.threw q) := State.frames_setFrames _ (State.cur_lt_of_frames hfr)
  refine ⟨(T.setVm vm').setFrames (.throwing q :: below), ?_, .threw q, X'.here.running, hend, Or.inr ⟨q, rfl, E, ce, locs, hx _ hT (X'.ends _).1.alike, hcell9, hv, hcl, (X'.ends _).1, (X'.ends _).2.mono hc hs, hf⟩⟩
  rw [X.pushThrowing_eq]
  exact st
/-- a thing of a world lies in the heap -/
theorem vx_lt {D : va_G} {cl : List vw_C} {ws : va_W} {H1 : Heap} (h : va_P D cl ws H1) {k : Nat} {q : Nat × va_E} (hk : ws[k]? = some q) : q.1 < H1.size := (h k q hk).lt
end VXS
/-! ===== END ===== -/
/-! ===== BEGIN methods with a table of their own: called by a name, returning or throwing ===== -/
section VXH
/-! vx_backW, vx_callVX, vx_callSX, vx_callVW, vx_runVW, vx_runVX, vx_runSX, vx_ofWH follow the same proofs as their sisters above (Free/Laws.lean, Shelf42/LK1.lean); vx_outP calls Shelf42/NT130.lean (outThrough). -/
section
variable {l : Launch} {R : Room} {p : Program} {e : Env} {below : List Frame} {s : State} {sargs : Array Value} {y : MethodName} {len W9 : Nat}
theorem vx_backW {ws : List Cond} {rm : Room} {Pc : Array Value → State → Prop} {Qc : Array Value → State → Outcome → State → Prop} {XC : String → State → State → Prop} {mc ms : Nat} {free : Addr → Prop} {bytes : ByteArray} {maxL : Nat} {ret : Option FieldType} {hh : List (Nat × Nat × Nat × Nat)}
    (hM : vx_Met l y ws rm Pc Qc XC mc ms free) (hblind : FrameBlind Pc) (hrc : rm.cells = mc) (hrs : rm.slots = ms)
    (hframes : rm.frames + 1 ≤ R.frames) (hlocals : W9 + (maxL + 11) + rm.locals ≤ R.locals)
    (hws : ∀ w ∈ ws, ∀ a' U, s.WarmedH U.vm → w.before a' U = true) (hcode : Cond.codeWith y bytes maxL ret hh ∈ ws) (hinit : ∀ a' U, s.WarmedH U.vm → (Cond.initialized y.cls).before a' U = true) :
    vx_Back l R p e below s sargs y len W9 (PreOf R mc ms Pc) (PostOf Qc mc ms free) (vx_Post XC mc ms free) := by
  intro m meth c A g ig mk a X hg hsize hdg hW hn hp
  have h1 : (headSpec ws rm).pre.before a A.U = true := atoms_intro fun w hw => hws w hw _ _ X.warmed
  have h2 : (Cond.codeWith y bytes maxL ret hh).before a A.U = true := hws _ hcode _ _ X.warmed
  have h3 : (Cond.initialized y.cls).before a A.U = true := hinit _ _ X.warmed
  have h4 : A.cells + (headSpec ws rm).room.cells ≤ R.cells := by rw [show (headSpec ws rm).room.cells = mc from hrc]; exact hp.1
  have h5 : A.slots + (headSpec ws rm).room.slots ≤ R.slots := by rw [show (headSpec ws rm).room.slots = ms from hrs]; exact hp.2.1
  have hPc : Pc a (A.U.calling g mk a) := hblind _ _ _ _ hp.2.2
  obtain ⟨U, Ls, c0, s0⟩ := A
  dsimp only [Pt.U, Pt.locs, Pt.cells, Pt.slots] at h1 h2 h3 h4 h5 X hn hPc ⊢
  obtain ⟨m9, methY, cY, hn9, hmY, hcY, -, hlY, -⟩ := Cond.codeWith_spec h2
  cases Option.some.inj (hn9.symm.trans hn)
  obtain ⟨kY, hkY, -⟩ := className_of_methodNamed hn
  have hinitY : kY.init = .initialized := Cond.initialized_spec (findClass_of_methodNamed hn) hkY h3
  have h : At U g.method c below := by rw [hg]; exact X.here
  have hlocals9 : W9 + (maxL + 11) + (headSpec ws rm).room.locals ≤ R.locals := hlocals
  have happ : (headSpec ws rm).appliesLoose y e.platform (U.calling g mk a) = true :=
    Spec.appliesLoose_calling (g := g) h hdg hn hkY hinitY
      (X.room_calling (g := g) (R' := (headSpec ws rm).room) hsize hmY hcY hframes (by rw [hlY]; omega) h4 h5) h1
  obtain ⟨mid, hmid⟩ := h.above
  have hfr : (U.setTop g).frames = (.java g :: mid) ++ below := by rw [State.frames_setTop' g h.top, hmid]; rfl
  obtain ⟨o, s₂, hsteps, -, hend, hq⟩ := Steps.callFree hM p X.admits X.cas X.clock (acts := []) hfr happ hPc trivial
  have hq' : vx_Q Qc XC mc ms free a (U.calling g mk a) o s₂ := hq
  rw [State.frames_setTop' g h.top] at hend
  obtain ⟨g₀, hg0⟩ := Option.isSome_iff_exists.mp h.top
  obtain ⟨r, hr⟩ := State.topJava?_eq_some.mp hg0
  have hr' : (({ U with heap := s₂.heap, slotsUsed := s₂.slotsUsed } : State).setVm s₂.vm).frames = .java g₀ :: r := hr
  rcases hq' with ⟨hqc, L, hfe, hL⟩ | ⟨q, rfl, E, ce, L, hx, hce, hcv, hcl, hW₂, hsm, hL⟩
  · obtain ⟨⟨v, rfl⟩, hW₂, e2, q2, q3, q4, q5, q6⟩ := id hfe
    have e3 : s₂ = ({ (U.calling g mk a).setFrames s₂.frames with heap := s₂.heap, slotsUsed := s₂.slotsUsed } : State).setVm s₂.vm := by
      have : s₂ = ({ s₂ with vm := (U.calling g mk a).vm } : State).setVm s₂.vm := rfl
      rw [e2] at this
      exact this
    obtain ⟨c₂, i₂, len₂, hc₂, hd₂, hf₂⟩ := hend
    have hW' : U.WarmedH s₂.vm := hW₂
    have hcc : c₂ = c := by
      have h1 : s₂.code? g.method = U.code? g.method := by
        rw [State.code?_eq, State.code?_eq, hW'.alike.method?]
      exact Option.some.inj (hc₂.symm.trans (h1.trans h.code))
    subst hcc
    have hlen : len₂ = len := by rw [hdg] at hd₂; cases hd₂; rfl
    subst hlen
    have hs₂ : s₂ = (({ U with heap := s₂.heap, slotsUsed := s₂.slotsUsed } : State).setVm s₂.vm).setTop { g with pc := g.pc + len₂, stack := v.toList ++ g.stack } := by
      refine e3.trans ?_
      rw [hf₂, State.calling_eq h.top, State.setFrames_setFrames, State.setTop_of_frames _ hr', hr]
      rfl
    have hsame : U.sameButNew ({ U with heap := s₂.heap, slotsUsed := s₂.slotsUsed } : State) L mc ms := by
      refine ⟨?_, q2, q3, q4, q5, q6⟩
      obtain ⟨t, ht, -⟩ := State.frames_cons hr
      show ({ U with heap := s₂.heap, slotsUsed := s₂.slotsUsed } : State) = { U.setFrames U.frames with heap := s₂.heap, slotsUsed := s₂.slotsUsed }
      rw [State.setFrames_self ht]
    subst hg
    refine Or.inl ⟨v, ⟨(({ U with heap := s₂.heap, slotsUsed := s₂.slotsUsed } : State).setVm s₂.vm), Ls ++ L, c0 + mc, s0 + ms⟩,
      ⟨X.admits, X.cas, X.clock, X.frames, X.room, X.hears, X.method, X.code, (X.here.setHeapUsed s₂.heap s₂.slotsUsed).setVm hW'.alike, X.tail, State.WarmedH.trans X.warmed hW', X.limits, X.bytes, X.same.trans (hsame.setVm s.vm)⟩,
      ⟨g, mk, s₂, L, rfl, rfl, hqc, rfl, hL, rfl, rfl⟩, ?_⟩
    show Steps p.tables e below _ ((({ U with heap := s₂.heap, slotsUsed := s₂.slotsUsed } : State).setVm s₂.vm).setTop { g with pc := g.pc + len₂, stack := v.toList ++ g.stack })
    rw [← hs₂]
    exact hsteps
  · obtain ⟨e2, q2, q3, q4, q5, q6⟩ := id hsm
    have e3 : s₂ = ({ (U.calling g mk a).setFrames s₂.frames with heap := s₂.heap, slotsUsed := s₂.slotsUsed } : State).setVm s₂.vm := by
      have : s₂ = ({ s₂ with vm := (U.calling g mk a).vm } : State).setVm s₂.vm := rfl
      rw [e2] at this
      exact this
    have hf₂ : s₂.frames = .throwing q :: .java g :: U.frames.tail := hend
    have hW' : U.WarmedH s₂.vm := hW₂
    have hs₂ : s₂ = ((({ U with heap := s₂.heap, slotsUsed := s₂.slotsUsed } : State).setVm s₂.vm).setTop g).pushFrame (.throwing q) := by
      refine e3.trans ?_
      rw [hf₂, State.calling_eq h.top, State.setFrames_setFrames, State.pushFrame, State.frames_setTop _ hr', State.setTop_of_frames _ hr', State.setFrames_setFrames, hr]
      rfl
    have hsame : U.sameButNew ({ U with heap := s₂.heap, slotsUsed := s₂.slotsUsed } : State) L mc ms := by
      refine ⟨?_, q2, q3, q4, q5, q6⟩
      obtain ⟨t, ht, -⟩ := State.frames_cons hr
      show ({ U with heap := s₂.heap, slotsUsed := s₂.slotsUsed } : State) = { U.setFrames U.frames with heap := s₂.heap, slotsUsed := s₂.slotsUsed }
      rw [State.setFrames_self ht]
    subst hg
    refine Or.inr ⟨q, ⟨(({ U with heap := s₂.heap, slotsUsed := s₂.slotsUsed } : State).setVm s₂.vm), Ls ++ L, c0 + mc, s0 + ms⟩,
      ⟨X.admits, X.cas, X.clock, X.frames, X.room, X.hears, X.method, X.code, (X.here.setHeapUsed s₂.heap s₂.slotsUsed).setVm hW'.alike, X.tail, State.WarmedH.trans X.warmed hW', X.limits, X.bytes, X.same.trans (hsame.setVm s.vm)⟩,
      ⟨g, mk, s₂, L, E, ce, rfl, rfl, hx, hce, hcv, hcl, rfl, hL, rfl, rfl⟩, ?_⟩
    show Steps p.tables e below _ (((({ U with heap := s₂.heap, slotsUsed := s₂.slotsUsed } : State).setVm s₂.vm).setTop g).pushFrame (.throwing q))
    rw [← hs₂]
    exact hsteps
end
variable {p : Program} {l : Launch} {e : Env} {R : Room} {s : State} {m : MethodId} {args : Array Value} {below : List Frame} {meth : Method} {c : Code} {T : State} {H : Heap} {locs : List Loc} {cells slots : Nat}
theorem vx_callVX (X : Stand p l e R s m args below meth c T locs cells slots) (hexec : p.tables.exec = Jvm.exec) {own C : String} {index : Nat} {y : MethodName} {bytes : ByteArray} {maxL : Nat} {ret : Option FieldType} {hh : List (Nat × Nat × Nat × Nat)}
    (hown : s.vm.findClass own = some m.cls) (hlink : (Cond.methodLink own index y).before args s = true) (hinst : (Cond.instanceMethod y).before args s = true) (hsel : (Cond.selects C y y).before args s = true)
    (hcode : (Cond.codeWith y bytes maxL ret hh).before args s = true) (hy : y.cls ≠ "java/lang/invoke/MethodHandle" ∧ y.cls ≠ "java/lang/invoke/VarHandle")
    {W9 : Nat} {Pre : Pt → Array Value → Prop} {Post : Pt → Array Value → Option Value → Pt → Prop} {PostX : Pt → Array Value → Addr → Pt → Prop} (hK : vx_Back l R p e below s args y 3 W9 Pre Post PostX)
    {b : Addr} {cellB : Cell} (hcell : T.heap[b]? = some cellB) (hobj : cellB.vm.isStatics = false) (hcls : s.vm.findClass C = some cellB.cls)
    {g : JFrame} (hg : g.method = m) (hsize : g.locals.size = c.maxLocals) {argsL rest : List Value} (hlen : ∀ sig, parseMethodDescriptor y.desc = some sig → argsL.length = sig.parameters.length)
    (hstack : g.stack = argsL.reverse ++ .ref b :: rest) (hW : 2 * g.monitorRoom + (rest.map fun v => v.category).sum ≤ W9) (hdg : decode c.code g.pc = .ok (.invokevirtual index, 3))
    (hpre : ∀ vm₁, s.WarmedH vm₁ → Pre ⟨T.setVm vm₁, locs, cells, slots⟩ (Value.ref b :: argsL).toArray) :
    (∃ (v : Option Value) (vm₁ : Vm) (B : Pt), s.WarmedH vm₁ ∧ Stand p l e R s m args below meth c B.U B.locs B.cells B.slots ∧ Post ⟨T.setVm vm₁, locs, cells, slots⟩ (Value.ref b :: argsL).toArray v B ∧
      ∀ target, Steps p.tables e below (B.U.setTop { g with pc := g.pc + 3, stack := v.toList ++ rest }) target → Steps p.tables e below (T.setTop g) target) ∨
    (∃ (q : Addr) (vm₁ : Vm) (B : Pt), s.WarmedH vm₁ ∧ Stand p l e R s m args below meth c B.U B.locs B.cells B.slots ∧ PostX ⟨T.setVm vm₁, locs, cells, slots⟩ (Value.ref b :: argsL).toArray q B ∧
      Steps p.tables e below (T.setTop g) ((B.U.setTop { g with stack := rest }).pushFrame (.throwing q))) := by
  obtain ⟨mk, methM, hnamed, hmethM, hstM, habM⟩ := Cond.instanceMethod_spec hinst
  obtain ⟨m8, methM', cM, hn8, hmethM', -, -, -, -, -, -, hsigM⟩ := Cond.codeWith_spec hcode
  cases Option.some.inj (hn8.symm.trans hnamed)
  cases hmethM.symm.trans hmethM'
  obtain ⟨c2, r2, m2, q1, q2, q3, q4, kP, hkP, hkPi⟩ := Cond.selects_spec hsel
  cases hcls.symm.trans q1
  cases (State.methodFound?_of_named hnamed hy).symm.trans q2
  cases hnamed.symm.trans q3
  have hselP : selectMethod e.platform s.vm cellB.cls mk = .method mk := by rw [Launch.admits_selectMethod X.admits]; exact q4
  obtain ⟨vm₁, X₁, hstep₁⟩ := X.invokevirtual hexec hown hlink hnamed hmethM hstM hkP hkPi hy (a := b) (cell := cellB) hcell
    (fun z h => by rw [h] at hobj; cases hobj) hselP hmethM habM hkP hkPi (g := g) hg (argsL := argsL) (rest := rest) (hlen _ hsigM) hstack hdg
  rcases hK m meth c ⟨T.setVm vm₁, locs, cells, slots⟩ { g with stack := rest } (.invokevirtual index) mk (Value.ref b :: argsL).toArray X₁ hg hsize hdg hW (X₁.named hnamed) (hpre vm₁ X₁.warmed) with ⟨v, B, X', hpost, hsteps⟩ | ⟨q, B, X', hpost, hsteps⟩
  · exact Or.inl ⟨v, vm₁, B, X₁.warmed, X', hpost, fun target h => hstep₁ _ fun acts => by rw [doInvoke_state]; exact hsteps.trans h⟩
  · exact Or.inr ⟨q, vm₁, B, X₁.warmed, X', hpost, hstep₁ _ fun acts => by rw [doInvoke_state]; exact hsteps⟩
theorem vx_callSX (X : Stand p l e R s m args below meth c T locs cells slots) (hexec : p.tables.exec = Jvm.exec) {own : String} {index : Nat} {y : MethodName} {bytes : ByteArray} {maxL : Nat} {ret : Option FieldType} {hh : List (Nat × Nat × Nat × Nat)}
    (hown : s.vm.findClass own = some m.cls) (hlink : (Cond.methodLink own index y).before args s = true) (hstat : (Cond.static y).before args s = true) (hinit : (Cond.initialized y.cls).before args s = true)
    (hcode : (Cond.codeWith y bytes maxL ret hh).before args s = true) (hy : y.cls ≠ "java/lang/invoke/MethodHandle" ∧ y.cls ≠ "java/lang/invoke/VarHandle")
    {W9 : Nat} {Pre : Pt → Array Value → Prop} {Post : Pt → Array Value → Option Value → Pt → Prop} {PostX : Pt → Array Value → Addr → Pt → Prop} (hK : vx_Back l R p e below s args y 3 W9 Pre Post PostX)
    {g : JFrame} (hg : g.method = m) (hsize : g.locals.size = c.maxLocals) {argsL rest : List Value} (hlen : ∀ sig, parseMethodDescriptor y.desc = some sig → argsL.length = sig.parameters.length)
    (hstack : g.stack = argsL.reverse ++ rest) (hW : 2 * g.monitorRoom + (rest.map fun v => v.category).sum ≤ W9) (hdg : decode c.code g.pc = .ok (.invokestatic index, 3))
    (hpre : ∀ vm₁, s.WarmedH vm₁ → Pre ⟨T.setVm vm₁, locs, cells, slots⟩ argsL.toArray) :
    (∃ (v : Option Value) (vm₁ : Vm) (B : Pt), s.WarmedH vm₁ ∧ Stand p l e R s m args below meth c B.U B.locs B.cells B.slots ∧ Post ⟨T.setVm vm₁, locs, cells, slots⟩ argsL.toArray v B ∧
      ∀ target, Steps p.tables e below (B.U.setTop { g with pc := g.pc + 3, stack := v.toList ++ rest }) target → Steps p.tables e below (T.setTop g) target) ∨
    (∃ (q : Addr) (vm₁ : Vm) (B : Pt), s.WarmedH vm₁ ∧ Stand p l e R s m args below meth c B.U B.locs B.cells B.slots ∧ PostX ⟨T.setVm vm₁, locs, cells, slots⟩ argsL.toArray q B ∧
      Steps p.tables e below (T.setTop g) ((B.U.setTop { g with stack := rest }).pushFrame (.throwing q))) := by
  obtain ⟨mk, methM, cM, hnamed, hmethM, -, -, -, -, -, -, hsigM⟩ := Cond.codeWith_spec hcode
  have hstatic : methM.isStatic = true := Cond.static_spec hnamed hmethM hstat
  obtain ⟨kP, hkP, -⟩ := className_of_methodNamed hnamed
  have hinitP : kP.init = .initialized := Cond.initialized_spec (findClass_of_methodNamed hnamed) hkP hinit
  obtain ⟨vm₁, X₁, hstep₁⟩ := X.invokestatic hexec hown hlink hnamed hmethM hstatic hkP hinitP hy (g := g) hg (argsL := argsL) (rest := rest) (hlen _ hsigM) hstack hdg
  rcases hK m meth c ⟨T.setVm vm₁, locs, cells, slots⟩ { g with stack := rest } (.invokestatic index) mk argsL.toArray X₁ hg hsize hdg hW (X₁.named hnamed) (hpre vm₁ X₁.warmed) with ⟨v, B, X', hpost, hsteps⟩ | ⟨q, B, X', hpost, hsteps⟩
  · exact Or.inl ⟨v, vm₁, B, X₁.warmed, X', hpost, fun target h => hstep₁ _ fun acts => by rw [doInvoke_state]; exact hsteps.trans h⟩
  · exact Or.inr ⟨q, vm₁, B, X₁.warmed, X', hpost, hstep₁ _ fun acts => by rw [doInvoke_state]; exact hsteps⟩
theorem vx_callVW (X : Stand p l e R s m args below meth c T locs cells slots) (hexec : p.tables.exec = Jvm.exec) {own C : String} {index : Nat} {y : MethodName} {bytes : ByteArray} {maxL : Nat} {ret : Option FieldType} {hh : List (Nat × Nat × Nat × Nat)}
    (hown : s.vm.findClass own = some m.cls) (hlink : (Cond.methodLink own index y).before args s = true) (hinst : (Cond.instanceMethod y).before args s = true) (hsel : (Cond.selects C y y).before args s = true)
    (hcode : (Cond.codeWith y bytes maxL ret hh).before args s = true) (hy : y.cls ≠ "java/lang/invoke/MethodHandle" ∧ y.cls ≠ "java/lang/invoke/VarHandle")
    {W9 : Nat} {Pre : Pt → Array Value → Prop} {Post : Pt → Array Value → Option Value → Pt → Prop} (hK : Back l R p e below s args y 3 W9 Pre Post)
    {b : Addr} {cellB : Cell} (hcell : T.heap[b]? = some cellB) (hobj : cellB.vm.isStatics = false) (hcls : s.vm.findClass C = some cellB.cls)
    {g : JFrame} (hg : g.method = m) (hsize : g.locals.size = c.maxLocals) {argsL rest : List Value} (hlen : ∀ sig, parseMethodDescriptor y.desc = some sig → argsL.length = sig.parameters.length)
    (hstack : g.stack = argsL.reverse ++ .ref b :: rest) (hW : 2 * g.monitorRoom + (rest.map fun v => v.category).sum ≤ W9) (hdg : decode c.code g.pc = .ok (.invokevirtual index, 3))
    (hpre : ∀ vm₁, s.WarmedH vm₁ → Pre ⟨T.setVm vm₁, locs, cells, slots⟩ (Value.ref b :: argsL).toArray) :
    ∃ (v : Option Value) (vm₁ : Vm) (B : Pt), s.WarmedH vm₁ ∧ Stand p l e R s m args below meth c B.U B.locs B.cells B.slots ∧ Post ⟨T.setVm vm₁, locs, cells, slots⟩ (Value.ref b :: argsL).toArray v B ∧
      ∀ target, Steps p.tables e below (B.U.setTop { g with pc := g.pc + 3, stack := v.toList ++ rest }) target → Steps p.tables e below (T.setTop g) target := by
  obtain ⟨mk, methM, hnamed, hmethM, hstM, habM⟩ := Cond.instanceMethod_spec hinst
  obtain ⟨m8, methM', cM, hn8, hmethM', -, -, -, -, -, -, hsigM⟩ := Cond.codeWith_spec hcode
  cases Option.some.inj (hn8.symm.trans hnamed)
  cases hmethM.symm.trans hmethM'
  obtain ⟨c2, r2, m2, q1, q2, q3, q4, kP, hkP, hkPi⟩ := Cond.selects_spec hsel
  cases hcls.symm.trans q1
  cases (State.methodFound?_of_named hnamed hy).symm.trans q2
  cases hnamed.symm.trans q3
  have hselP : selectMethod e.platform s.vm cellB.cls mk = .method mk := by rw [Launch.admits_selectMethod X.admits]; exact q4
  obtain ⟨vm₁, X₁, hstep₁⟩ := X.invokevirtual hexec hown hlink hnamed hmethM hstM hkP hkPi hy (a := b) (cell := cellB) hcell
    (fun z h => by rw [h] at hobj; cases hobj) hselP hmethM habM hkP hkPi (g := g) hg (argsL := argsL) (rest := rest) (hlen _ hsigM) hstack hdg
  obtain ⟨v, B, X', hpost, hsteps⟩ := hK m meth c ⟨T.setVm vm₁, locs, cells, slots⟩ { g with stack := rest } (.invokevirtual index) mk (Value.ref b :: argsL).toArray X₁ hg hsize hdg hW (X₁.named hnamed) (hpre vm₁ X₁.warmed)
  exact ⟨v, vm₁, B, X₁.warmed, X', hpost, fun target h => hstep₁ _ fun acts => by rw [doInvoke_state]; exact hsteps.trans h⟩
abbrev vx_CVW (R : Room) (s : State) (args : Array Value) (own C : String) (index : Nat) (y : MethodName) (bytes : ByteArray) (maxL : Nat) (ret : Option FieldType) (hh : List (Nat × Nat × Nat × Nat)) (ws : List Cond) (rm : Room) (mc ms n : Nat) : Prop :=
  (rm.cells = mc ∧ rm.slots = ms ∧ rm.frames + 1 ≤ R.frames ∧ 8 + (maxL + 11) + rm.locals ≤ R.locals ∧ (∀ w ∈ ws, ∀ (a' : Array Value) (U : State), s.WarmedH U.vm → w.before a' U = true) ∧ Cond.codeWith y bytes maxL ret hh ∈ ws) ∧
  (Cond.codeWith y bytes maxL ret hh).before args s = true ∧ (Cond.initialized y.cls).before args s = true ∧ (y.cls ≠ "java/lang/invoke/MethodHandle" ∧ y.cls ≠ "java/lang/invoke/VarHandle") ∧
  (∀ sig, parseMethodDescriptor y.desc = some sig → n = sig.parameters.length) ∧ (Cond.methodLink own index y).before args s = true ∧ (Cond.instanceMethod y).before args s = true ∧ (Cond.selects C y y).before args s = true
theorem vx_cwVW {own C : String} {index maxL mc ms : Nat} {y : MethodName} {bytes : ByteArray} {ret : Option FieldType} {hh : List (Nat × Nat × Nat × Nat)} {Ts ws ws' : List Cond} {rm : Room} (n : Nat) (ht : ∀ w ∈ Ts, w.before args s = true) (hT : GoodIn Ts (wsV own index C y ws)) (hw : ws = Cond.codeWith y bytes maxL ret hh :: ws') (hrc : rm.cells = mc) (hrs : rm.slots = ms)
    (hd : y.cls = C ∧ y.cls ≠ "java/lang/invoke/MethodHandle" ∧ y.cls ≠ "java/lang/invoke/VarHandle" ∧ (parseMethodDescriptor y.desc).map (fun d => d.parameters.length) = some n) (hR : rm.frames + 1 ≤ R.frames ∧ 8 + (maxL + 11) + rm.locals ≤ R.locals) :
    vx_CVW R s args own C index y bytes maxL ret hh ws rm mc ms n := by
  obtain ⟨hC, hd⟩ := hd
  subst hC
  have ok : ∀ w ∈ wsV own index y.cls y ws, w.before args s = true := fun w h => ht w (hT w h).1
  have hG : GoodIn Ts ws := fun w h => hT w (by unfold wsV; exact List.mem_append_right _ h)
  have hc : Cond.codeWith y bytes maxL ret hh ∈ ws := by rw [hw]; exact List.mem_cons_self
  refine ⟨⟨hrc, hrs, hR.1, hR.2, pay_in ht hG, hc⟩, ht _ (hG _ hc).1, ok _ (by simp [wsV]), ⟨hd.1, hd.2.1⟩, fun sig h => ?_, ok _ (by simp [wsV]), ok _ (by simp [wsV]), ok _ (by simp [wsV])⟩
  have h2 := hd.2.2
  rw [h] at h2
  exact (Option.some.inj h2).symm
theorem vx_runVW {y : MethodName} {bytes cc : ByteArray} {maxL nL mc ms n index : Nat} {ret : Option FieldType} {hh : List (Nat × Nat × Nat × Nat)} {ws : List Cond} {rm : Room} {Pc : Array Value → State → Prop} {Qc : Array Value → State → Outcome → State → Prop} {free : Addr → Prop} {Ts : List Cond} {own C : String} {b : Addr} {As rest : List Value} {g : JFrame}
    (S : CallFix p m c cc nL s args Ts own) (hM : Met l y ws rm Pc Qc mc ms free) (cw : vx_CVW R s args own C index y bytes maxL ret hh ws rm mc ms n) (hp : PreV s H C b Pc As)
    (hg : g.method = m) (hn : As.length = n) (hsize : g.locals.size = nL) (hstack : g.stack = As.reverse ++ .ref b :: rest) (hW : 2 * g.monitorRoom + (rest.map fun v => v.category).sum ≤ 8) (hdg : decode cc g.pc = .ok (.invokevirtual index, 3)) (hf : cells + mc ≤ R.cells ∧ slots + ms ≤ R.slots) :
    va_Run p l e R s m args below meth c H locs cells slots mc ms g rest (Qc (Value.ref b :: As).toArray) free := by
  obtain ⟨⟨hrc, hrs, hfr, hlo, hws, hcw⟩, hcode, hini, hy, hlen, hl, hin, hse⟩ := cw
  have hK : Back l R p e below s args y 3 8 (PreOf R mc ms Pc) (PostOf Qc mc ms free) := va_backW (hh := hh) (bytes := bytes) (maxL := maxL) (ret := ret) hM hp.1 hrc hrs hfr hlo hws hcw (fun a' U hW => word_at hW (Or.inl (by first | rfl | simp [Cond.onTables, Cond.keeps, Cond.steady])) hini)
  obtain ⟨hx, hb, hml, ho, -⟩ := S
  obtain ⟨-, ⟨cellB, hcB, hoB, hclB⟩, hPc⟩ := hp
  intro T hT X
  obtain ⟨v, vm₁, ⟨U', l2, c2, s2⟩, hW₁, X', ⟨g', mk, t, L, e1, e2, hq, h1, hL, h2, h3⟩, st⟩ := vx_callVW X hx (C := C) (hh := hh) (bytes := bytes) (maxL := maxL) (ret := ret) ho hl hin hse hcode hy hK (by rw [hT]; exact hcB) hoB hclB hg (hsize.trans hml.symm) (argsL := As) (rest := rest) (fun sig h => hn.trans (hlen sig h)) hstack hW (by rw [hb]; exact hdg)
    (fun vm₁ hW₁ => ⟨hf.1, hf.2, hPc (T.setVm vm₁) hT hW₁⟩)
  dsimp only [Pt.U, Pt.locs, Pt.cells, Pt.slots] at X' e1 e2 h1 h2 h3 st
  subst h1; subst h2; subst h3
  exact ⟨v, (T.setVm vm₁).calling g' mk (Value.ref b :: As).toArray, t, U', L, hT, X', hL, e1, e2, hq, st⟩
section
variable {y : MethodName} {bytes cc : ByteArray} {maxL nL mc ms n index : Nat} {ret : Option FieldType} {ws : List Cond} {rm : Room} {Pc : Array Value → State → Prop} {Qc : Array Value → State → Outcome → State → Prop} {XC : String → State → State → Prop} {free : Addr → Prop} {Ts : List Cond} {own C : String} {b : Addr} {As rest : List Value} {g : JFrame}
theorem vx_runVX {hh : List (Nat × Nat × Nat × Nat)} (S : CallFix p m c cc nL s args Ts own) (hM : vx_Met l y ws rm Pc Qc XC mc ms free) (cw : vx_CVW R s args own C index y bytes maxL ret hh ws rm mc ms n) (hp : PreV s H C b Pc As)
    (hg : g.method = m) (hn : As.length = n) (hsize : g.locals.size = nL) (hstack : g.stack = As.reverse ++ .ref b :: rest) (hW : 2 * g.monitorRoom + (rest.map fun v => v.category).sum ≤ 8) (hdg : decode cc g.pc = .ok (.invokevirtual index, 3)) (hf : cells + mc ≤ R.cells ∧ slots + ms ≤ R.slots) :
    vx_Run p l e R s m args below meth c H locs cells slots mc ms g rest (Qc (Value.ref b :: As).toArray) XC free := by
  obtain ⟨⟨hrc, hrs, hfr, hlo, hws, hcw⟩, hcode, hini, hy, hlen, hl, hin, hse⟩ := cw
  have hK : vx_Back l R p e below s args y 3 8 (PreOf R mc ms Pc) (PostOf Qc mc ms free) (vx_Post XC mc ms free) := vx_backW (hh := hh) (bytes := bytes) (maxL := maxL) (ret := ret) hM hp.1 hrc hrs hfr hlo hws hcw (fun a' U hW => word_at hW (Or.inl (by first | rfl | simp [Cond.onTables, Cond.keeps, Cond.steady])) hini)
  obtain ⟨hx, hb, hml, ho, -⟩ := S
  obtain ⟨-, ⟨cellB, hcB, hoB, hclB⟩, hPc⟩ := hp
  intro T hT X
  rcases vx_callVX X hx (C := C) (hh := hh) (bytes := bytes) (maxL := maxL) (ret := ret) ho hl hin hse hcode hy hK (by rw [hT]; exact hcB) hoB hclB hg (hsize.trans hml.symm) (argsL := As) (rest := rest) (fun sig h => hn.trans (hlen sig h)) hstack hW (by rw [hb]; exact hdg)
    (fun vm₁ hW₁ => ⟨hf.1, hf.2, hPc (T.setVm vm₁) hT hW₁⟩) with ⟨v, vm₁, ⟨U', l2, c2, s2⟩, hW₁, X', ⟨g', mk, t, L, e1, e2, hq, h1, hL, h2, h3⟩, st⟩ | ⟨q, vm₁, ⟨U', l2, c2, s2⟩, hW₁, X', ⟨g', mk, t, L, E, ce, e1, e2, hq, hce, hcv, hcl, h1, hL, h2, h3⟩, st⟩
  · dsimp only [Pt.U, Pt.locs, Pt.cells, Pt.slots] at X' e1 e2 h1 h2 h3 st
    subst h1; subst h2; subst h3
    exact Or.inl ⟨v, (T.setVm vm₁).calling g' mk (Value.ref b :: As).toArray, t, U', L, hT, X', hL, e1, e2, hq, st⟩
  · dsimp only [Pt.U, Pt.locs, Pt.cells, Pt.slots] at X' e1 e2 h1 h2 h3 st hcl
    subst h1; subst h2; subst h3
    exact Or.inr ⟨q, (T.setVm vm₁).calling g' mk (Value.ref b :: As).toArray, t, U', L, E, ce, hT, X', hL, e1, e2, hq, hce, hcv, vx_cls hW₁ hcl, st⟩
theorem vx_runSX {hh : List (Nat × Nat × Nat × Nat)} (S : CallFix p m c cc nL s args Ts own) (hM : vx_Met l y ws rm Pc Qc XC mc ms free) (cw : vx_CSW R s args own index y bytes maxL ret hh ws rm mc ms n) (hp : PreS s H Pc As)
    (hg : g.method = m) (hn : As.length = n) (hsize : g.locals.size = nL) (hstack : g.stack = As.reverse ++ rest) (hW : 2 * g.monitorRoom + (rest.map fun v => v.category).sum ≤ 8) (hdg : decode cc g.pc = .ok (.invokestatic index, 3)) (hf : cells + mc ≤ R.cells ∧ slots + ms ≤ R.slots) :
    vx_Run p l e R s m args below meth c H locs cells slots mc ms g rest (Qc As.toArray) XC free := by
  obtain ⟨⟨hrc, hrs, hfr, hlo, hws, hcw⟩, hcode, hini, hy, hlen, hl, hstt⟩ := cw
  have hK : vx_Back l R p e below s args y 3 8 (PreOf R mc ms Pc) (PostOf Qc mc ms free) (vx_Post XC mc ms free) := vx_backW (hh := hh) (bytes := bytes) (maxL := maxL) (ret := ret) hM hp.1 hrc hrs hfr hlo hws hcw (fun a' U hW => word_at hW (Or.inl (by first | rfl | simp [Cond.onTables, Cond.keeps, Cond.steady])) hini)
  obtain ⟨hx, hb, hml, ho, -⟩ := S
  intro T hT X
  rcases vx_callSX X hx (hh := hh) (bytes := bytes) (maxL := maxL) (ret := ret) ho hl hstt hini hcode hy hK hg (hsize.trans hml.symm) (argsL := As) (rest := rest) (fun sig h => hn.trans (hlen sig h)) hstack hW (by rw [hb]; exact hdg)
    (fun vm₁ hW₁ => ⟨hf.1, hf.2, hp.2 (T.setVm vm₁) hT hW₁⟩) with ⟨v, vm₁, ⟨U', l2, c2, s2⟩, hW₁, X', ⟨g', mk, t, L, e1, e2, hq, h1, hL, h2, h3⟩, st⟩ | ⟨q, vm₁, ⟨U', l2, c2, s2⟩, hW₁, X', ⟨g', mk, t, L, E, ce, e1, e2, hq, hce, hcv, hcl, h1, hL, h2, h3⟩, st⟩
  · dsimp only [Pt.U, Pt.locs, Pt.cells, Pt.slots] at X' e1 e2 h1 h2 h3 st
    subst h1; subst h2; subst h3
    exact Or.inl ⟨v, (T.setVm vm₁).calling g' mk As.toArray, t, U', L, hT, X', hL, e1, e2, hq, st⟩
  · dsimp only [Pt.U, Pt.locs, Pt.cells, Pt.slots] at X' e1 e2 h1 h2 h3 st hcl
    subst h1; subst h2; subst h3
    exact Or.inr ⟨q, (T.setVm vm₁).calling g' mk As.toArray, t, U', L, E, ce, hT, X', hL, e1, e2, hq, hce, hcv, vx_cls hW₁ hcl, st⟩
end
end VXH
theorem vx_ofWH {l : Launch} {y : MethodName} {ws ws' : List Cond} {rm : Room} {Pc : Array Value → State → Prop} {Qc : Array Value → State → Outcome → State → Prop} {XC : String → State → State → Prop} {mc ms : Nat} {free : Addr → Prop} {cc : ByteArray} {maxL : Nat} {ret : Option FieldType} {hh : List (Nat × Nat × Nat × Nat)}
    (hy : plainName y.cls = true) (hw : ws = Cond.codeWith y cc maxL ret hh :: ws')
    (body : ∀ p e s m args below meth c s₁, BodyLoose p l y (headSpec ws rm) cc maxL ret e s m args below meth c s₁ → c.maxLocals = maxL → Pc args s →
      W p l e (headSpec ws rm).room s m args below meth c s.heap [] 0 0 (vx_MQ below Qc XC args s mc ms free) (entryFrame m args maxL)) : vx_Met l y ws rm Pc Qc XC mc ms free := by
  refine MetFree.of_bodyS (code := cc) (maxLocals := maxL) (ret := ret) hy ?_ ?_
  · intro args s m h hn
    obtain ⟨m9, meth, c, hn9, h1, h2, h3, h4, -, h5, h6, -⟩ := Cond.codeWith_spec (atoms_spec (ws := ws) h _ (by rw [hw]; exact List.mem_cons_self))
    cases hn.symm.trans hn9
    exact ⟨meth, c, h1, h2, h3, h4, h5, h6⟩
  · intro p e s m args below meth c s₁ B hml hP _
    have hh0 : s₁.heap = s.heap := by rw [B.state]; rfl
    obtain ⟨t, a1, o, b1, b2, b3⟩ := body p e s m args below meth c s₁ B hml hP s₁ hh0 (Stand.of_body B)
    exact ⟨t, o, a1, b1, b2, b3⟩
/-! ===== END ===== -/
end
section
/-! ===== BEGIN printed: names, fields, word lists, decode rows ===== -/
def RX0 : String := "DiffDesk$Comparison"
def TX0 : u_T := fun k => match k with
  | 0 => ("DiffDesk$Comparison", "rest", "[[I", true)
  | 1 => ("DiffDesk$Comparison", "a", "LDiffDesk$Row;", false)
  | _ => ("DiffDesk$Comparison", "b", "LDiffDesk$Row;", false)
def tyX0 : Nat → FieldType := fun k => match k with
  | 0 => .array (.array .int)
  | 1 => .object "DiffDesk$Row"
  | _ => .object "DiffDesk$Row"
abbrev wsX00 : List Cond := u_ws RX0 TX0 3
theorem nmX0 : ∀ a, a < 3 → ∀ b, b < 3 → a ≠ b → (TX0 a).2.1 ≠ (TX0 b).2.1 := by decide +kernel
theorem tyX0_ok : ∀ k, k < 3 → parseFieldDescriptor (TX0 k).2.2.1 = some (tyX0 k) := by decide +kernel
abbrev cX0_init : ByteArray := prog_2_method_1_code
def yX0_init : MethodName := ⟨RX0, "<init>", "()V"⟩
abbrev cX0_compare : ByteArray := prog_2_method_2_code
def yX0_compare : MethodName := ⟨RX0, "compare", "(LDiffDesk$Row;LDiffDesk$Row;)V"⟩
abbrev cX0_operations : ByteArray := prog_2_method_3_code
def yX0_operations : MethodName := ⟨RX0, "operations", "()I"⟩
abbrev cX0_writeTo : ByteArray := prog_2_method_4_code
def yX0_writeTo : MethodName := ⟨RX0, "writeTo", "(LDiffDesk$Script;)V"⟩
abbrev cX0_pairTo : ByteArray := prog_2_method_5_code
def yX0_pairTo : MethodName := ⟨RX0, "pairTo", "(LDiffDesk$Row;)V"⟩
abbrev cX0_restAt : ByteArray := prog_2_method_6_code
def yX0_restAt : MethodName := ⟨RX0, "restAt", "(II)I"⟩
abbrev cX0_stepAt : ByteArray := prog_2_method_7_code
def yX0_stepAt : MethodName := ⟨RX0, "stepAt", "(II)I"⟩
abbrev cX0_isSame : ByteArray := prog_2_method_8_code
def yX0_isSame : MethodName := ⟨RX0, "isSame", "(II)Z"⟩
def RX1 : String := "DiffDesk$Merger"
def TX1 : u_T := fun k => match k with
  | 0 => ("DiffDesk$Merger", "baseRow", "LDiffDesk$Row;", true)
  | 1 => ("DiffDesk$Merger", "row1", "LDiffDesk$Row;", true)
  | 2 => ("DiffDesk$Merger", "row2", "LDiffDesk$Row;", true)
  | 3 => ("DiffDesk$Merger", "keptWith1", "LDiffDesk$Row;", true)
  | 4 => ("DiffDesk$Merger", "keptWith2", "LDiffDesk$Row;", true)
  | 5 => ("DiffDesk$Merger", "base", "LDiffDesk$Stretch;", true)
  | 6 => ("DiffDesk$Merger", "one", "LDiffDesk$Stretch;", true)
  | _ => ("DiffDesk$Merger", "two", "LDiffDesk$Stretch;", true)
def tyX1 : Nat → FieldType := fun k => match k with
  | 0 => .object "DiffDesk$Row"
  | 1 => .object "DiffDesk$Row"
  | 2 => .object "DiffDesk$Row"
  | 3 => .object "DiffDesk$Row"
  | 4 => .object "DiffDesk$Row"
  | 5 => .object "DiffDesk$Stretch"
  | 6 => .object "DiffDesk$Stretch"
  | _ => .object "DiffDesk$Stretch"
abbrev wsX10 : List Cond := u_ws RX1 TX1 8
theorem nmX1 : ∀ a, a < 8 → ∀ b, b < 8 → a ≠ b → (TX1 a).2.1 ≠ (TX1 b).2.1 := by decide +kernel
theorem tyX1_ok : ∀ k, k < 8 → parseFieldDescriptor (TX1 k).2.2.1 = some (tyX1 k) := by decide +kernel
abbrev cX1_init : ByteArray := prog_3_method_1_code
def yX1_init : MethodName := ⟨RX1, "<init>", "(LDiffDesk$Row;LDiffDesk$Row;LDiffDesk$Row;)V"⟩
abbrev cX1_mergeTo : ByteArray := prog_3_method_2_code
def yX1_mergeTo : MethodName := ⟨RX1, "mergeTo", "(LDiffDesk$Row;LDiffDesk$Comparison;)I"⟩
abbrev cX1_isStable : ByteArray := prog_3_method_3_code
def yX1_isStable : MethodName := ⟨RX1, "isStable", "(I)Z"⟩
abbrev cX1_endStretches : ByteArray := prog_3_method_4_code
def yX1_endStretches : MethodName := ⟨RX1, "endStretches", "(III)V"⟩
abbrev cX1_goOnBehindStable : ByteArray := prog_3_method_5_code
def yX1_goOnBehindStable : MethodName := ⟨RX1, "goOnBehindStable", "()V"⟩
abbrev cX1_mergeStretch : ByteArray := prog_3_method_6_code
def yX1_mergeStretch : MethodName := ⟨RX1, "mergeStretch", "(LDiffDesk$Row;)I"⟩
def RX2 : String := "DiffDesk$Row"
def TX2 : u_T := fun k => match k with
  | 0 => ("DiffDesk$Row", "items", "[I", true)
  | _ => ("DiffDesk$Row", "count", "I", false)
def tyX2 : Nat → FieldType := fun k => match k with
  | 0 => .array .int
  | _ => .int
abbrev wsX20 : List Cond := u_ws RX2 TX2 2
theorem nmX2 : ∀ a, a < 2 → ∀ b, b < 2 → a ≠ b → (TX2 a).2.1 ≠ (TX2 b).2.1 := by decide +kernel
theorem tyX2_ok : ∀ k, k < 2 → parseFieldDescriptor (TX2 k).2.2.1 = some (tyX2 k) := by decide +kernel
abbrev cX2_init : ByteArray := prog_4_method_1_code
def yX2_init : MethodName := ⟨RX2, "<init>", "(I)V"⟩
abbrev cX2_empty : ByteArray := prog_4_method_2_code
def yX2_empty : MethodName := ⟨RX2, "empty", "()V"⟩
abbrev cX2_add : ByteArray := prog_4_method_3_code
def yX2_add : MethodName := ⟨RX2, "add", "(I)Z"⟩
abbrev cX2_addAll : ByteArray := prog_4_method_4_code
def yX2_addAll : MethodName := ⟨RX2, "addAll", "(LDiffDesk$Row;II)V"⟩
abbrev cX2_at : ByteArray := prog_4_method_5_code
def yX2_at : MethodName := ⟨RX2, "at", "(II)I"⟩
def RX3 : String := "DiffDesk$Script"
def TX3 : u_T := fun k => match k with
  | 0 => ("DiffDesk$Script", "kinds", "[I", true)
  | 1 => ("DiffDesk$Script", "places", "[I", true)
  | 2 => ("DiffDesk$Script", "symbols", "[I", true)
  | _ => ("DiffDesk$Script", "count", "I", false)
def tyX3 : Nat → FieldType := fun k => match k with
  | 0 => .array .int
  | 1 => .array .int
  | 2 => .array .int
  | _ => .int
abbrev wsX30 : List Cond := u_ws RX3 TX3 4
theorem nmX3 : ∀ a, a < 4 → ∀ b, b < 4 → a ≠ b → (TX3 a).2.1 ≠ (TX3 b).2.1 := by decide +kernel
theorem tyX3_ok : ∀ k, k < 4 → parseFieldDescriptor (TX3 k).2.2.1 = some (tyX3 k) := by decide +kernel
abbrev cX3_init : ByteArray := prog_5_method_1_code
def yX3_init : MethodName := ⟨RX3, "<init>", "()V"⟩
abbrev cX3_empty : ByteArray := prog_5_method_2_code
def yX3_empty : MethodName := ⟨RX3, "empty", "()V"⟩
abbrev cX3_add : ByteArray := prog_5_method_3_code
def yX3_add : MethodName := ⟨RX3, "add", "(III)Z"⟩
abbrev cX3_has : ByteArray := prog_5_method_4_code
def yX3_has : MethodName := ⟨RX3, "has", "(I)Z"⟩
abbrev cX3_placeOf : ByteArray := prog_5_method_5_code
def yX3_placeOf : MethodName := ⟨RX3, "placeOf", "(I)I"⟩
abbrev cX3_behind : ByteArray := prog_5_method_6_code
def yX3_behind : MethodName := ⟨RX3, "behind", "(I)I"⟩
abbrev cX3_beginsHunk : ByteArray := prog_5_method_7_code
def yX3_beginsHunk : MethodName := ⟨RX3, "beginsHunk", "(II)Z"⟩
abbrev cX3_firstOfHunk : ByteArray := prog_5_method_8_code
def yX3_firstOfHunk : MethodName := ⟨RX3, "firstOfHunk", "(II)I"⟩
abbrev cX3_lastOfHunk : ByteArray := prog_5_method_9_code
def yX3_lastOfHunk : MethodName := ⟨RX3, "lastOfHunk", "(II)I"⟩
abbrev cX3_countKind : ByteArray := prog_5_method_10_code
def yX3_countKind : MethodName := ⟨RX3, "countKind", "(III)I"⟩
def RX4 : String := "DiffDesk$Stretch"
def TX4 : u_T := fun k => match k with
  | 0 => ("DiffDesk$Stretch", "row", "LDiffDesk$Row;", true)
  | 1 => ("DiffDesk$Stretch", "from", "I", false)
  | _ => ("DiffDesk$Stretch", "to", "I", false)
def tyX4 : Nat → FieldType := fun k => match k with
  | 0 => .object "DiffDesk$Row"
  | 1 => .int
  | _ => .int
abbrev wsX40 : List Cond := u_ws RX4 TX4 3
theorem nmX4 : ∀ a, a < 3 → ∀ b, b < 3 → a ≠ b → (TX4 a).2.1 ≠ (TX4 b).2.1 := by decide +kernel
theorem tyX4_ok : ∀ k, k < 3 → parseFieldDescriptor (TX4 k).2.2.1 = some (tyX4 k) := by decide +kernel
abbrev cX4_init : ByteArray := prog_6_method_1_code
def yX4_init : MethodName := ⟨RX4, "<init>", "(LDiffDesk$Row;)V"⟩
abbrev cX4_begin : ByteArray := prog_6_method_2_code
def yX4_begin : MethodName := ⟨RX4, "begin", "()V"⟩
abbrev cX4_endBefore : ByteArray := prog_6_method_3_code
def yX4_endBefore : MethodName := ⟨RX4, "endBefore", "(I)V"⟩
abbrev cX4_goOnBehindStable : ByteArray := prog_6_method_4_code
def yX4_goOnBehindStable : MethodName := ⟨RX4, "goOnBehindStable", "()V"⟩
abbrev cX4_isSameAs : ByteArray := prog_6_method_5_code
def yX4_isSameAs : MethodName := ⟨RX4, "isSameAs", "(LDiffDesk$Stretch;)Z"⟩
abbrev cX4_addTo : ByteArray := prog_6_method_6_code
def yX4_addTo : MethodName := ⟨RX4, "addTo", "(LDiffDesk$Row;)V"⟩
def RX5 : String := "DiffDesk"
def TX5 : u_T := fun k => match k with
  | 0 => ("DiffDesk", "limit", "I", true)
  | 1 => ("DiffDesk", "rows", "[LDiffDesk$Row;", true)
  | 2 => ("DiffDesk", "script", "LDiffDesk$Script;", true)
  | 3 => ("DiffDesk", "latest", "LDiffDesk$Script;", true)
  | 4 => ("DiffDesk", "latestSize", "I", false)
  | 5 => ("DiffDesk", "comparison", "LDiffDesk$Comparison;", true)
  | 6 => ("DiffDesk", "merger", "LDiffDesk$Merger;", true)
  | 7 => ("DiffDesk", "result", "LDiffDesk$Row;", false)
  | _ => ("DiffDesk", "draft", "LDiffDesk$Row;", false)
def tyX5 : Nat → FieldType := fun k => match k with
  | 0 => .int
  | 1 => .array (.object "DiffDesk$Row")
  | 2 => .object "DiffDesk$Script"
  | 3 => .object "DiffDesk$Script"
  | 4 => .int
  | 5 => .object "DiffDesk$Comparison"
  | 6 => .object "DiffDesk$Merger"
  | 7 => .object "DiffDesk$Row"
  | _ => .object "DiffDesk$Row"
abbrev wsX50 : List Cond := u_ws RX5 TX5 9
theorem nmX5 : ∀ a, a < 9 → ∀ b, b < 9 → a ≠ b → (TX5 a).2.1 ≠ (TX5 b).2.1 := by decide +kernel
theorem tyX5_ok : ∀ k, k < 9 → parseFieldDescriptor (TX5 k).2.2.1 = some (tyX5 k) := by decide +kernel
abbrev cX5_init : ByteArray := prog_1_method_1_code
def yX5_init : MethodName := ⟨RX5, "<init>", "(I)V"⟩
abbrev cX5_feed : ByteArray := prog_1_method_2_code
def yX5_feed : MethodName := ⟨RX5, "feed", "(IS)Z"⟩
abbrev cX5_clear : ByteArray := prog_1_method_3_code
def yX5_clear : MethodName := ⟨RX5, "clear", "(I)Z"⟩
abbrev cX5_size : ByteArray := prog_1_method_4_code
def yX5_size : MethodName := ⟨RX5, "size", "(I)I"⟩
abbrev cX5_symbol : ByteArray := prog_1_method_5_code
def yX5_symbol : MethodName := ⟨RX5, "symbol", "(II)S"⟩
abbrev cX5_diff : ByteArray := prog_1_method_6_code
def yX5_diff : MethodName := ⟨RX5, "diff", "(II)I"⟩
abbrev cX5_operation : ByteArray := prog_1_method_7_code
def yX5_operation : MethodName := ⟨RX5, "operation", "(II)I"⟩
abbrev cX5_forget : ByteArray := prog_1_method_8_code
def yX5_forget : MethodName := ⟨RX5, "forget", "()V"⟩
abbrev cX5_load : ByteArray := prog_1_method_9_code
def yX5_load : MethodName := ⟨RX5, "load", "(III)Z"⟩
abbrev cX5_patch : ByteArray := prog_1_method_10_code
def yX5_patch : MethodName := ⟨RX5, "patch", "(I)I"⟩
abbrev cX5_merge : ByteArray := prog_1_method_11_code
def yX5_merge : MethodName := ⟨RX5, "merge", "()I"⟩
abbrev cX5_result : ByteArray := prog_1_method_12_code
def yX5_result : MethodName := ⟨RX5, "result", "(I)I"⟩
abbrev cX5_results : ByteArray := prog_1_method_13_code
def yX5_results : MethodName := ⟨RX5, "results", "()I"⟩
abbrev cX5_hunks : ByteArray := prog_1_method_14_code
def yX5_hunks : MethodName := ⟨RX5, "hunks", "(I)I"⟩
abbrev cX5_hunk : ByteArray := prog_1_method_15_code
def yX5_hunk : MethodName := ⟨RX5, "hunk", "(III)I"⟩
abbrev cX5_alike : ByteArray := prog_1_method_16_code
def yX5_alike : MethodName := ⟨RX5, "alike", "(II)F"⟩
abbrev cX5_isRow : ByteArray := prog_1_method_17_code
def yX5_isRow : MethodName := ⟨RX5, "isRow", "(I)Z"⟩
abbrev cX5_isSymbol : ByteArray := prog_1_method_18_code
def yX5_isSymbol : MethodName := ⟨RX5, "isSymbol", "(I)Z"⟩
abbrev cX5_isAround : ByteArray := prog_1_method_19_code
def yX5_isAround : MethodName := ⟨RX5, "isAround", "(I)Z"⟩
abbrev cX5_checkOperation : ByteArray := prog_1_method_20_code
def yX5_checkOperation : MethodName := ⟨RX5, "checkOperation", "(LDiffDesk$Row;I)V"⟩
abbrev cX5_checkRoom : ByteArray := prog_1_method_21_code
def yX5_checkRoom : MethodName := ⟨RX5, "checkRoom", "(I)V"⟩
abbrev cX5_swapResultAndDraft : ByteArray := prog_1_method_22_code
def yX5_swapResultAndDraft : MethodName := ⟨RX5, "swapResultAndDraft", "()V"⟩
def RX6 : String := "DiffDeskModel"
def TX6 : u_T := fun k => match k with
  | 0 => ("DiffDeskModel", "limit", "I", true)
  | 1 => ("DiffDeskModel", "thrown", "I", false)
  | 2 => ("DiffDeskModel", "sizes", "[I", true)
  | 3 => ("DiffDeskModel", "symbols", "[I", true)
  | 4 => ("DiffDeskModel", "operations", "I", false)
  | 5 => ("DiffDeskModel", "kind", "[I", true)
  | 6 => ("DiffDeskModel", "place", "[I", true)
  | 7 => ("DiffDeskModel", "symbol", "[I", true)
  | 8 => ("DiffDeskModel", "compared", "Z", false)
  | 9 => ("DiffDeskModel", "made", "I", false)
  | 10 => ("DiffDeskModel", "madeSize", "I", false)
  | 11 => ("DiffDeskModel", "madeKind", "[I", true)
  | 12 => ("DiffDeskModel", "madePlace", "[I", true)
  | 13 => ("DiffDeskModel", "results", "I", false)
  | 14 => ("DiffDeskModel", "result", "[I", true)
  | 15 => ("DiffDeskModel", "rest", "[I", true)
  | 16 => ("DiffDeskModel", "with1", "[I", true)
  | 17 => ("DiffDeskModel", "with2", "[I", true)
  | _ => ("DiffDeskModel", "found", "[I", true)
def tyX6 : Nat → FieldType := fun k => match k with
  | 0 => .int
  | 1 => .int
  | 2 => .array .int
  | 3 => .array .int
  | 4 => .int
  | 5 => .array .int
  | 6 => .array .int
  | 7 => .array .int
  | 8 => .boolean
  | 9 => .int
  | 10 => .int
  | 11 => .array .int
  | 12 => .array .int
  | 13 => .int
  | 14 => .array .int
  | 15 => .array .int
  | 16 => .array .int
  | 17 => .array .int
  | _ => .array .int
abbrev wsX60 : List Cond := u_ws RX6 TX6 19
theorem nmX6 : ∀ a, a < 19 → ∀ b, b < 19 → a ≠ b → (TX6 a).2.1 ≠ (TX6 b).2.1 := by decide +kernel
theorem tyX6_ok : ∀ k, k < 19 → parseFieldDescriptor (TX6 k).2.2.1 = some (tyX6 k) := by decide +kernel
abbrev cX6_init : ByteArray := prog_8_method_1_code
def yX6_init : MethodName := ⟨RX6, "<init>", "(I)V"⟩
abbrev cX6_thrown : ByteArray := prog_8_method_2_code
def yX6_thrown : MethodName := ⟨RX6, "thrown", "()I"⟩
abbrev cX6_isRow : ByteArray := prog_8_method_3_code
def yX6_isRow : MethodName := ⟨RX6, "isRow", "(I)Z"⟩
abbrev cX6_feed : ByteArray := prog_8_method_4_code
def yX6_feed : MethodName := ⟨RX6, "feed", "(IS)Z"⟩
abbrev cX6_clear : ByteArray := prog_8_method_5_code
def yX6_clear : MethodName := ⟨RX6, "clear", "(I)Z"⟩
abbrev cX6_size : ByteArray := prog_8_method_6_code
def yX6_size : MethodName := ⟨RX6, "size", "(I)I"⟩
abbrev cX6_symbol : ByteArray := prog_8_method_7_code
def yX6_symbol : MethodName := ⟨RX6, "symbol", "(II)S"⟩
abbrev cX6_same : ByteArray := prog_8_method_8_code
def yX6_same : MethodName := ⟨RX6, "same", "(IIII)Z"⟩
abbrev cX6_fill : ByteArray := prog_8_method_9_code
def yX6_fill : MethodName := ⟨RX6, "fill", "(II)V"⟩
abbrev cX6_deletes : ByteArray := prog_8_method_10_code
def yX6_deletes : MethodName := ⟨RX6, "deletes", "(III)Z"⟩
abbrev cX6_diff : ByteArray := prog_8_method_11_code
def yX6_diff : MethodName := ⟨RX6, "diff", "(II)I"⟩
abbrev cX6_put : ByteArray := prog_8_method_12_code
def yX6_put : MethodName := ⟨RX6, "put", "(III)V"⟩
abbrev cX6_operation : ByteArray := prog_8_method_13_code
def yX6_operation : MethodName := ⟨RX6, "operation", "(II)I"⟩
abbrev cX6_forget : ByteArray := prog_8_method_14_code
def yX6_forget : MethodName := ⟨RX6, "forget", "()V"⟩
abbrev cX6_load : ByteArray := prog_8_method_15_code
def yX6_load : MethodName := ⟨RX6, "load", "(III)Z"⟩
abbrev cX6_trouble : ByteArray := prog_8_method_16_code
def yX6_trouble : MethodName := ⟨RX6, "trouble", "(IIII)I"⟩
abbrev cX6_wrong : ByteArray := prog_8_method_17_code
def yX6_wrong : MethodName := ⟨RX6, "wrong", "(I)I"⟩
abbrev cX6_take : ByteArray := prog_8_method_18_code
def yX6_take : MethodName := ⟨RX6, "take", "(I)V"⟩
abbrev cX6_patch : ByteArray := prog_8_method_19_code
def yX6_patch : MethodName := ⟨RX6, "patch", "(I)I"⟩
abbrev cX6_keep : ByteArray := prog_8_method_20_code
def yX6_keep : MethodName := ⟨RX6, "keep", "(I[I)V"⟩
abbrev cX6_alikeParts : ByteArray := prog_8_method_21_code
def yX6_alikeParts : MethodName := ⟨RX6, "alikeParts", "(IIIIII)Z"⟩
abbrev cX6_copy : ByteArray := prog_8_method_22_code
def yX6_copy : MethodName := ⟨RX6, "copy", "(III)V"⟩
abbrev cX6_between : ByteArray := prog_8_method_23_code
def yX6_between : MethodName := ⟨RX6, "between", "(IIIIII)I"⟩
abbrev cX6_merge : ByteArray := prog_8_method_24_code
def yX6_merge : MethodName := ⟨RX6, "merge", "()I"⟩
abbrev cX6_result : ByteArray := prog_8_method_25_code
def yX6_result : MethodName := ⟨RX6, "result", "(I)I"⟩
abbrev cX6_results : ByteArray := prog_8_method_26_code
def yX6_results : MethodName := ⟨RX6, "results", "()I"⟩
abbrev cX6_together : ByteArray := prog_8_method_27_code
def yX6_together : MethodName := ⟨RX6, "together", "(II)Z"⟩
abbrev cX6_countHunks : ByteArray := prog_8_method_28_code
def yX6_countHunks : MethodName := ⟨RX6, "countHunks", "(I)I"⟩
abbrev cX6_hunks : ByteArray := prog_8_method_29_code
def yX6_hunks : MethodName := ⟨RX6, "hunks", "(I)I"⟩
abbrev cX6_hunk : ByteArray := prog_8_method_30_code
def yX6_hunk : MethodName := ⟨RX6, "hunk", "(III)I"⟩
abbrev cX6_alike : ByteArray := prog_8_method_31_code
def yX6_alike : MethodName := ⟨RX6, "alike", "(II)F"⟩
def RJ9 : String := "java/lang/Math"
def TJ9 : u_T := fun k => match k with
  | _ => ("", "", "", false)
def tyJ9 : Nat → FieldType := fun k => match k with
  | _ => .int
abbrev wsJ90 : List Cond := u_ws RJ9 TJ9 0
theorem nmJ9 : ∀ a, a < 0 → ∀ b, b < 0 → a ≠ b → (TJ9 a).2.1 ≠ (TJ9 b).2.1 := by decide +kernel
theorem tyJ9_ok : ∀ k, k < 0 → parseFieldDescriptor (TJ9 k).2.2.1 = some (tyJ9 k) := by decide +kernel
abbrev cJ9_max_7cf53 : ByteArray := prog_13_method_65_code
def yJ9_max_7cf53 : MethodName := ⟨RJ9, "max", "(II)I"⟩
abbrev cJ9_min_7cf53 : ByteArray := prog_13_method_69_code
def yJ9_min_7cf53 : MethodName := ⟨RJ9, "min", "(II)I"⟩
def RJ0 : String := "java/lang/String"
def TJ0 : u_T := fun k => match k with
  | _ => ("", "", "", false)
def tyJ0 : Nat → FieldType := fun k => match k with
  | _ => .int
abbrev wsJ00 : List Cond := u_ws RJ0 TJ0 0
theorem nmJ0 : ∀ a, a < 0 → ∀ b, b < 0 → a ≠ b → (TJ0 a).2.1 ≠ (TJ0 b).2.1 := by decide +kernel
theorem tyJ0_ok : ∀ k, k < 0 → parseFieldDescriptor (TJ0 k).2.2.1 = some (tyJ0 k) := by decide +kernel
def RL : String := "DiffDeskLaw"
abbrev cL_cell : ByteArray := method_2_code
def yL_cell : MethodName := ⟨RL, "cell", "([II)I"⟩
abbrev cL_diff : ByteArray := method_3_code
def yL_diff : MethodName := ⟨RL, "diff", "(LDiffDesk;II[J)I"⟩
abbrev cL_patch : ByteArray := method_4_code
def yL_patch : MethodName := ⟨RL, "patch", "(LDiffDesk;I[J)I"⟩
abbrev cL_law : ByteArray := code
def yL_law : MethodName := ⟨RL, "law", "([I)Z"⟩
def wsX2_init : List Cond := .code yX2_init cX2_init 2 none :: ([.methodLink RX2 3 objectInit, .instanceMethod objectInit, .code objectInit ⟨#[0xb1]⟩ 1 none, .arrayClass .int, .fieldLink RX2 9 "DiffDesk$Row" "items" "[I", .fieldLink RX2 15 "DiffDesk$Row" "count" "I"] ++ wsX20)
def wsX0_init : List Cond := .code yX0_init cX0_init 1 none :: ([.methodLink RX0 3 objectInit, .instanceMethod objectInit, .code objectInit ⟨#[0xb1]⟩ 1 none, .classLink RX0 9 "[[I", .arrayClass .int, .fieldLink RX0 11 "DiffDesk$Comparison" "rest" "[[I", .classLink RX0 16 RX2, .instantiable RX2 2, .initialized RX2, .fieldLink RX0 21 "DiffDesk$Comparison" "a" "LDiffDesk$Row;", .fieldLink RX0 25 "DiffDesk$Comparison" "b" "LDiffDesk$Row;", .methodLink RX0 18 yX2_init, .instanceMethod yX2_init, .code yX2_init cX2_init 2 none, .methodLink RX2 3 objectInit, .fieldLink RX2 9 "DiffDesk$Row" "items" "[I", .fieldLink RX2 15 "DiffDesk$Row" "count" "I"] ++ wsX00 ++ wsX20)
def wsX0_isSame : List Cond := .code yX0_isSame cX0_isSame 3 (some .boolean) :: ([.fieldLink RX0 21 "DiffDesk$Comparison" "a" "LDiffDesk$Row;", .fieldLink RX0 25 "DiffDesk$Comparison" "b" "LDiffDesk$Row;"] ++ wsX00 ++ wsX20)
def wsX0_restAt : List Cond := .code yX0_restAt cX0_restAt 3 (some .int) :: ([.fieldLink RX0 21 "DiffDesk$Comparison" "a" "LDiffDesk$Row;", .fieldLink RX0 25 "DiffDesk$Comparison" "b" "LDiffDesk$Row;", .fieldLink RX0 11 "DiffDesk$Comparison" "rest" "[[I", .methodLink RX0 59 Lib.Math.min.name, .static Lib.Math.min.name, .initialized "java/lang/Math", .code Lib.Math.min.name Lib.Math.min.code 2 (some .int), .methodLink RX0 55 yX0_isSame, .instanceMethod yX0_isSame, .selects RX0 yX0_isSame yX0_isSame, .initialized RX0, .code yX0_isSame cX0_isSame 3 (some .boolean)] ++ wsX00 ++ wsX20)
def wsX0_compare : List Cond := .code yX0_compare cX0_compare 5 none :: ([.fieldLink RX0 21 "DiffDesk$Comparison" "a" "LDiffDesk$Row;", .fieldLink RX0 25 "DiffDesk$Comparison" "b" "LDiffDesk$Row;", .fieldLink RX0 11 "DiffDesk$Comparison" "rest" "[[I", .methodLink RX0 32 yX0_restAt, .instanceMethod yX0_restAt, .selects RX0 yX0_restAt yX0_restAt, .initialized RX0, .code yX0_restAt cX0_restAt 3 (some .int), .methodLink RX0 59 Lib.Math.min.name, .static Lib.Math.min.name, .initialized "java/lang/Math", .code Lib.Math.min.name Lib.Math.min.code 2 (some .int), .methodLink RX0 55 yX0_isSame, .instanceMethod yX0_isSame, .selects RX0 yX0_isSame yX0_isSame, .code yX0_isSame cX0_isSame 3 (some .boolean)] ++ wsX00 ++ wsX20)
def wsX0_operations : List Cond := .code yX0_operations cX0_operations 1 (some .int) :: ([.fieldLink RX0 11 "DiffDesk$Comparison" "rest" "[[I"] ++ wsX00)
def wsX3_empty : List Cond := .code yX3_empty cX3_empty 1 none :: ([.fieldLink RX3 21 "DiffDesk$Script" "count" "I"] ++ wsX30)
def wsX0_stepAt : List Cond := .code yX0_stepAt cX0_stepAt 3 (some .int) :: ([.fieldLink RX0 21 "DiffDesk$Comparison" "a" "LDiffDesk$Row;", .fieldLink RX0 11 "DiffDesk$Comparison" "rest" "[[I", .methodLink RX0 55 yX0_isSame, .instanceMethod yX0_isSame, .selects RX0 yX0_isSame yX0_isSame, .initialized RX0, .code yX0_isSame cX0_isSame 3 (some .boolean), .fieldLink RX0 25 "DiffDesk$Comparison" "b" "LDiffDesk$Row;"] ++ wsX00 ++ wsX20)
def wsX2_at : List Cond := .code yX2_at cX2_at 3 (some .int) :: ([.fieldLink RX2 15 "DiffDesk$Row" "count" "I", .fieldLink RX2 9 "DiffDesk$Row" "items" "[I"] ++ wsX20)
def wsX3_add : List Cond := .code yX3_add cX3_add 4 (some .boolean) :: ([.fieldLink RX3 21 "DiffDesk$Script" "count" "I", .fieldLink RX3 9 "DiffDesk$Script" "kinds" "[I", .fieldLink RX3 15 "DiffDesk$Script" "places" "[I", .fieldLink RX3 18 "DiffDesk$Script" "symbols" "[I"] ++ wsX30)
def wsX0_writeTo_r1 : List Cond := [Cond.fieldLink RX0 21 "DiffDesk$Comparison" "a" "LDiffDesk$Row;", Cond.fieldLink RX0 25 "DiffDesk$Comparison" "b" "LDiffDesk$Row;", Cond.methodLink RX0 36 yX3_empty, Cond.instanceMethod yX3_empty, Cond.selects RX3 yX3_empty yX3_empty, Cond.initialized RX3, Cond.code yX3_empty cX3_empty 1 none, Cond.fieldLink RX3 21 "DiffDesk$Script" "count" "I", Cond.methodLink RX0 41 yX0_stepAt, Cond.instanceMethod yX0_stepAt, Cond.selects RX0 yX0_stepAt yX0_stepAt, Cond.initialized RX0, Cond.code yX0_stepAt cX0_stepAt 3 (some .int), Cond.fieldLink RX0 11 "DiffDesk$Comparison" "rest" "[[I", Cond.methodLink RX0 55 yX0_isSame, Cond.instanceMethod yX0_isSame, Cond.selects RX0 yX0_isSame yX0_isSame, Cond.code yX0_isSame cX0_isSame 3 (some .boolean), Cond.methodLink RX0 44 yX2_at, Cond.instanceMethod yX2_at, Cond.selects RX2 yX2_at yX2_at, Cond.initialized RX2, Cond.code yX2_at cX2_at 3 (some .int), Cond.fieldLink RX2 15 "DiffDesk$Row" "count" "I"]
def wsX0_writeTo_r2 : List Cond := [Cond.fieldLink RX2 9 "DiffDesk$Row" "items" "[I", Cond.methodLink RX0 47 yX3_add, Cond.instanceMethod yX3_add, Cond.selects RX3 yX3_add yX3_add, Cond.code yX3_add cX3_add 4 (some .boolean), Cond.fieldLink RX3 9 "DiffDesk$Script" "kinds" "[I", Cond.fieldLink RX3 15 "DiffDesk$Script" "places" "[I", Cond.fieldLink RX3 18 "DiffDesk$Script" "symbols" "[I"]
def wsX0_writeTo : List Cond := .code yX0_writeTo cX0_writeTo 5 none :: ((wsX0_writeTo_r1 ++ wsX0_writeTo_r2) ++ wsX00 ++ wsX20 ++ wsX30)
def wsX2_empty : List Cond := .code yX2_empty cX2_empty 1 none :: ([.fieldLink RX2 15 "DiffDesk$Row" "count" "I"] ++ wsX20)
def wsX2_add : List Cond := .code yX2_add cX2_add 2 (some .boolean) :: ([.fieldLink RX2 15 "DiffDesk$Row" "count" "I", .fieldLink RX2 9 "DiffDesk$Row" "items" "[I"] ++ wsX20)
def wsX0_pairTo : List Cond := .code yX0_pairTo cX0_pairTo 5 none :: ([.fieldLink RX0 21 "DiffDesk$Comparison" "a" "LDiffDesk$Row;", .fieldLink RX0 25 "DiffDesk$Comparison" "b" "LDiffDesk$Row;", .methodLink RX0 51 yX2_empty, .instanceMethod yX2_empty, .selects RX2 yX2_empty yX2_empty, .initialized RX2, .code yX2_empty cX2_empty 1 none, .fieldLink RX2 15 "DiffDesk$Row" "count" "I", .methodLink RX0 41 yX0_stepAt, .instanceMethod yX0_stepAt, .selects RX0 yX0_stepAt yX0_stepAt, .initialized RX0, .code yX0_stepAt cX0_stepAt 3 (some .int), .fieldLink RX0 11 "DiffDesk$Comparison" "rest" "[[I", .methodLink RX0 55 yX0_isSame, .instanceMethod yX0_isSame, .selects RX0 yX0_isSame yX0_isSame, .code yX0_isSame cX0_isSame 3 (some .boolean), .methodLink RX0 52 yX2_add, .instanceMethod yX2_add, .selects RX2 yX2_add yX2_add, .code yX2_add cX2_add 2 (some .boolean), .fieldLink RX2 9 "DiffDesk$Row" "items" "[I"] ++ wsX00 ++ wsX20)
def wsX4_init : List Cond := .code yX4_init cX4_init 2 none :: ([.methodLink RX4 3 objectInit, .instanceMethod objectInit, .code objectInit ⟨#[0xb1]⟩ 1 none, .fieldLink RX4 9 "DiffDesk$Stretch" "row" "LDiffDesk$Row;", .fieldLink RX4 15 "DiffDesk$Stretch" "from" "I", .fieldLink RX4 19 "DiffDesk$Stretch" "to" "I"] ++ wsX40)
def wsX1_init_r1 : List Cond := [Cond.methodLink RX1 3 objectInit, Cond.instanceMethod objectInit, Cond.code objectInit ⟨#[0xb1]⟩ 1 none, Cond.fieldLink RX1 9 "DiffDesk$Merger" "baseRow" "LDiffDesk$Row;", Cond.fieldLink RX1 15 "DiffDesk$Merger" "row1" "LDiffDesk$Row;", Cond.fieldLink RX1 18 "DiffDesk$Merger" "row2" "LDiffDesk$Row;", Cond.classLink RX1 21 RX2, Cond.instantiable RX2 2, Cond.initialized RX2, Cond.fieldLink RX1 26 "DiffDesk$Merger" "keptWith1" "LDiffDesk$Row;", Cond.fieldLink RX1 29 "DiffDesk$Merger" "keptWith2" "LDiffDesk$Row;", Cond.classLink RX1 32 RX4, Cond.instantiable RX4 3, Cond.initialized RX4, Cond.fieldLink RX1 37 "DiffDesk$Merger" "base" "LDiffDesk$Stretch;", Cond.fieldLink RX1 41 "DiffDesk$Merger" "one" "LDiffDesk$Stretch;", Cond.fieldLink RX1 44 "DiffDesk$Merger" "two" "LDiffDesk$Stretch;", Cond.methodLink RX1 23 yX2_init, Cond.instanceMethod yX2_init, Cond.code yX2_init cX2_init 2 none, Cond.methodLink RX2 3 objectInit, Cond.arrayClass .int, Cond.fieldLink RX2 9 "DiffDesk$Row" "items" "[I", Cond.fieldLink RX2 15 "DiffDesk$Row" "count" "I"]
def wsX1_init_r2 : List Cond := [Cond.methodLink RX1 34 yX4_init, Cond.instanceMethod yX4_init, Cond.code yX4_init cX4_init 2 none, Cond.methodLink RX4 3 objectInit, Cond.fieldLink RX4 9 "DiffDesk$Stretch" "row" "LDiffDesk$Row;", Cond.fieldLink RX4 15 "DiffDesk$Stretch" "from" "I", Cond.fieldLink RX4 19 "DiffDesk$Stretch" "to" "I"]
def wsX1_init : List Cond := .code yX1_init cX1_init 4 none :: ((wsX1_init_r1 ++ wsX1_init_r2) ++ wsX10 ++ wsX20 ++ wsX40)
def wsX4_begin : List Cond := .code yX4_begin cX4_begin 1 none :: ([.fieldLink RX4 15 "DiffDesk$Stretch" "from" "I", .fieldLink RX4 19 "DiffDesk$Stretch" "to" "I"] ++ wsX40)
def wsX1_isStable : List Cond := .code yX1_isStable cX1_isStable 2 (some .boolean) :: ([.fieldLink RX1 26 "DiffDesk$Merger" "keptWith1" "LDiffDesk$Row;", .fieldLink RX1 29 "DiffDesk$Merger" "keptWith2" "LDiffDesk$Row;", .methodLink RX1 67 yX2_at, .instanceMethod yX2_at, .selects RX2 yX2_at yX2_at, .initialized RX2, .code yX2_at cX2_at 3 (some .int), .fieldLink RX2 15 "DiffDesk$Row" "count" "I", .fieldLink RX2 9 "DiffDesk$Row" "items" "[I"] ++ wsX10 ++ wsX20)
def wsX4_endBefore : List Cond := .code yX4_endBefore cX4_endBefore 2 none :: ([.fieldLink RX4 19 "DiffDesk$Stretch" "to" "I"] ++ wsX40)
def wsX1_endStretches : List Cond := .code yX1_endStretches cX1_endStretches 4 none :: ([.fieldLink RX1 37 "DiffDesk$Merger" "base" "LDiffDesk$Stretch;", .fieldLink RX1 41 "DiffDesk$Merger" "one" "LDiffDesk$Stretch;", .fieldLink RX1 44 "DiffDesk$Merger" "two" "LDiffDesk$Stretch;", .methodLink RX1 85 yX4_endBefore, .instanceMethod yX4_endBefore, .selects RX4 yX4_endBefore yX4_endBefore, .initialized RX4, .code yX4_endBefore cX4_endBefore 2 none, .fieldLink RX4 19 "DiffDesk$Stretch" "to" "I"] ++ wsX10 ++ wsX40)
def wsX4_isSameAs : List Cond := .code yX4_isSameAs cX4_isSameAs 3 (some .boolean) :: ([.fieldLink RX4 19 "DiffDesk$Stretch" "to" "I", .fieldLink RX4 15 "DiffDesk$Stretch" "from" "I", .fieldLink RX4 9 "DiffDesk$Stretch" "row" "LDiffDesk$Row;", .methodLink RX4 22 yX2_at, .instanceMethod yX2_at, .selects RX2 yX2_at yX2_at, .initialized RX2, .code yX2_at cX2_at 3 (some .int), .fieldLink RX2 15 "DiffDesk$Row" "count" "I", .fieldLink RX2 9 "DiffDesk$Row" "items" "[I"] ++ wsX40 ++ wsX20)
def wsX2_addAll : List Cond := .code yX2_addAll cX2_addAll 5 none :: ([.methodLink RX2 19 yX2_at, .instanceMethod yX2_at, .selects RX2 yX2_at yX2_at, .initialized RX2, .code yX2_at cX2_at 3 (some .int), .fieldLink RX2 15 "DiffDesk$Row" "count" "I", .fieldLink RX2 9 "DiffDesk$Row" "items" "[I", .methodLink RX2 23 yX2_add, .instanceMethod yX2_add, .selects RX2 yX2_add yX2_add, .code yX2_add cX2_add 2 (some .boolean)] ++ wsX20)
def wsX4_addTo : List Cond := .code yX4_addTo cX4_addTo 2 none :: ([.fieldLink RX4 9 "DiffDesk$Stretch" "row" "LDiffDesk$Row;", .fieldLink RX4 15 "DiffDesk$Stretch" "from" "I", .fieldLink RX4 19 "DiffDesk$Stretch" "to" "I", .methodLink RX4 28 yX2_addAll, .instanceMethod yX2_addAll, .selects RX2 yX2_addAll yX2_addAll, .initialized RX2, .code yX2_addAll cX2_addAll 5 none, .methodLink RX2 19 yX2_at, .instanceMethod yX2_at, .selects RX2 yX2_at yX2_at, .code yX2_at cX2_at 3 (some .int), .fieldLink RX2 15 "DiffDesk$Row" "count" "I", .fieldLink RX2 9 "DiffDesk$Row" "items" "[I", .methodLink RX2 23 yX2_add, .instanceMethod yX2_add, .selects RX2 yX2_add yX2_add, .code yX2_add cX2_add 2 (some .boolean)] ++ wsX40 ++ wsX20)
def wsX1_mergeStretch_r1 : List Cond := [Cond.fieldLink RX1 41 "DiffDesk$Merger" "one" "LDiffDesk$Stretch;", Cond.fieldLink RX1 44 "DiffDesk$Merger" "two" "LDiffDesk$Stretch;", Cond.fieldLink RX1 37 "DiffDesk$Merger" "base" "LDiffDesk$Stretch;", Cond.methodLink RX1 89 yX4_isSameAs, Cond.instanceMethod yX4_isSameAs, Cond.selects RX4 yX4_isSameAs yX4_isSameAs, Cond.initialized RX4, Cond.code yX4_isSameAs cX4_isSameAs 3 (some .boolean), Cond.fieldLink RX4 19 "DiffDesk$Stretch" "to" "I", Cond.fieldLink RX4 15 "DiffDesk$Stretch" "from" "I", Cond.fieldLink RX4 9 "DiffDesk$Stretch" "row" "LDiffDesk$Row;", Cond.methodLink RX4 22 yX2_at, Cond.instanceMethod yX2_at, Cond.selects RX2 yX2_at yX2_at, Cond.initialized RX2, Cond.code yX2_at cX2_at 3 (some .int), Cond.fieldLink RX2 15 "DiffDesk$Row" "count" "I", Cond.fieldLink RX2 9 "DiffDesk$Row" "items" "[I", Cond.methodLink RX1 93 yX4_addTo, Cond.instanceMethod yX4_addTo, Cond.selects RX4 yX4_addTo yX4_addTo, Cond.code yX4_addTo cX4_addTo 2 none, Cond.methodLink RX4 28 yX2_addAll, Cond.instanceMethod yX2_addAll]
def wsX1_mergeStretch_r2 : List Cond := [Cond.selects RX2 yX2_addAll yX2_addAll, Cond.code yX2_addAll cX2_addAll 5 none, Cond.methodLink RX2 19 yX2_at, Cond.methodLink RX2 23 yX2_add, Cond.instanceMethod yX2_add, Cond.selects RX2 yX2_add yX2_add, Cond.code yX2_add cX2_add 2 (some .boolean), Cond.methodLink RX1 79 yX2_add]
def wsX1_mergeStretch : List Cond := .code yX1_mergeStretch cX1_mergeStretch 2 (some .int) :: ((wsX1_mergeStretch_r1 ++ wsX1_mergeStretch_r2) ++ wsX10 ++ wsX40 ++ wsX20)
def wsX4_goOnBehindStable : List Cond := .code yX4_goOnBehindStable cX4_goOnBehindStable 1 none :: ([.fieldLink RX4 19 "DiffDesk$Stretch" "to" "I", .fieldLink RX4 15 "DiffDesk$Stretch" "from" "I"] ++ wsX40)
def wsX1_goOnBehindStable : List Cond := .code yX1_goOnBehindStable cX1_goOnBehindStable 1 none :: ([.fieldLink RX1 37 "DiffDesk$Merger" "base" "LDiffDesk$Stretch;", .fieldLink RX1 41 "DiffDesk$Merger" "one" "LDiffDesk$Stretch;", .fieldLink RX1 44 "DiffDesk$Merger" "two" "LDiffDesk$Stretch;", .methodLink RX1 88 yX4_goOnBehindStable, .instanceMethod yX4_goOnBehindStable, .selects RX4 yX4_goOnBehindStable yX4_goOnBehindStable, .initialized RX4, .code yX4_goOnBehindStable cX4_goOnBehindStable 1 none, .fieldLink RX4 19 "DiffDesk$Stretch" "to" "I", .fieldLink RX4 15 "DiffDesk$Stretch" "from" "I"] ++ wsX10 ++ wsX40)
def wsX1_mergeTo_r1 : List Cond := [Cond.fieldLink RX1 9 "DiffDesk$Merger" "baseRow" "LDiffDesk$Row;", Cond.fieldLink RX1 15 "DiffDesk$Merger" "row1" "LDiffDesk$Row;", Cond.fieldLink RX1 26 "DiffDesk$Merger" "keptWith1" "LDiffDesk$Row;", Cond.fieldLink RX1 18 "DiffDesk$Merger" "row2" "LDiffDesk$Row;", Cond.fieldLink RX1 29 "DiffDesk$Merger" "keptWith2" "LDiffDesk$Row;", Cond.fieldLink RX1 37 "DiffDesk$Merger" "base" "LDiffDesk$Stretch;", Cond.fieldLink RX1 41 "DiffDesk$Merger" "one" "LDiffDesk$Stretch;", Cond.fieldLink RX1 44 "DiffDesk$Merger" "two" "LDiffDesk$Stretch;", Cond.methodLink RX1 47 yX0_compare, Cond.instanceMethod yX0_compare, Cond.selects RX0 yX0_compare yX0_compare, Cond.initialized RX0, Cond.code yX0_compare cX0_compare 5 none, Cond.fieldLink RX0 21 "DiffDesk$Comparison" "a" "LDiffDesk$Row;", Cond.fieldLink RX0 25 "DiffDesk$Comparison" "b" "LDiffDesk$Row;", Cond.fieldLink RX0 11 "DiffDesk$Comparison" "rest" "[[I", Cond.methodLink RX0 32 yX0_restAt, Cond.instanceMethod yX0_restAt, Cond.selects RX0 yX0_restAt yX0_restAt, Cond.code yX0_restAt cX0_restAt 3 (some .int), Cond.methodLink RX0 59 Lib.Math.min.name, Cond.static Lib.Math.min.name, Cond.initialized "java/lang/Math", Cond.code Lib.Math.min.name Lib.Math.min.code 2 (some .int)]
def wsX1_mergeTo_r2 : List Cond := [Cond.methodLink RX0 55 yX0_isSame, Cond.instanceMethod yX0_isSame, Cond.selects RX0 yX0_isSame yX0_isSame, Cond.code yX0_isSame cX0_isSame 3 (some .boolean), Cond.methodLink RX1 53 yX0_pairTo, Cond.instanceMethod yX0_pairTo, Cond.selects RX0 yX0_pairTo yX0_pairTo, Cond.code yX0_pairTo cX0_pairTo 5 none, Cond.methodLink RX0 51 yX2_empty, Cond.instanceMethod yX2_empty, Cond.selects RX2 yX2_empty yX2_empty, Cond.initialized RX2, Cond.code yX2_empty cX2_empty 1 none, Cond.fieldLink RX2 15 "DiffDesk$Row" "count" "I", Cond.methodLink RX0 41 yX0_stepAt, Cond.instanceMethod yX0_stepAt, Cond.selects RX0 yX0_stepAt yX0_stepAt, Cond.code yX0_stepAt cX0_stepAt 3 (some .int), Cond.methodLink RX0 52 yX2_add, Cond.instanceMethod yX2_add, Cond.selects RX2 yX2_add yX2_add, Cond.code yX2_add cX2_add 2 (some .boolean), Cond.fieldLink RX2 9 "DiffDesk$Row" "items" "[I", Cond.methodLink RX1 56 yX4_begin]
def wsX1_mergeTo_r3 : List Cond := [Cond.instanceMethod yX4_begin, Cond.selects RX4 yX4_begin yX4_begin, Cond.initialized RX4, Cond.code yX4_begin cX4_begin 1 none, Cond.fieldLink RX4 15 "DiffDesk$Stretch" "from" "I", Cond.fieldLink RX4 19 "DiffDesk$Stretch" "to" "I", Cond.methodLink RX1 63 yX1_isStable, Cond.instanceMethod yX1_isStable, Cond.selects RX1 yX1_isStable yX1_isStable, Cond.initialized RX1, Cond.code yX1_isStable cX1_isStable 2 (some .boolean), Cond.methodLink RX1 67 yX2_at, Cond.instanceMethod yX2_at, Cond.selects RX2 yX2_at yX2_at, Cond.code yX2_at cX2_at 3 (some .int), Cond.methodLink RX1 71 yX1_endStretches, Cond.instanceMethod yX1_endStretches, Cond.selects RX1 yX1_endStretches yX1_endStretches, Cond.code yX1_endStretches cX1_endStretches 4 none, Cond.methodLink RX1 85 yX4_endBefore, Cond.instanceMethod yX4_endBefore, Cond.selects RX4 yX4_endBefore yX4_endBefore, Cond.code yX4_endBefore cX4_endBefore 2 none, Cond.methodLink RX1 75 yX1_mergeStretch]
def wsX1_mergeTo_r4 : List Cond := [Cond.instanceMethod yX1_mergeStretch, Cond.selects RX1 yX1_mergeStretch yX1_mergeStretch, Cond.code yX1_mergeStretch cX1_mergeStretch 2 (some .int), Cond.methodLink RX1 89 yX4_isSameAs, Cond.instanceMethod yX4_isSameAs, Cond.selects RX4 yX4_isSameAs yX4_isSameAs, Cond.code yX4_isSameAs cX4_isSameAs 3 (some .boolean), Cond.fieldLink RX4 9 "DiffDesk$Stretch" "row" "LDiffDesk$Row;", Cond.methodLink RX4 22 yX2_at, Cond.methodLink RX1 93 yX4_addTo, Cond.instanceMethod yX4_addTo, Cond.selects RX4 yX4_addTo yX4_addTo, Cond.code yX4_addTo cX4_addTo 2 none, Cond.methodLink RX4 28 yX2_addAll, Cond.instanceMethod yX2_addAll, Cond.selects RX2 yX2_addAll yX2_addAll, Cond.code yX2_addAll cX2_addAll 5 none, Cond.methodLink RX2 19 yX2_at, Cond.methodLink RX2 23 yX2_add, Cond.methodLink RX1 79 yX2_add, Cond.methodLink RX1 82 yX1_goOnBehindStable, Cond.instanceMethod yX1_goOnBehindStable, Cond.selects RX1 yX1_goOnBehindStable yX1_goOnBehindStable, Cond.code yX1_goOnBehindStable cX1_goOnBehindStable 1 none]
def wsX1_mergeTo_r5 : List Cond := [Cond.methodLink RX1 88 yX4_goOnBehindStable, Cond.instanceMethod yX4_goOnBehindStable, Cond.selects RX4 yX4_goOnBehindStable yX4_goOnBehindStable, Cond.code yX4_goOnBehindStable cX4_goOnBehindStable 1 none]
def wsX1_mergeTo : List Cond := .code yX1_mergeTo cX1_mergeTo 5 (some .int) :: ((wsX1_mergeTo_r1 ++ (wsX1_mergeTo_r2 ++ (wsX1_mergeTo_r3 ++ (wsX1_mergeTo_r4 ++ wsX1_mergeTo_r5)))) ++ wsX10 ++ wsX20 ++ wsX00 ++ wsX40)
def wsX3_init : List Cond := .code yX3_init cX3_init 1 none :: ([.methodLink RX3 3 objectInit, .instanceMethod objectInit, .code objectInit ⟨#[0xb1]⟩ 1 none, .arrayClass .int, .fieldLink RX3 9 "DiffDesk$Script" "kinds" "[I", .fieldLink RX3 15 "DiffDesk$Script" "places" "[I", .fieldLink RX3 18 "DiffDesk$Script" "symbols" "[I", .fieldLink RX3 21 "DiffDesk$Script" "count" "I"] ++ wsX30)
def wsX3_has : List Cond := .code yX3_has cX3_has 2 (some .boolean) :: ([.fieldLink RX3 21 "DiffDesk$Script" "count" "I"] ++ wsX30)
def wsX3_placeOf : List Cond := .code yX3_placeOf cX3_placeOf 2 (some .int) :: ([.fieldLink RX3 15 "DiffDesk$Script" "places" "[I", .methodLink RX3 25 yX3_has, .instanceMethod yX3_has, .selects RX3 yX3_has yX3_has, .initialized RX3, .code yX3_has cX3_has 2 (some .boolean), .fieldLink RX3 21 "DiffDesk$Script" "count" "I"] ++ wsX30)
def wsX3_behind : List Cond := .code yX3_behind cX3_behind 2 (some .int) :: ([.fieldLink RX3 9 "DiffDesk$Script" "kinds" "[I", .fieldLink RX3 15 "DiffDesk$Script" "places" "[I", .methodLink RX3 25 yX3_has, .instanceMethod yX3_has, .selects RX3 yX3_has yX3_has, .initialized RX3, .code yX3_has cX3_has 2 (some .boolean), .fieldLink RX3 21 "DiffDesk$Script" "count" "I"] ++ wsX30)
def wsX3_beginsHunk : List Cond := .code yX3_beginsHunk cX3_beginsHunk 3 (some .boolean) :: ([.methodLink RX3 29 yX3_placeOf, .instanceMethod yX3_placeOf, .selects RX3 yX3_placeOf yX3_placeOf, .initialized RX3, .code yX3_placeOf cX3_placeOf 2 (some .int), .fieldLink RX3 15 "DiffDesk$Script" "places" "[I", .methodLink RX3 25 yX3_has, .instanceMethod yX3_has, .selects RX3 yX3_has yX3_has, .code yX3_has cX3_has 2 (some .boolean), .fieldLink RX3 21 "DiffDesk$Script" "count" "I", .methodLink RX3 33 yX3_behind, .instanceMethod yX3_behind, .selects RX3 yX3_behind yX3_behind, .code yX3_behind cX3_behind 2 (some .int), .fieldLink RX3 9 "DiffDesk$Script" "kinds" "[I"] ++ wsX30)
def wsX3_firstOfHunk : List Cond := .code yX3_firstOfHunk cX3_firstOfHunk 5 (some .int) :: ([.fieldLink RX3 21 "DiffDesk$Script" "count" "I", .methodLink RX3 36 yX3_beginsHunk, .instanceMethod yX3_beginsHunk, .selects RX3 yX3_beginsHunk yX3_beginsHunk, .initialized RX3, .code yX3_beginsHunk cX3_beginsHunk 3 (some .boolean), .methodLink RX3 29 yX3_placeOf, .instanceMethod yX3_placeOf, .selects RX3 yX3_placeOf yX3_placeOf, .code yX3_placeOf cX3_placeOf 2 (some .int), .fieldLink RX3 15 "DiffDesk$Script" "places" "[I", .methodLink RX3 25 yX3_has, .instanceMethod yX3_has, .selects RX3 yX3_has yX3_has, .code yX3_has cX3_has 2 (some .boolean), .methodLink RX3 33 yX3_behind, .instanceMethod yX3_behind, .selects RX3 yX3_behind yX3_behind, .code yX3_behind cX3_behind 2 (some .int), .fieldLink RX3 9 "DiffDesk$Script" "kinds" "[I"] ++ wsX30)
def wsX3_lastOfHunk : List Cond := .code yX3_lastOfHunk cX3_lastOfHunk 4 (some .int) :: ([.fieldLink RX3 21 "DiffDesk$Script" "count" "I", .methodLink RX3 36 yX3_beginsHunk, .instanceMethod yX3_beginsHunk, .selects RX3 yX3_beginsHunk yX3_beginsHunk, .initialized RX3, .code yX3_beginsHunk cX3_beginsHunk 3 (some .boolean), .methodLink RX3 29 yX3_placeOf, .instanceMethod yX3_placeOf, .selects RX3 yX3_placeOf yX3_placeOf, .code yX3_placeOf cX3_placeOf 2 (some .int), .fieldLink RX3 15 "DiffDesk$Script" "places" "[I", .methodLink RX3 25 yX3_has, .instanceMethod yX3_has, .selects RX3 yX3_has yX3_has, .code yX3_has cX3_has 2 (some .boolean), .methodLink RX3 33 yX3_behind, .instanceMethod yX3_behind, .selects RX3 yX3_behind yX3_behind, .code yX3_behind cX3_behind 2 (some .int), .fieldLink RX3 9 "DiffDesk$Script" "kinds" "[I"] ++ wsX30)
def wsX3_countKind : List Cond := .code yX3_countKind cX3_countKind 6 (some .int) :: ([.fieldLink RX3 9 "DiffDesk$Script" "kinds" "[I", .methodLink RX3 25 yX3_has, .instanceMethod yX3_has, .selects RX3 yX3_has yX3_has, .initialized RX3, .code yX3_has cX3_has 2 (some .boolean), .fieldLink RX3 21 "DiffDesk$Script" "count" "I"] ++ wsX30)
def wsX5_init_r1 : List Cond := [Cond.methodLink RX5 3 objectInit, Cond.instanceMethod objectInit, Cond.code objectInit ⟨#[0xb1]⟩ 1 none, Cond.methodLink RX5 9 Lib.Math.min.name, Cond.static Lib.Math.min.name, Cond.initialized "java/lang/Math", Cond.code Lib.Math.min.name Lib.Math.min.code 2 (some .int), Cond.methodLink RX5 15 Lib.Math.max.name, Cond.static Lib.Math.max.name, Cond.code Lib.Math.max.name Lib.Math.max.code 2 (some .int), Cond.fieldLink RX5 18 "DiffDesk" "limit" "I", Cond.classLink RX5 22 RX2, Cond.fieldLink RX5 24 "DiffDesk" "rows" "[LDiffDesk$Row;", Cond.instantiable RX2 2, Cond.initialized RX2, Cond.classLink RX5 31 RX3, Cond.instantiable RX3 4, Cond.initialized RX3, Cond.fieldLink RX5 34 "DiffDesk" "script" "LDiffDesk$Script;", Cond.fieldLink RX5 38 "DiffDesk" "latest" "LDiffDesk$Script;", Cond.fieldLink RX5 41 "DiffDesk" "latestSize" "I", Cond.classLink RX5 44 RX0, Cond.instantiable RX0 3, Cond.initialized RX0]
def wsX5_init_r2 : List Cond := [Cond.fieldLink RX5 47 "DiffDesk" "comparison" "LDiffDesk$Comparison;", Cond.classLink RX5 51 RX1, Cond.instantiable RX1 8, Cond.initialized RX1, Cond.fieldLink RX5 56 "DiffDesk" "merger" "LDiffDesk$Merger;", Cond.fieldLink RX5 60 "DiffDesk" "result" "LDiffDesk$Row;", Cond.fieldLink RX5 64 "DiffDesk" "draft" "LDiffDesk$Row;", Cond.methodLink RX5 28 yX2_init, Cond.instanceMethod yX2_init, Cond.code yX2_init cX2_init 2 none, Cond.methodLink RX2 3 objectInit, Cond.arrayClass .int, Cond.fieldLink RX2 9 "DiffDesk$Row" "items" "[I", Cond.fieldLink RX2 15 "DiffDesk$Row" "count" "I", Cond.methodLink RX5 33 yX3_init, Cond.instanceMethod yX3_init, Cond.code yX3_init cX3_init 1 none, Cond.methodLink RX3 3 objectInit, Cond.fieldLink RX3 9 "DiffDesk$Script" "kinds" "[I", Cond.fieldLink RX3 15 "DiffDesk$Script" "places" "[I", Cond.fieldLink RX3 18 "DiffDesk$Script" "symbols" "[I", Cond.fieldLink RX3 21 "DiffDesk$Script" "count" "I", Cond.methodLink RX5 46 yX0_init, Cond.instanceMethod yX0_init]
def wsX5_init_r3 : List Cond := [Cond.code yX0_init cX0_init 1 none, Cond.methodLink RX0 3 objectInit, Cond.classLink RX0 9 "[[I", Cond.fieldLink RX0 11 "DiffDesk$Comparison" "rest" "[[I", Cond.classLink RX0 16 RX2, Cond.fieldLink RX0 21 "DiffDesk$Comparison" "a" "LDiffDesk$Row;", Cond.fieldLink RX0 25 "DiffDesk$Comparison" "b" "LDiffDesk$Row;", Cond.methodLink RX0 18 yX2_init, Cond.methodLink RX5 53 yX1_init, Cond.instanceMethod yX1_init, Cond.code yX1_init cX1_init 4 none, Cond.methodLink RX1 3 objectInit, Cond.fieldLink RX1 9 "DiffDesk$Merger" "baseRow" "LDiffDesk$Row;", Cond.fieldLink RX1 15 "DiffDesk$Merger" "row1" "LDiffDesk$Row;", Cond.fieldLink RX1 18 "DiffDesk$Merger" "row2" "LDiffDesk$Row;", Cond.classLink RX1 21 RX2, Cond.fieldLink RX1 26 "DiffDesk$Merger" "keptWith1" "LDiffDesk$Row;", Cond.fieldLink RX1 29 "DiffDesk$Merger" "keptWith2" "LDiffDesk$Row;", Cond.classLink RX1 32 RX4, Cond.instantiable RX4 3, Cond.initialized RX4, Cond.fieldLink RX1 37 "DiffDesk$Merger" "base" "LDiffDesk$Stretch;", Cond.fieldLink RX1 41 "DiffDesk$Merger" "one" "LDiffDesk$Stretch;", Cond.fieldLink RX1 44 "DiffDesk$Merger" "two" "LDiffDesk$Stretch;"]
def wsX5_init_r4 : List Cond := [Cond.methodLink RX1 23 yX2_init, Cond.methodLink RX1 34 yX4_init, Cond.instanceMethod yX4_init, Cond.code yX4_init cX4_init 2 none, Cond.methodLink RX4 3 objectInit, Cond.fieldLink RX4 9 "DiffDesk$Stretch" "row" "LDiffDesk$Row;", Cond.fieldLink RX4 15 "DiffDesk$Stretch" "from" "I", Cond.fieldLink RX4 19 "DiffDesk$Stretch" "to" "I"]
def wsX5_init : List Cond := .code yX5_init cX5_init 3 none :: ((wsX5_init_r1 ++ (wsX5_init_r2 ++ (wsX5_init_r3 ++ wsX5_init_r4))) ++ wsX50 ++ wsX20 ++ wsX30 ++ wsX00 ++ wsX10 ++ wsX40)
def wsX5_isRow : List Cond := .code yX5_isRow cX5_isRow 1 (some .boolean) :: ([])
def wsX5_isSymbol : List Cond := .code yX5_isSymbol cX5_isSymbol 1 (some .boolean) :: ([])
def wsX5_feed : List Cond := .code yX5_feed cX5_feed 3 (some .boolean) :: ([.fieldLink RX5 24 "DiffDesk" "rows" "[LDiffDesk$Row;", .methodLink RX5 67 yX5_isRow, .static yX5_isRow, .initialized RX5, .code yX5_isRow cX5_isRow 1 (some .boolean), .methodLink RX5 71 yX5_isSymbol, .static yX5_isSymbol, .code yX5_isSymbol cX5_isSymbol 1 (some .boolean), .methodLink RX5 74 yX2_add, .instanceMethod yX2_add, .selects RX2 yX2_add yX2_add, .initialized RX2, .code yX2_add cX2_add 2 (some .boolean), .fieldLink RX2 15 "DiffDesk$Row" "count" "I", .fieldLink RX2 9 "DiffDesk$Row" "items" "[I"] ++ wsX50 ++ wsX20)
def wsX5_clear : List Cond := .code yX5_clear cX5_clear 2 (some .boolean) :: ([.fieldLink RX5 24 "DiffDesk" "rows" "[LDiffDesk$Row;", .methodLink RX5 67 yX5_isRow, .static yX5_isRow, .initialized RX5, .code yX5_isRow cX5_isRow 1 (some .boolean), .methodLink RX5 77 yX2_empty, .instanceMethod yX2_empty, .selects RX2 yX2_empty yX2_empty, .initialized RX2, .code yX2_empty cX2_empty 1 none, .fieldLink RX2 15 "DiffDesk$Row" "count" "I"] ++ wsX50 ++ wsX20)
def wsX5_size : List Cond := .code yX5_size cX5_size 2 (some .int) :: ([.fieldLink RX5 24 "DiffDesk" "rows" "[LDiffDesk$Row;", .methodLink RX5 67 yX5_isRow, .static yX5_isRow, .initialized RX5, .code yX5_isRow cX5_isRow 1 (some .boolean)] ++ wsX50 ++ wsX20)
def wsX5_symbol : List Cond := .code yX5_symbol cX5_symbol 3 (some .short) :: ([.fieldLink RX5 24 "DiffDesk" "rows" "[LDiffDesk$Row;", .methodLink RX5 67 yX5_isRow, .static yX5_isRow, .initialized RX5, .code yX5_isRow cX5_isRow 1 (some .boolean), .methodLink RX5 83 yX2_at, .instanceMethod yX2_at, .selects RX2 yX2_at yX2_at, .initialized RX2, .code yX2_at cX2_at 3 (some .int), .fieldLink RX2 15 "DiffDesk$Row" "count" "I", .fieldLink RX2 9 "DiffDesk$Row" "items" "[I"] ++ wsX50 ++ wsX20)
def wsX5_diff_r1 : List Cond := [Cond.classLink RX5 86 "java/lang/IllegalArgumentException", Cond.initialized "java/lang/IllegalArgumentException", Cond.classLink RX5 101 "java/lang/IllegalStateException", Cond.initialized "java/lang/IllegalStateException", Cond.fieldLink RX5 47 "DiffDesk" "comparison" "LDiffDesk$Comparison;", Cond.fieldLink RX5 24 "DiffDesk" "rows" "[LDiffDesk$Row;", Cond.fieldLink RX5 18 "DiffDesk" "limit" "I", Cond.fieldLink RX5 34 "DiffDesk" "script" "LDiffDesk$Script;", Cond.fieldLink RX5 38 "DiffDesk" "latest" "LDiffDesk$Script;", Cond.fieldLink RX5 41 "DiffDesk" "latestSize" "I", Cond.methodLink RX5 67 yX5_isRow, Cond.static yX5_isRow, Cond.initialized RX5, Cond.code yX5_isRow cX5_isRow 1 (some .boolean), Cond.methodLink RX5 93 yX0_compare, Cond.instanceMethod yX0_compare, Cond.selects RX0 yX0_compare yX0_compare, Cond.initialized RX0, Cond.code yX0_compare cX0_compare 5 none, Cond.fieldLink RX0 21 "DiffDesk$Comparison" "a" "LDiffDesk$Row;", Cond.fieldLink RX0 25 "DiffDesk$Comparison" "b" "LDiffDesk$Row;", Cond.fieldLink RX0 11 "DiffDesk$Comparison" "rest" "[[I", Cond.methodLink RX0 32 yX0_restAt, Cond.instanceMethod yX0_restAt]
def wsX5_diff_r2 : List Cond := [Cond.selects RX0 yX0_restAt yX0_restAt, Cond.code yX0_restAt cX0_restAt 3 (some .int), Cond.methodLink RX0 59 Lib.Math.min.name, Cond.static Lib.Math.min.name, Cond.initialized "java/lang/Math", Cond.code Lib.Math.min.name Lib.Math.min.code 2 (some .int), Cond.methodLink RX0 55 yX0_isSame, Cond.instanceMethod yX0_isSame, Cond.selects RX0 yX0_isSame yX0_isSame, Cond.code yX0_isSame cX0_isSame 3 (some .boolean), Cond.methodLink RX5 97 yX0_operations, Cond.instanceMethod yX0_operations, Cond.selects RX0 yX0_operations yX0_operations, Cond.code yX0_operations cX0_operations 1 (some .int), Cond.methodLink RX5 106 yX0_writeTo, Cond.instanceMethod yX0_writeTo, Cond.selects RX0 yX0_writeTo yX0_writeTo, Cond.code yX0_writeTo cX0_writeTo 5 none, Cond.methodLink RX0 36 yX3_empty, Cond.instanceMethod yX3_empty, Cond.selects RX3 yX3_empty yX3_empty, Cond.initialized RX3, Cond.code yX3_empty cX3_empty 1 none, Cond.fieldLink RX3 21 "DiffDesk$Script" "count" "I"]
def wsX5_diff_r3 : List Cond := [Cond.methodLink RX0 41 yX0_stepAt, Cond.instanceMethod yX0_stepAt, Cond.selects RX0 yX0_stepAt yX0_stepAt, Cond.code yX0_stepAt cX0_stepAt 3 (some .int), Cond.methodLink RX0 44 yX2_at, Cond.instanceMethod yX2_at, Cond.selects RX2 yX2_at yX2_at, Cond.initialized RX2, Cond.code yX2_at cX2_at 3 (some .int), Cond.fieldLink RX2 15 "DiffDesk$Row" "count" "I", Cond.fieldLink RX2 9 "DiffDesk$Row" "items" "[I", Cond.methodLink RX0 47 yX3_add, Cond.instanceMethod yX3_add, Cond.selects RX3 yX3_add yX3_add, Cond.code yX3_add cX3_add 4 (some .boolean), Cond.fieldLink RX3 9 "DiffDesk$Script" "kinds" "[I", Cond.fieldLink RX3 15 "DiffDesk$Script" "places" "[I", Cond.fieldLink RX3 18 "DiffDesk$Script" "symbols" "[I"]
def wsX5_diff : List Cond := .code yX5_diff cX5_diff 3 (some .int) :: ((wsX5_diff_r1 ++ (wsX5_diff_r2 ++ wsX5_diff_r3)) ++ wsX50 ++ wsX20 ++ wsX30 ++ wsX00 ++ (vx_atS RX5 90 "java/lang/IllegalArgumentException" ["java/lang/RuntimeException", "java/lang/Exception"]).filter goodWord ++ (vx_atS RX5 105 "java/lang/IllegalStateException" ["java/lang/RuntimeException", "java/lang/Exception"]).filter goodWord)
def wsX5_operation : List Cond := .code yX5_operation cX5_operation 3 (some .int) :: ([.fieldLink RX5 34 "DiffDesk" "script" "LDiffDesk$Script;", .methodLink RX5 111 yX3_has, .instanceMethod yX3_has, .selects RX3 yX3_has yX3_has, .initialized RX3, .code yX3_has cX3_has 2 (some .boolean), .fieldLink RX3 21 "DiffDesk$Script" "count" "I"] ++ wsX50 ++ wsX30)
def wsX5_forget : List Cond := .code yX5_forget cX5_forget 1 none :: ([.fieldLink RX5 34 "DiffDesk" "script" "LDiffDesk$Script;", .methodLink RX5 124 yX3_empty, .instanceMethod yX3_empty, .selects RX3 yX3_empty yX3_empty, .initialized RX3, .code yX3_empty cX3_empty 1 none, .fieldLink RX3 21 "DiffDesk$Script" "count" "I"] ++ wsX50 ++ wsX30)
def wsX5_load : List Cond := .code yX5_load cX5_load 4 (some .boolean) :: ([.fieldLink RX5 34 "DiffDesk" "script" "LDiffDesk$Script;", .methodLink RX5 125 yX3_add, .instanceMethod yX3_add, .selects RX3 yX3_add yX3_add, .initialized RX3, .code yX3_add cX3_add 4 (some .boolean), .fieldLink RX3 21 "DiffDesk$Script" "count" "I", .fieldLink RX3 9 "DiffDesk$Script" "kinds" "[I", .fieldLink RX3 15 "DiffDesk$Script" "places" "[I", .fieldLink RX3 18 "DiffDesk$Script" "symbols" "[I"] ++ wsX50 ++ wsX30)
def wsX5_checkOperation_r1 : List Cond := [Cond.classLink RX5 86 "java/lang/IllegalArgumentException", Cond.initialized "java/lang/IllegalArgumentException", Cond.classLink RX5 176 "java/lang/IndexOutOfBoundsException", Cond.initialized "java/lang/IndexOutOfBoundsException", Cond.classLink RX5 101 "java/lang/IllegalStateException", Cond.initialized "java/lang/IllegalStateException", Cond.fieldLink RX5 34 "DiffDesk" "script" "LDiffDesk$Script;", Cond.methodLink RX5 71 yX5_isSymbol, Cond.static yX5_isSymbol, Cond.initialized RX5, Cond.code yX5_isSymbol cX5_isSymbol 1 (some .boolean), Cond.methodLink RX5 139 yX3_behind, Cond.instanceMethod yX3_behind, Cond.selects RX3 yX3_behind yX3_behind, Cond.initialized RX3, Cond.code yX3_behind cX3_behind 2 (some .int), Cond.fieldLink RX3 9 "DiffDesk$Script" "kinds" "[I", Cond.fieldLink RX3 15 "DiffDesk$Script" "places" "[I", Cond.methodLink RX3 25 yX3_has, Cond.instanceMethod yX3_has, Cond.selects RX3 yX3_has yX3_has, Cond.code yX3_has cX3_has 2 (some .boolean), Cond.fieldLink RX3 21 "DiffDesk$Script" "count" "I", Cond.methodLink RX5 83 yX2_at]
def wsX5_checkOperation_r2 : List Cond := [Cond.instanceMethod yX2_at, Cond.selects RX2 yX2_at yX2_at, Cond.initialized RX2, Cond.code yX2_at cX2_at 3 (some .int), Cond.fieldLink RX2 15 "DiffDesk$Row" "count" "I", Cond.fieldLink RX2 9 "DiffDesk$Row" "items" "[I"]
def wsX5_checkOperation : List Cond := .code yX5_checkOperation cX5_checkOperation 7 none :: ((wsX5_checkOperation_r1 ++ wsX5_checkOperation_r2) ++ wsX50 ++ wsX30 ++ wsX20 ++ (vx_atS RX5 90 "java/lang/IllegalArgumentException" ["java/lang/RuntimeException", "java/lang/Exception"]).filter goodWord ++ (vx_atS RX5 180 "java/lang/IndexOutOfBoundsException" ["java/lang/RuntimeException", "java/lang/Exception"]).filter goodWord ++ (vx_atS RX5 105 "java/lang/IllegalStateException" ["java/lang/RuntimeException", "java/lang/Exception"]).filter goodWord)
def wsX5_checkRoom : List Cond := .code yX5_checkRoom cX5_checkRoom 2 none :: ([.classLink RX5 183 "java/lang/UnsupportedOperationException", .initialized "java/lang/UnsupportedOperationException", .fieldLink RX5 64 "DiffDesk" "draft" "LDiffDesk$Row;"] ++ wsX50 ++ wsX20 ++ (vx_atS RX5 187 "java/lang/UnsupportedOperationException" ["java/lang/RuntimeException", "java/lang/Exception"]).filter goodWord)
def wsX5_swapResultAndDraft : List Cond := .code yX5_swapResultAndDraft cX5_swapResultAndDraft 2 none :: ([.fieldLink RX5 60 "DiffDesk" "result" "LDiffDesk$Row;", .fieldLink RX5 64 "DiffDesk" "draft" "LDiffDesk$Row;"] ++ wsX50)
def wsX5_patch_r1 : List Cond := [Cond.classLink RX5 86 "java/lang/IllegalArgumentException", Cond.initialized "java/lang/IllegalArgumentException", Cond.fieldLink RX5 24 "DiffDesk" "rows" "[LDiffDesk$Row;", Cond.fieldLink RX5 64 "DiffDesk" "draft" "LDiffDesk$Row;", Cond.fieldLink RX5 34 "DiffDesk" "script" "LDiffDesk$Script;", Cond.fieldLink RX5 60 "DiffDesk" "result" "LDiffDesk$Row;", Cond.methodLink RX5 67 yX5_isRow, Cond.static yX5_isRow, Cond.initialized RX5, Cond.code yX5_isRow cX5_isRow 1 (some .boolean), Cond.methodLink RX5 77 yX2_empty, Cond.instanceMethod yX2_empty, Cond.selects RX2 yX2_empty yX2_empty, Cond.initialized RX2, Cond.code yX2_empty cX2_empty 1 none, Cond.fieldLink RX2 15 "DiffDesk$Row" "count" "I", Cond.methodLink RX5 128 yX5_checkOperation, Cond.instanceMethod yX5_checkOperation, Cond.selects RX5 yX5_checkOperation yX5_checkOperation, Cond.code yX5_checkOperation cX5_checkOperation 7 none, Cond.classLink RX5 176 "java/lang/IndexOutOfBoundsException", Cond.initialized "java/lang/IndexOutOfBoundsException", Cond.classLink RX5 101 "java/lang/IllegalStateException", Cond.initialized "java/lang/IllegalStateException"]
def wsX5_patch_r2 : List Cond := [Cond.methodLink RX5 71 yX5_isSymbol, Cond.static yX5_isSymbol, Cond.code yX5_isSymbol cX5_isSymbol 1 (some .boolean), Cond.methodLink RX5 139 yX3_behind, Cond.instanceMethod yX3_behind, Cond.selects RX3 yX3_behind yX3_behind, Cond.initialized RX3, Cond.code yX3_behind cX3_behind 2 (some .int), Cond.fieldLink RX3 9 "DiffDesk$Script" "kinds" "[I", Cond.fieldLink RX3 15 "DiffDesk$Script" "places" "[I", Cond.methodLink RX3 25 yX3_has, Cond.instanceMethod yX3_has, Cond.selects RX3 yX3_has yX3_has, Cond.code yX3_has cX3_has 2 (some .boolean), Cond.fieldLink RX3 21 "DiffDesk$Script" "count" "I", Cond.methodLink RX5 83 yX2_at, Cond.instanceMethod yX2_at, Cond.selects RX2 yX2_at yX2_at, Cond.code yX2_at cX2_at 3 (some .int), Cond.fieldLink RX2 9 "DiffDesk$Row" "items" "[I", Cond.methodLink RX5 132 yX5_checkRoom, Cond.instanceMethod yX5_checkRoom, Cond.selects RX5 yX5_checkRoom yX5_checkRoom, Cond.code yX5_checkRoom cX5_checkRoom 2 none]
def wsX5_patch_r3 : List Cond := [Cond.classLink RX5 183 "java/lang/UnsupportedOperationException", Cond.initialized "java/lang/UnsupportedOperationException", Cond.methodLink RX5 135 yX2_addAll, Cond.instanceMethod yX2_addAll, Cond.selects RX2 yX2_addAll yX2_addAll, Cond.code yX2_addAll cX2_addAll 5 none, Cond.methodLink RX2 19 yX2_at, Cond.methodLink RX2 23 yX2_add, Cond.instanceMethod yX2_add, Cond.selects RX2 yX2_add yX2_add, Cond.code yX2_add cX2_add 2 (some .boolean), Cond.methodLink RX5 74 yX2_add, Cond.methodLink RX5 143 yX5_swapResultAndDraft, Cond.instanceMethod yX5_swapResultAndDraft, Cond.selects RX5 yX5_swapResultAndDraft yX5_swapResultAndDraft, Cond.code yX5_swapResultAndDraft cX5_swapResultAndDraft 2 none]
def wsX5_patch : List Cond := .code yX5_patch cX5_patch 7 (some .int) :: ((wsX5_patch_r1 ++ (wsX5_patch_r2 ++ wsX5_patch_r3)) ++ wsX50 ++ wsX30 ++ wsX20 ++ (vx_atS RX5 90 "java/lang/IllegalArgumentException" ["java/lang/RuntimeException", "java/lang/Exception"]).filter goodWord ++ (vx_atS RX5 180 "java/lang/IndexOutOfBoundsException" ["java/lang/RuntimeException", "java/lang/Exception"]).filter goodWord ++ (vx_atS RX5 105 "java/lang/IllegalStateException" ["java/lang/RuntimeException", "java/lang/Exception"]).filter goodWord ++ (vx_atS RX5 187 "java/lang/UnsupportedOperationException" ["java/lang/RuntimeException", "java/lang/Exception"]).filter goodWord)
def wsX5_merge_r1 : List Cond := [Cond.fieldLink RX5 60 "DiffDesk" "result" "LDiffDesk$Row;", Cond.fieldLink RX5 56 "DiffDesk" "merger" "LDiffDesk$Merger;", Cond.fieldLink RX5 47 "DiffDesk" "comparison" "LDiffDesk$Comparison;", Cond.methodLink RX5 77 yX2_empty, Cond.instanceMethod yX2_empty, Cond.selects RX2 yX2_empty yX2_empty, Cond.initialized RX2, Cond.code yX2_empty cX2_empty 1 none, Cond.fieldLink RX2 15 "DiffDesk$Row" "count" "I", Cond.methodLink RX5 146 yX1_mergeTo, Cond.instanceMethod yX1_mergeTo, Cond.selects RX1 yX1_mergeTo yX1_mergeTo, Cond.initialized RX1, Cond.code yX1_mergeTo cX1_mergeTo 5 (some .int), Cond.fieldLink RX1 9 "DiffDesk$Merger" "baseRow" "LDiffDesk$Row;", Cond.fieldLink RX1 15 "DiffDesk$Merger" "row1" "LDiffDesk$Row;", Cond.fieldLink RX1 26 "DiffDesk$Merger" "keptWith1" "LDiffDesk$Row;", Cond.fieldLink RX1 18 "DiffDesk$Merger" "row2" "LDiffDesk$Row;", Cond.fieldLink RX1 29 "DiffDesk$Merger" "keptWith2" "LDiffDesk$Row;", Cond.fieldLink RX1 37 "DiffDesk$Merger" "base" "LDiffDesk$Stretch;", Cond.fieldLink RX1 41 "DiffDesk$Merger" "one" "LDiffDesk$Stretch;", Cond.fieldLink RX1 44 "DiffDesk$Merger" "two" "LDiffDesk$Stretch;", Cond.methodLink RX1 47 yX0_compare, Cond.instanceMethod yX0_compare]
def wsX5_merge_r2 : List Cond := [Cond.selects RX0 yX0_compare yX0_compare, Cond.initialized RX0, Cond.code yX0_compare cX0_compare 5 none, Cond.fieldLink RX0 21 "DiffDesk$Comparison" "a" "LDiffDesk$Row;", Cond.fieldLink RX0 25 "DiffDesk$Comparison" "b" "LDiffDesk$Row;", Cond.fieldLink RX0 11 "DiffDesk$Comparison" "rest" "[[I", Cond.methodLink RX0 32 yX0_restAt, Cond.instanceMethod yX0_restAt, Cond.selects RX0 yX0_restAt yX0_restAt, Cond.code yX0_restAt cX0_restAt 3 (some .int), Cond.methodLink RX0 59 Lib.Math.min.name, Cond.static Lib.Math.min.name, Cond.initialized "java/lang/Math", Cond.code Lib.Math.min.name Lib.Math.min.code 2 (some .int), Cond.methodLink RX0 55 yX0_isSame, Cond.instanceMethod yX0_isSame, Cond.selects RX0 yX0_isSame yX0_isSame, Cond.code yX0_isSame cX0_isSame 3 (some .boolean), Cond.methodLink RX1 53 yX0_pairTo, Cond.instanceMethod yX0_pairTo, Cond.selects RX0 yX0_pairTo yX0_pairTo, Cond.code yX0_pairTo cX0_pairTo 5 none, Cond.methodLink RX0 51 yX2_empty, Cond.methodLink RX0 41 yX0_stepAt]
def wsX5_merge_r3 : List Cond := [Cond.instanceMethod yX0_stepAt, Cond.selects RX0 yX0_stepAt yX0_stepAt, Cond.code yX0_stepAt cX0_stepAt 3 (some .int), Cond.methodLink RX0 52 yX2_add, Cond.instanceMethod yX2_add, Cond.selects RX2 yX2_add yX2_add, Cond.code yX2_add cX2_add 2 (some .boolean), Cond.fieldLink RX2 9 "DiffDesk$Row" "items" "[I", Cond.methodLink RX1 56 yX4_begin, Cond.instanceMethod yX4_begin, Cond.selects RX4 yX4_begin yX4_begin, Cond.initialized RX4, Cond.code yX4_begin cX4_begin 1 none, Cond.fieldLink RX4 15 "DiffDesk$Stretch" "from" "I", Cond.fieldLink RX4 19 "DiffDesk$Stretch" "to" "I", Cond.methodLink RX1 63 yX1_isStable, Cond.instanceMethod yX1_isStable, Cond.selects RX1 yX1_isStable yX1_isStable, Cond.code yX1_isStable cX1_isStable 2 (some .boolean), Cond.methodLink RX1 67 yX2_at, Cond.instanceMethod yX2_at, Cond.selects RX2 yX2_at yX2_at, Cond.code yX2_at cX2_at 3 (some .int), Cond.methodLink RX1 71 yX1_endStretches]
def wsX5_merge_r4 : List Cond := [Cond.instanceMethod yX1_endStretches, Cond.selects RX1 yX1_endStretches yX1_endStretches, Cond.code yX1_endStretches cX1_endStretches 4 none, Cond.methodLink RX1 85 yX4_endBefore, Cond.instanceMethod yX4_endBefore, Cond.selects RX4 yX4_endBefore yX4_endBefore, Cond.code yX4_endBefore cX4_endBefore 2 none, Cond.methodLink RX1 75 yX1_mergeStretch, Cond.instanceMethod yX1_mergeStretch, Cond.selects RX1 yX1_mergeStretch yX1_mergeStretch, Cond.code yX1_mergeStretch cX1_mergeStretch 2 (some .int), Cond.methodLink RX1 89 yX4_isSameAs, Cond.instanceMethod yX4_isSameAs, Cond.selects RX4 yX4_isSameAs yX4_isSameAs, Cond.code yX4_isSameAs cX4_isSameAs 3 (some .boolean), Cond.fieldLink RX4 9 "DiffDesk$Stretch" "row" "LDiffDesk$Row;", Cond.methodLink RX4 22 yX2_at, Cond.methodLink RX1 93 yX4_addTo, Cond.instanceMethod yX4_addTo, Cond.selects RX4 yX4_addTo yX4_addTo, Cond.code yX4_addTo cX4_addTo 2 none, Cond.methodLink RX4 28 yX2_addAll, Cond.instanceMethod yX2_addAll, Cond.selects RX2 yX2_addAll yX2_addAll]
def wsX5_merge_r5 : List Cond := [Cond.code yX2_addAll cX2_addAll 5 none, Cond.methodLink RX2 19 yX2_at, Cond.methodLink RX2 23 yX2_add, Cond.methodLink RX1 79 yX2_add, Cond.methodLink RX1 82 yX1_goOnBehindStable, Cond.instanceMethod yX1_goOnBehindStable, Cond.selects RX1 yX1_goOnBehindStable yX1_goOnBehindStable, Cond.code yX1_goOnBehindStable cX1_goOnBehindStable 1 none, Cond.methodLink RX1 88 yX4_goOnBehindStable, Cond.instanceMethod yX4_goOnBehindStable, Cond.selects RX4 yX4_goOnBehindStable yX4_goOnBehindStable, Cond.code yX4_goOnBehindStable cX4_goOnBehindStable 1 none]
def wsX5_merge : List Cond := .code yX5_merge cX5_merge 1 (some .int) :: ((wsX5_merge_r1 ++ (wsX5_merge_r2 ++ (wsX5_merge_r3 ++ (wsX5_merge_r4 ++ wsX5_merge_r5)))) ++ wsX50 ++ wsX20 ++ wsX10 ++ wsX00 ++ wsX40)
def wsX5_result : List Cond := .code yX5_result cX5_result 2 (some .int) :: ([.fieldLink RX5 60 "DiffDesk" "result" "LDiffDesk$Row;", .methodLink RX5 83 yX2_at, .instanceMethod yX2_at, .selects RX2 yX2_at yX2_at, .initialized RX2, .code yX2_at cX2_at 3 (some .int), .fieldLink RX2 15 "DiffDesk$Row" "count" "I", .fieldLink RX2 9 "DiffDesk$Row" "items" "[I"] ++ wsX50 ++ wsX20)
def wsX5_results : List Cond := .code yX5_results cX5_results 1 (some .int) :: ([.fieldLink RX5 60 "DiffDesk" "result" "LDiffDesk$Row;"] ++ wsX50 ++ wsX20)
def wsX5_isAround : List Cond := .code yX5_isAround cX5_isAround 1 (some .boolean) :: ([])
def wsX5_hunks_r1 : List Cond := [Cond.fieldLink RX5 38 "DiffDesk" "latest" "LDiffDesk$Script;", Cond.methodLink RX5 150 yX5_isAround, Cond.static yX5_isAround, Cond.initialized RX5, Cond.code yX5_isAround cX5_isAround 1 (some .boolean), Cond.methodLink RX5 153 yX3_beginsHunk, Cond.instanceMethod yX3_beginsHunk, Cond.selects RX3 yX3_beginsHunk yX3_beginsHunk, Cond.initialized RX3, Cond.code yX3_beginsHunk cX3_beginsHunk 3 (some .boolean), Cond.methodLink RX3 29 yX3_placeOf, Cond.instanceMethod yX3_placeOf, Cond.selects RX3 yX3_placeOf yX3_placeOf, Cond.code yX3_placeOf cX3_placeOf 2 (some .int), Cond.fieldLink RX3 15 "DiffDesk$Script" "places" "[I", Cond.methodLink RX3 25 yX3_has, Cond.instanceMethod yX3_has, Cond.selects RX3 yX3_has yX3_has, Cond.code yX3_has cX3_has 2 (some .boolean), Cond.fieldLink RX3 21 "DiffDesk$Script" "count" "I", Cond.methodLink RX3 33 yX3_behind, Cond.instanceMethod yX3_behind, Cond.selects RX3 yX3_behind yX3_behind, Cond.code yX3_behind cX3_behind 2 (some .int)]
def wsX5_hunks_r2 : List Cond := [Cond.fieldLink RX3 9 "DiffDesk$Script" "kinds" "[I"]
def wsX5_hunks : List Cond := .code yX5_hunks cX5_hunks 4 (some .int) :: ((wsX5_hunks_r1 ++ wsX5_hunks_r2) ++ wsX50 ++ wsX30)
def wsX5_hunk_r1 : List Cond := [Cond.fieldLink RX5 38 "DiffDesk" "latest" "LDiffDesk$Script;", Cond.methodLink RX5 15 Lib.Math.max.name, Cond.static Lib.Math.max.name, Cond.initialized "java/lang/Math", Cond.code Lib.Math.max.name Lib.Math.max.code 2 (some .int), Cond.fieldLink RX5 41 "DiffDesk" "latestSize" "I", Cond.methodLink RX5 9 Lib.Math.min.name, Cond.static Lib.Math.min.name, Cond.code Lib.Math.min.name Lib.Math.min.code 2 (some .int), Cond.methodLink RX5 157 yX5_hunks, Cond.instanceMethod yX5_hunks, Cond.selects RX5 yX5_hunks yX5_hunks, Cond.initialized RX5, Cond.code yX5_hunks cX5_hunks 4 (some .int), Cond.methodLink RX5 150 yX5_isAround, Cond.static yX5_isAround, Cond.code yX5_isAround cX5_isAround 1 (some .boolean), Cond.methodLink RX5 153 yX3_beginsHunk, Cond.instanceMethod yX3_beginsHunk, Cond.selects RX3 yX3_beginsHunk yX3_beginsHunk, Cond.initialized RX3, Cond.code yX3_beginsHunk cX3_beginsHunk 3 (some .boolean), Cond.methodLink RX3 29 yX3_placeOf, Cond.instanceMethod yX3_placeOf]
def wsX5_hunk_r2 : List Cond := [Cond.selects RX3 yX3_placeOf yX3_placeOf, Cond.code yX3_placeOf cX3_placeOf 2 (some .int), Cond.fieldLink RX3 15 "DiffDesk$Script" "places" "[I", Cond.methodLink RX3 25 yX3_has, Cond.instanceMethod yX3_has, Cond.selects RX3 yX3_has yX3_has, Cond.code yX3_has cX3_has 2 (some .boolean), Cond.fieldLink RX3 21 "DiffDesk$Script" "count" "I", Cond.methodLink RX3 33 yX3_behind, Cond.instanceMethod yX3_behind, Cond.selects RX3 yX3_behind yX3_behind, Cond.code yX3_behind cX3_behind 2 (some .int), Cond.fieldLink RX3 9 "DiffDesk$Script" "kinds" "[I", Cond.methodLink RX5 160 yX3_firstOfHunk, Cond.instanceMethod yX3_firstOfHunk, Cond.selects RX3 yX3_firstOfHunk yX3_firstOfHunk, Cond.code yX3_firstOfHunk cX3_firstOfHunk 5 (some .int), Cond.methodLink RX3 36 yX3_beginsHunk, Cond.methodLink RX5 163 yX3_lastOfHunk, Cond.instanceMethod yX3_lastOfHunk, Cond.selects RX3 yX3_lastOfHunk yX3_lastOfHunk, Cond.code yX3_lastOfHunk cX3_lastOfHunk 4 (some .int), Cond.methodLink RX5 166 yX3_placeOf, Cond.methodLink RX5 139 yX3_behind]
def wsX5_hunk_r3 : List Cond := [Cond.methodLink RX5 169 yX3_countKind, Cond.instanceMethod yX3_countKind, Cond.selects RX3 yX3_countKind yX3_countKind, Cond.code yX3_countKind cX3_countKind 6 (some .int)]
def wsX5_hunk : List Cond := .code yX5_hunk cX5_hunk 7 (some .int) :: ((wsX5_hunk_r1 ++ (wsX5_hunk_r2 ++ wsX5_hunk_r3)) ++ wsX50 ++ wsX30)
def wsX5_alike_r1 : List Cond := [Cond.constantFloat RX5 173 (3212836864), Cond.fieldLink RX5 24 "DiffDesk" "rows" "[LDiffDesk$Row;", Cond.fieldLink RX5 47 "DiffDesk" "comparison" "LDiffDesk$Comparison;", Cond.methodLink RX5 67 yX5_isRow, Cond.static yX5_isRow, Cond.initialized RX5, Cond.code yX5_isRow cX5_isRow 1 (some .boolean), Cond.methodLink RX5 93 yX0_compare, Cond.instanceMethod yX0_compare, Cond.selects RX0 yX0_compare yX0_compare, Cond.initialized RX0, Cond.code yX0_compare cX0_compare 5 none, Cond.fieldLink RX0 21 "DiffDesk$Comparison" "a" "LDiffDesk$Row;", Cond.fieldLink RX0 25 "DiffDesk$Comparison" "b" "LDiffDesk$Row;", Cond.fieldLink RX0 11 "DiffDesk$Comparison" "rest" "[[I", Cond.methodLink RX0 32 yX0_restAt, Cond.instanceMethod yX0_restAt, Cond.selects RX0 yX0_restAt yX0_restAt, Cond.code yX0_restAt cX0_restAt 3 (some .int), Cond.methodLink RX0 59 Lib.Math.min.name, Cond.static Lib.Math.min.name, Cond.initialized "java/lang/Math", Cond.code Lib.Math.min.name Lib.Math.min.code 2 (some .int), Cond.methodLink RX0 55 yX0_isSame]
def wsX5_alike_r2 : List Cond := [Cond.instanceMethod yX0_isSame, Cond.selects RX0 yX0_isSame yX0_isSame, Cond.code yX0_isSame cX0_isSame 3 (some .boolean), Cond.methodLink RX5 97 yX0_operations, Cond.instanceMethod yX0_operations, Cond.selects RX0 yX0_operations yX0_operations, Cond.code yX0_operations cX0_operations 1 (some .int)]
def wsX5_alike : List Cond := .code yX5_alike cX5_alike 5 (some .float) :: ((wsX5_alike_r1 ++ wsX5_alike_r2) ++ wsX50 ++ wsX20 ++ wsX00)
def wsX6_init : List Cond := .code yX6_init cX6_init 2 none :: ([.methodLink RX6 1 objectInit, .instanceMethod objectInit, .code objectInit ⟨#[0xb1]⟩ 1 none, .arrayClass .int, .fieldLink RX6 7 "DiffDeskModel" "sizes" "[I", .fieldLink RX6 13 "DiffDeskModel" "symbols" "[I", .fieldLink RX6 16 "DiffDeskModel" "kind" "[I", .fieldLink RX6 19 "DiffDeskModel" "place" "[I", .fieldLink RX6 22 "DiffDeskModel" "symbol" "[I", .fieldLink RX6 25 "DiffDeskModel" "madeKind" "[I", .fieldLink RX6 28 "DiffDeskModel" "madePlace" "[I", .fieldLink RX6 31 "DiffDeskModel" "result" "[I", .fieldLink RX6 34 "DiffDeskModel" "rest" "[I", .fieldLink RX6 37 "DiffDeskModel" "with1" "[I", .fieldLink RX6 40 "DiffDeskModel" "with2" "[I", .fieldLink RX6 43 "DiffDeskModel" "found" "[I", .fieldLink RX6 46 "DiffDeskModel" "limit" "I"] ++ wsX60)
def wsX6_thrown : List Cond := .code yX6_thrown cX6_thrown 1 (some .int) :: ([.fieldLink RX6 50 "DiffDeskModel" "thrown" "I"] ++ wsX60)
def wsX6_isRow : List Cond := .code yX6_isRow cX6_isRow 1 (some .boolean) :: ([])
def wsX6_feed : List Cond := .code yX6_feed cX6_feed 3 (some .boolean) :: ([.fieldLink RX6 50 "DiffDeskModel" "thrown" "I", .fieldLink RX6 7 "DiffDeskModel" "sizes" "[I", .fieldLink RX6 13 "DiffDeskModel" "symbols" "[I", .methodLink RX6 53 yX6_isRow, .static yX6_isRow, .initialized RX6, .code yX6_isRow cX6_isRow 1 (some .boolean)] ++ wsX60)
def wsX6_clear : List Cond := .code yX6_clear cX6_clear 2 (some .boolean) :: ([.fieldLink RX6 50 "DiffDeskModel" "thrown" "I", .fieldLink RX6 7 "DiffDeskModel" "sizes" "[I", .methodLink RX6 53 yX6_isRow, .static yX6_isRow, .initialized RX6, .code yX6_isRow cX6_isRow 1 (some .boolean)] ++ wsX60)
def wsX6_size : List Cond := .code yX6_size cX6_size 2 (some .int) :: ([.fieldLink RX6 50 "DiffDeskModel" "thrown" "I", .fieldLink RX6 7 "DiffDeskModel" "sizes" "[I", .methodLink RX6 53 yX6_isRow, .static yX6_isRow, .initialized RX6, .code yX6_isRow cX6_isRow 1 (some .boolean)] ++ wsX60)
def wsX6_symbol : List Cond := .code yX6_symbol cX6_symbol 3 (some .short) :: ([.fieldLink RX6 50 "DiffDeskModel" "thrown" "I", .fieldLink RX6 7 "DiffDeskModel" "sizes" "[I", .fieldLink RX6 13 "DiffDeskModel" "symbols" "[I", .methodLink RX6 53 yX6_isRow, .static yX6_isRow, .initialized RX6, .code yX6_isRow cX6_isRow 1 (some .boolean)] ++ wsX60)
def wsX6_same : List Cond := .code yX6_same cX6_same 5 (some .boolean) :: ([.fieldLink RX6 13 "DiffDeskModel" "symbols" "[I"] ++ wsX60)
def wsX6_fill : List Cond := .code yX6_fill cX6_fill 10 none :: ([.fieldLink RX6 7 "DiffDeskModel" "sizes" "[I", .fieldLink RX6 34 "DiffDeskModel" "rest" "[I", .methodLink RX6 57 yX6_same, .instanceMethod yX6_same, .selects RX6 yX6_same yX6_same, .initialized RX6, .code yX6_same cX6_same 5 (some .boolean), .fieldLink RX6 13 "DiffDeskModel" "symbols" "[I"] ++ wsX60)
def wsX6_deletes : List Cond := .code yX6_deletes cX6_deletes 4 (some .boolean) :: ([.fieldLink RX6 7 "DiffDeskModel" "sizes" "[I", .fieldLink RX6 34 "DiffDeskModel" "rest" "[I"] ++ wsX60)
def wsX6_put : List Cond := .code yX6_put cX6_put 4 none :: ([.fieldLink RX6 16 "DiffDeskModel" "kind" "[I", .fieldLink RX6 65 "DiffDeskModel" "operations" "I", .fieldLink RX6 19 "DiffDeskModel" "place" "[I", .fieldLink RX6 22 "DiffDeskModel" "symbol" "[I"] ++ wsX60)
def wsX6_diff_r1 : List Cond := [Cond.fieldLink RX6 34 "DiffDeskModel" "rest" "[I", Cond.fieldLink RX6 46 "DiffDeskModel" "limit" "I", Cond.fieldLink RX6 50 "DiffDeskModel" "thrown" "I", Cond.fieldLink RX6 65 "DiffDeskModel" "operations" "I", Cond.fieldLink RX6 7 "DiffDeskModel" "sizes" "[I", Cond.fieldLink RX6 13 "DiffDeskModel" "symbols" "[I", Cond.fieldLink RX6 76 "DiffDeskModel" "compared" "Z", Cond.fieldLink RX6 80 "DiffDeskModel" "made" "I", Cond.fieldLink RX6 83 "DiffDeskModel" "madeSize" "I", Cond.fieldLink RX6 25 "DiffDeskModel" "madeKind" "[I", Cond.fieldLink RX6 16 "DiffDeskModel" "kind" "[I", Cond.fieldLink RX6 28 "DiffDeskModel" "madePlace" "[I", Cond.fieldLink RX6 19 "DiffDeskModel" "place" "[I", Cond.methodLink RX6 53 yX6_isRow, Cond.static yX6_isRow, Cond.initialized RX6, Cond.code yX6_isRow cX6_isRow 1 (some .boolean), Cond.methodLink RX6 61 yX6_fill, Cond.instanceMethod yX6_fill, Cond.selects RX6 yX6_fill yX6_fill, Cond.code yX6_fill cX6_fill 10 none, Cond.methodLink RX6 57 yX6_same, Cond.instanceMethod yX6_same, Cond.selects RX6 yX6_same yX6_same]
def wsX6_diff_r2 : List Cond := [Cond.code yX6_same cX6_same 5 (some .boolean), Cond.methodLink RX6 68 yX6_deletes, Cond.instanceMethod yX6_deletes, Cond.selects RX6 yX6_deletes yX6_deletes, Cond.code yX6_deletes cX6_deletes 4 (some .boolean), Cond.methodLink RX6 72 yX6_put, Cond.instanceMethod yX6_put, Cond.selects RX6 yX6_put yX6_put, Cond.code yX6_put cX6_put 4 none, Cond.fieldLink RX6 22 "DiffDeskModel" "symbol" "[I"]
def wsX6_diff : List Cond := .code yX6_diff cX6_diff 7 (some .int) :: ((wsX6_diff_r1 ++ wsX6_diff_r2) ++ wsX60)
def wsX6_operation : List Cond := .code yX6_operation cX6_operation 3 (some .int) :: ([.fieldLink RX6 50 "DiffDeskModel" "thrown" "I", .fieldLink RX6 65 "DiffDeskModel" "operations" "I", .fieldLink RX6 16 "DiffDeskModel" "kind" "[I", .fieldLink RX6 19 "DiffDeskModel" "place" "[I", .fieldLink RX6 22 "DiffDeskModel" "symbol" "[I"] ++ wsX60)
def wsX6_forget : List Cond := .code yX6_forget cX6_forget 1 none :: ([.fieldLink RX6 50 "DiffDeskModel" "thrown" "I", .fieldLink RX6 65 "DiffDeskModel" "operations" "I"] ++ wsX60)
def wsX6_load : List Cond := .code yX6_load cX6_load 4 (some .boolean) :: ([.fieldLink RX6 50 "DiffDeskModel" "thrown" "I", .fieldLink RX6 65 "DiffDeskModel" "operations" "I", .methodLink RX6 72 yX6_put, .instanceMethod yX6_put, .selects RX6 yX6_put yX6_put, .initialized RX6, .code yX6_put cX6_put 4 none, .fieldLink RX6 16 "DiffDeskModel" "kind" "[I", .fieldLink RX6 19 "DiffDeskModel" "place" "[I", .fieldLink RX6 22 "DiffDeskModel" "symbol" "[I"] ++ wsX60)
def wsX6_trouble : List Cond := .code yX6_trouble cX6_trouble 8 (some .int) :: ([.fieldLink RX6 7 "DiffDeskModel" "sizes" "[I", .fieldLink RX6 16 "DiffDeskModel" "kind" "[I", .fieldLink RX6 19 "DiffDeskModel" "place" "[I", .fieldLink RX6 22 "DiffDeskModel" "symbol" "[I", .fieldLink RX6 13 "DiffDeskModel" "symbols" "[I"] ++ wsX60)
def wsX6_wrong : List Cond := .code yX6_wrong cX6_wrong 6 (some .int) :: ([.fieldLink RX6 65 "DiffDeskModel" "operations" "I", .fieldLink RX6 19 "DiffDeskModel" "place" "[I", .fieldLink RX6 16 "DiffDeskModel" "kind" "[I", .fieldLink RX6 7 "DiffDeskModel" "sizes" "[I", .methodLink RX6 86 yX6_trouble, .instanceMethod yX6_trouble, .selects RX6 yX6_trouble yX6_trouble, .initialized RX6, .code yX6_trouble cX6_trouble 8 (some .int), .fieldLink RX6 22 "DiffDeskModel" "symbol" "[I", .fieldLink RX6 13 "DiffDeskModel" "symbols" "[I"] ++ wsX60)
def wsX6_take : List Cond := .code yX6_take cX6_take 2 none :: ([.fieldLink RX6 31 "DiffDeskModel" "result" "[I", .fieldLink RX6 90 "DiffDeskModel" "results" "I"] ++ wsX60)
def wsX6_patch_r1 : List Cond := [Cond.fieldLink RX6 50 "DiffDeskModel" "thrown" "I", Cond.fieldLink RX6 90 "DiffDeskModel" "results" "I", Cond.fieldLink RX6 7 "DiffDeskModel" "sizes" "[I", Cond.fieldLink RX6 65 "DiffDeskModel" "operations" "I", Cond.fieldLink RX6 19 "DiffDeskModel" "place" "[I", Cond.fieldLink RX6 16 "DiffDeskModel" "kind" "[I", Cond.fieldLink RX6 22 "DiffDeskModel" "symbol" "[I", Cond.fieldLink RX6 13 "DiffDeskModel" "symbols" "[I", Cond.methodLink RX6 53 yX6_isRow, Cond.static yX6_isRow, Cond.initialized RX6, Cond.code yX6_isRow cX6_isRow 1 (some .boolean), Cond.methodLink RX6 93 yX6_wrong, Cond.instanceMethod yX6_wrong, Cond.selects RX6 yX6_wrong yX6_wrong, Cond.code yX6_wrong cX6_wrong 6 (some .int), Cond.methodLink RX6 86 yX6_trouble, Cond.instanceMethod yX6_trouble, Cond.selects RX6 yX6_trouble yX6_trouble, Cond.code yX6_trouble cX6_trouble 8 (some .int), Cond.methodLink RX6 97 yX6_take, Cond.instanceMethod yX6_take, Cond.selects RX6 yX6_take yX6_take, Cond.code yX6_take cX6_take 2 none]
def wsX6_patch_r2 : List Cond := [Cond.fieldLink RX6 31 "DiffDeskModel" "result" "[I"]
def wsX6_patch : List Cond := .code yX6_patch cX6_patch 5 (some .int) :: ((wsX6_patch_r1 ++ wsX6_patch_r2) ++ wsX60)
def wsX6_keep : List Cond := .code yX6_keep cX6_keep 5 none :: ([.fieldLink RX6 7 "DiffDeskModel" "sizes" "[I", .methodLink RX6 61 yX6_fill, .instanceMethod yX6_fill, .selects RX6 yX6_fill yX6_fill, .initialized RX6, .code yX6_fill cX6_fill 10 none, .fieldLink RX6 34 "DiffDeskModel" "rest" "[I", .methodLink RX6 57 yX6_same, .instanceMethod yX6_same, .selects RX6 yX6_same yX6_same, .code yX6_same cX6_same 5 (some .boolean), .fieldLink RX6 13 "DiffDeskModel" "symbols" "[I", .methodLink RX6 68 yX6_deletes, .instanceMethod yX6_deletes, .selects RX6 yX6_deletes yX6_deletes, .code yX6_deletes cX6_deletes 4 (some .boolean)] ++ wsX60)
def wsX6_alikeParts : List Cond := .code yX6_alikeParts cX6_alikeParts 9 (some .boolean) :: ([.methodLink RX6 57 yX6_same, .instanceMethod yX6_same, .selects RX6 yX6_same yX6_same, .initialized RX6, .code yX6_same cX6_same 5 (some .boolean), .fieldLink RX6 13 "DiffDeskModel" "symbols" "[I"] ++ wsX60)
def wsX6_copy : List Cond := .code yX6_copy cX6_copy 5 none :: ([.fieldLink RX6 13 "DiffDeskModel" "symbols" "[I", .methodLink RX6 97 yX6_take, .instanceMethod yX6_take, .selects RX6 yX6_take yX6_take, .initialized RX6, .code yX6_take cX6_take 2 none, .fieldLink RX6 31 "DiffDeskModel" "result" "[I", .fieldLink RX6 90 "DiffDeskModel" "results" "I"] ++ wsX60)
def wsX6_between : List Cond := .code yX6_between cX6_between 8 (some .int) :: ([.methodLink RX6 101 yX6_alikeParts, .instanceMethod yX6_alikeParts, .selects RX6 yX6_alikeParts yX6_alikeParts, .initialized RX6, .code yX6_alikeParts cX6_alikeParts 9 (some .boolean), .methodLink RX6 57 yX6_same, .instanceMethod yX6_same, .selects RX6 yX6_same yX6_same, .code yX6_same cX6_same 5 (some .boolean), .fieldLink RX6 13 "DiffDeskModel" "symbols" "[I", .methodLink RX6 105 yX6_copy, .instanceMethod yX6_copy, .selects RX6 yX6_copy yX6_copy, .code yX6_copy cX6_copy 5 none, .methodLink RX6 97 yX6_take, .instanceMethod yX6_take, .selects RX6 yX6_take yX6_take, .code yX6_take cX6_take 2 none, .fieldLink RX6 31 "DiffDeskModel" "result" "[I", .fieldLink RX6 90 "DiffDeskModel" "results" "I"] ++ wsX60)
def wsX6_merge_r1 : List Cond := [Cond.fieldLink RX6 50 "DiffDeskModel" "thrown" "I", Cond.fieldLink RX6 37 "DiffDeskModel" "with1" "[I", Cond.fieldLink RX6 40 "DiffDeskModel" "with2" "[I", Cond.fieldLink RX6 90 "DiffDeskModel" "results" "I", Cond.fieldLink RX6 7 "DiffDeskModel" "sizes" "[I", Cond.fieldLink RX6 13 "DiffDeskModel" "symbols" "[I", Cond.methodLink RX6 108 yX6_keep, Cond.instanceMethod yX6_keep, Cond.selects RX6 yX6_keep yX6_keep, Cond.initialized RX6, Cond.code yX6_keep cX6_keep 5 none, Cond.methodLink RX6 61 yX6_fill, Cond.instanceMethod yX6_fill, Cond.selects RX6 yX6_fill yX6_fill, Cond.code yX6_fill cX6_fill 10 none, Cond.fieldLink RX6 34 "DiffDeskModel" "rest" "[I", Cond.methodLink RX6 57 yX6_same, Cond.instanceMethod yX6_same, Cond.selects RX6 yX6_same yX6_same, Cond.code yX6_same cX6_same 5 (some .boolean), Cond.methodLink RX6 68 yX6_deletes, Cond.instanceMethod yX6_deletes, Cond.selects RX6 yX6_deletes yX6_deletes, Cond.code yX6_deletes cX6_deletes 4 (some .boolean)]
def wsX6_merge_r2 : List Cond := [Cond.methodLink RX6 112 yX6_between, Cond.instanceMethod yX6_between, Cond.selects RX6 yX6_between yX6_between, Cond.code yX6_between cX6_between 8 (some .int), Cond.methodLink RX6 101 yX6_alikeParts, Cond.instanceMethod yX6_alikeParts, Cond.selects RX6 yX6_alikeParts yX6_alikeParts, Cond.code yX6_alikeParts cX6_alikeParts 9 (some .boolean), Cond.methodLink RX6 105 yX6_copy, Cond.instanceMethod yX6_copy, Cond.selects RX6 yX6_copy yX6_copy, Cond.code yX6_copy cX6_copy 5 none, Cond.methodLink RX6 97 yX6_take, Cond.instanceMethod yX6_take, Cond.selects RX6 yX6_take yX6_take, Cond.code yX6_take cX6_take 2 none, Cond.fieldLink RX6 31 "DiffDeskModel" "result" "[I"]
def wsX6_merge : List Cond := .code yX6_merge cX6_merge 9 (some .int) :: ((wsX6_merge_r1 ++ wsX6_merge_r2) ++ wsX60)
def wsX6_result : List Cond := .code yX6_result cX6_result 2 (some .int) :: ([.fieldLink RX6 50 "DiffDeskModel" "thrown" "I", .fieldLink RX6 90 "DiffDeskModel" "results" "I", .fieldLink RX6 31 "DiffDeskModel" "result" "[I"] ++ wsX60)
def wsX6_results : List Cond := .code yX6_results cX6_results 1 (some .int) :: ([.fieldLink RX6 50 "DiffDeskModel" "thrown" "I", .fieldLink RX6 90 "DiffDeskModel" "results" "I"] ++ wsX60)
def wsX6_together : List Cond := .code yX6_together cX6_together 4 (some .boolean) :: ([.fieldLink RX6 28 "DiffDeskModel" "madePlace" "[I", .fieldLink RX6 25 "DiffDeskModel" "madeKind" "[I"] ++ wsX60)
def wsX6_countHunks : List Cond := .code yX6_countHunks cX6_countHunks 4 (some .int) :: ([.fieldLink RX6 80 "DiffDeskModel" "made" "I", .methodLink RX6 116 yX6_together, .instanceMethod yX6_together, .selects RX6 yX6_together yX6_together, .initialized RX6, .code yX6_together cX6_together 4 (some .boolean), .fieldLink RX6 28 "DiffDeskModel" "madePlace" "[I", .fieldLink RX6 25 "DiffDeskModel" "madeKind" "[I"] ++ wsX60)
def wsX6_hunks : List Cond := .code yX6_hunks cX6_hunks 2 (some .int) :: ([.fieldLink RX6 50 "DiffDeskModel" "thrown" "I", .fieldLink RX6 76 "DiffDeskModel" "compared" "Z", .methodLink RX6 120 yX6_countHunks, .instanceMethod yX6_countHunks, .selects RX6 yX6_countHunks yX6_countHunks, .initialized RX6, .code yX6_countHunks cX6_countHunks 4 (some .int), .fieldLink RX6 80 "DiffDeskModel" "made" "I", .methodLink RX6 116 yX6_together, .instanceMethod yX6_together, .selects RX6 yX6_together yX6_together, .code yX6_together cX6_together 4 (some .boolean), .fieldLink RX6 28 "DiffDeskModel" "madePlace" "[I", .fieldLink RX6 25 "DiffDeskModel" "madeKind" "[I"] ++ wsX60)
def wsX6_hunk : List Cond := .code yX6_hunk cX6_hunk 8 (some .int) :: ([.fieldLink RX6 50 "DiffDeskModel" "thrown" "I", .fieldLink RX6 76 "DiffDeskModel" "compared" "Z", .fieldLink RX6 43 "DiffDeskModel" "found" "[I", .fieldLink RX6 80 "DiffDeskModel" "made" "I", .fieldLink RX6 28 "DiffDeskModel" "madePlace" "[I", .fieldLink RX6 25 "DiffDeskModel" "madeKind" "[I", .fieldLink RX6 83 "DiffDeskModel" "madeSize" "I", .methodLink RX6 120 yX6_countHunks, .instanceMethod yX6_countHunks, .selects RX6 yX6_countHunks yX6_countHunks, .initialized RX6, .code yX6_countHunks cX6_countHunks 4 (some .int), .methodLink RX6 116 yX6_together, .instanceMethod yX6_together, .selects RX6 yX6_together yX6_together, .code yX6_together cX6_together 4 (some .boolean)] ++ wsX60)
def wsX6_alike : List Cond := .code yX6_alike cX6_alike 5 (some .float) :: ([.fieldLink RX6 50 "DiffDeskModel" "thrown" "I", .constantFloat RX6 123 (3212836864), .fieldLink RX6 7 "DiffDeskModel" "sizes" "[I", .fieldLink RX6 34 "DiffDeskModel" "rest" "[I", .methodLink RX6 53 yX6_isRow, .static yX6_isRow, .initialized RX6, .code yX6_isRow cX6_isRow 1 (some .boolean), .methodLink RX6 61 yX6_fill, .instanceMethod yX6_fill, .selects RX6 yX6_fill yX6_fill, .code yX6_fill cX6_fill 10 none, .methodLink RX6 57 yX6_same, .instanceMethod yX6_same, .selects RX6 yX6_same yX6_same, .code yX6_same cX6_same 5 (some .boolean), .fieldLink RX6 13 "DiffDeskModel" "symbols" "[I"] ++ wsX60)
def wsJ9_max_7cf53 : List Cond := .code yJ9_max_7cf53 cJ9_max_7cf53 2 (some .int) :: ([])
def wsJ9_min_7cf53 : List Cond := .code yJ9_min_7cf53 cJ9_min_7cf53 2 (some .int) :: ([])
def wsL_cell : List Cond := .code yL_cell cL_cell 2 (some .int) :: ([])
def wsL_diff_r1 : List Cond := [Cond.classLink RL 13 "java/lang/IllegalArgumentException", Cond.classLink RL 15 "java/lang/IllegalStateException", Cond.methodLink RL 7 yX5_diff, Cond.instanceMethod yX5_diff, Cond.selects RX5 yX5_diff yX5_diff, Cond.initialized RX5, Cond.code yX5_diff cX5_diff 3 (some .int), Cond.classLink RX5 86 "java/lang/IllegalArgumentException", Cond.initialized "java/lang/IllegalArgumentException", Cond.classLink RX5 101 "java/lang/IllegalStateException", Cond.initialized "java/lang/IllegalStateException", Cond.fieldLink RX5 47 "DiffDesk" "comparison" "LDiffDesk$Comparison;", Cond.fieldLink RX5 24 "DiffDesk" "rows" "[LDiffDesk$Row;", Cond.fieldLink RX5 18 "DiffDesk" "limit" "I", Cond.fieldLink RX5 34 "DiffDesk" "script" "LDiffDesk$Script;", Cond.fieldLink RX5 38 "DiffDesk" "latest" "LDiffDesk$Script;", Cond.fieldLink RX5 41 "DiffDesk" "latestSize" "I", Cond.methodLink RX5 67 yX5_isRow, Cond.static yX5_isRow, Cond.code yX5_isRow cX5_isRow 1 (some .boolean), Cond.methodLink RX5 93 yX0_compare, Cond.instanceMethod yX0_compare, Cond.selects RX0 yX0_compare yX0_compare, Cond.initialized RX0]
def wsL_diff_r2 : List Cond := [Cond.code yX0_compare cX0_compare 5 none, Cond.fieldLink RX0 21 "DiffDesk$Comparison" "a" "LDiffDesk$Row;", Cond.fieldLink RX0 25 "DiffDesk$Comparison" "b" "LDiffDesk$Row;", Cond.fieldLink RX0 11 "DiffDesk$Comparison" "rest" "[[I", Cond.methodLink RX0 32 yX0_restAt, Cond.instanceMethod yX0_restAt, Cond.selects RX0 yX0_restAt yX0_restAt, Cond.code yX0_restAt cX0_restAt 3 (some .int), Cond.methodLink RX0 59 Lib.Math.min.name, Cond.static Lib.Math.min.name, Cond.initialized "java/lang/Math", Cond.code Lib.Math.min.name Lib.Math.min.code 2 (some .int), Cond.methodLink RX0 55 yX0_isSame, Cond.instanceMethod yX0_isSame, Cond.selects RX0 yX0_isSame yX0_isSame, Cond.code yX0_isSame cX0_isSame 3 (some .boolean), Cond.methodLink RX5 97 yX0_operations, Cond.instanceMethod yX0_operations, Cond.selects RX0 yX0_operations yX0_operations, Cond.code yX0_operations cX0_operations 1 (some .int), Cond.methodLink RX5 106 yX0_writeTo, Cond.instanceMethod yX0_writeTo, Cond.selects RX0 yX0_writeTo yX0_writeTo, Cond.code yX0_writeTo cX0_writeTo 5 none]
def wsL_diff_r3 : List Cond := [Cond.methodLink RX0 36 yX3_empty, Cond.instanceMethod yX3_empty, Cond.selects RX3 yX3_empty yX3_empty, Cond.initialized RX3, Cond.code yX3_empty cX3_empty 1 none, Cond.fieldLink RX3 21 "DiffDesk$Script" "count" "I", Cond.methodLink RX0 41 yX0_stepAt, Cond.instanceMethod yX0_stepAt, Cond.selects RX0 yX0_stepAt yX0_stepAt, Cond.code yX0_stepAt cX0_stepAt 3 (some .int), Cond.methodLink RX0 44 yX2_at, Cond.instanceMethod yX2_at, Cond.selects RX2 yX2_at yX2_at, Cond.initialized RX2, Cond.code yX2_at cX2_at 3 (some .int), Cond.fieldLink RX2 15 "DiffDesk$Row" "count" "I", Cond.fieldLink RX2 9 "DiffDesk$Row" "items" "[I", Cond.methodLink RX0 47 yX3_add, Cond.instanceMethod yX3_add, Cond.selects RX3 yX3_add yX3_add, Cond.code yX3_add cX3_add 4 (some .boolean), Cond.fieldLink RX3 9 "DiffDesk$Script" "kinds" "[I", Cond.fieldLink RX3 15 "DiffDesk$Script" "places" "[I", Cond.fieldLink RX3 18 "DiffDesk$Script" "symbols" "[I"]
def wsL_diff : List Cond := .codeWith yL_diff cL_diff 5 (some .int) [(0, 10, 13, 13), (0, 10, 17, 15)] :: ((wsL_diff_r1 ++ (wsL_diff_r2 ++ wsL_diff_r3)) ++ wsX50 ++ wsX20 ++ wsX30 ++ wsX00 ++ (vx_atS RX5 90 "java/lang/IllegalArgumentException" ["java/lang/RuntimeException", "java/lang/Exception"]).filter goodWord ++ (vx_atS RX5 105 "java/lang/IllegalStateException" ["java/lang/RuntimeException", "java/lang/Exception"]).filter goodWord)
def wsL_patch_r1 : List Cond := [Cond.classLink RL 13 "java/lang/IllegalArgumentException", Cond.classLink RL 21 "java/lang/IndexOutOfBoundsException", Cond.classLink RL 15 "java/lang/IllegalStateException", Cond.classLink RL 23 "java/lang/UnsupportedOperationException", Cond.methodLink RL 17 yX5_patch, Cond.instanceMethod yX5_patch, Cond.selects RX5 yX5_patch yX5_patch, Cond.initialized RX5, Cond.code yX5_patch cX5_patch 7 (some .int), Cond.classLink RX5 86 "java/lang/IllegalArgumentException", Cond.initialized "java/lang/IllegalArgumentException", Cond.fieldLink RX5 24 "DiffDesk" "rows" "[LDiffDesk$Row;", Cond.fieldLink RX5 64 "DiffDesk" "draft" "LDiffDesk$Row;", Cond.fieldLink RX5 34 "DiffDesk" "script" "LDiffDesk$Script;", Cond.fieldLink RX5 60 "DiffDesk" "result" "LDiffDesk$Row;", Cond.methodLink RX5 67 yX5_isRow, Cond.static yX5_isRow, Cond.code yX5_isRow cX5_isRow 1 (some .boolean), Cond.methodLink RX5 77 yX2_empty, Cond.instanceMethod yX2_empty, Cond.selects RX2 yX2_empty yX2_empty, Cond.initialized RX2, Cond.code yX2_empty cX2_empty 1 none, Cond.fieldLink RX2 15 "DiffDesk$Row" "count" "I"]
def wsL_patch_r2 : List Cond := [Cond.methodLink RX5 128 yX5_checkOperation, Cond.instanceMethod yX5_checkOperation, Cond.selects RX5 yX5_checkOperation yX5_checkOperation, Cond.code yX5_checkOperation cX5_checkOperation 7 none, Cond.classLink RX5 176 "java/lang/IndexOutOfBoundsException", Cond.initialized "java/lang/IndexOutOfBoundsException", Cond.classLink RX5 101 "java/lang/IllegalStateException", Cond.initialized "java/lang/IllegalStateException", Cond.methodLink RX5 71 yX5_isSymbol, Cond.static yX5_isSymbol, Cond.code yX5_isSymbol cX5_isSymbol 1 (some .boolean), Cond.methodLink RX5 139 yX3_behind, Cond.instanceMethod yX3_behind, Cond.selects RX3 yX3_behind yX3_behind, Cond.initialized RX3, Cond.code yX3_behind cX3_behind 2 (some .int), Cond.fieldLink RX3 9 "DiffDesk$Script" "kinds" "[I", Cond.fieldLink RX3 15 "DiffDesk$Script" "places" "[I", Cond.methodLink RX3 25 yX3_has, Cond.instanceMethod yX3_has, Cond.selects RX3 yX3_has yX3_has, Cond.code yX3_has cX3_has 2 (some .boolean), Cond.fieldLink RX3 21 "DiffDesk$Script" "count" "I", Cond.methodLink RX5 83 yX2_at]
def wsL_patch_r3 : List Cond := [Cond.instanceMethod yX2_at, Cond.selects RX2 yX2_at yX2_at, Cond.code yX2_at cX2_at 3 (some .int), Cond.fieldLink RX2 9 "DiffDesk$Row" "items" "[I", Cond.methodLink RX5 132 yX5_checkRoom, Cond.instanceMethod yX5_checkRoom, Cond.selects RX5 yX5_checkRoom yX5_checkRoom, Cond.code yX5_checkRoom cX5_checkRoom 2 none, Cond.classLink RX5 183 "java/lang/UnsupportedOperationException", Cond.initialized "java/lang/UnsupportedOperationException", Cond.methodLink RX5 135 yX2_addAll, Cond.instanceMethod yX2_addAll, Cond.selects RX2 yX2_addAll yX2_addAll, Cond.code yX2_addAll cX2_addAll 5 none, Cond.methodLink RX2 19 yX2_at, Cond.methodLink RX2 23 yX2_add, Cond.instanceMethod yX2_add, Cond.selects RX2 yX2_add yX2_add, Cond.code yX2_add cX2_add 2 (some .boolean), Cond.methodLink RX5 74 yX2_add, Cond.methodLink RX5 143 yX5_swapResultAndDraft, Cond.instanceMethod yX5_swapResultAndDraft, Cond.selects RX5 yX5_swapResultAndDraft yX5_swapResultAndDraft, Cond.code yX5_swapResultAndDraft cX5_swapResultAndDraft 2 none]
def wsL_patch : List Cond := .codeWith yL_patch cL_patch 4 (some .int) [(0, 9, 12, 13), (0, 9, 15, 21), (0, 9, 18, 15), (0, 9, 21, 23)] :: ((wsL_patch_r1 ++ (wsL_patch_r2 ++ wsL_patch_r3)) ++ wsX50 ++ wsX30 ++ wsX20 ++ (vx_atS RX5 90 "java/lang/IllegalArgumentException" ["java/lang/RuntimeException", "java/lang/Exception"]).filter goodWord ++ (vx_atS RX5 180 "java/lang/IndexOutOfBoundsException" ["java/lang/RuntimeException", "java/lang/Exception"]).filter goodWord ++ (vx_atS RX5 105 "java/lang/IllegalStateException" ["java/lang/RuntimeException", "java/lang/Exception"]).filter goodWord ++ (vx_atS RX5 187 "java/lang/UnsupportedOperationException" ["java/lang/RuntimeException", "java/lang/Exception"]).filter goodWord)
def wsL_law0_r1 : List Cond := [Cond.classLink RL 8 RX5, Cond.instantiable RX5 9, Cond.initialized RX5, Cond.classLink RL 34 RX6, Cond.instantiable RX6 19, Cond.initialized RX6, Cond.arrayClass .long, Cond.methodLink RL 25 yL_cell, Cond.static yL_cell, Cond.initialized RL, Cond.code yL_cell cL_cell 2 (some .int), Cond.methodLink RL 31 yX5_init, Cond.instanceMethod yX5_init, Cond.code yX5_init cX5_init 3 none, Cond.methodLink RX5 3 objectInit, Cond.instanceMethod objectInit, Cond.code objectInit ⟨#[0xb1]⟩ 1 none, Cond.methodLink RX5 9 Lib.Math.min.name, Cond.static Lib.Math.min.name, Cond.initialized "java/lang/Math", Cond.code Lib.Math.min.name Lib.Math.min.code 2 (some .int), Cond.methodLink RX5 15 Lib.Math.max.name, Cond.static Lib.Math.max.name, Cond.code Lib.Math.max.name Lib.Math.max.code 2 (some .int)]
def wsL_law0_r2 : List Cond := [Cond.fieldLink RX5 18 "DiffDesk" "limit" "I", Cond.classLink RX5 22 RX2, Cond.fieldLink RX5 24 "DiffDesk" "rows" "[LDiffDesk$Row;", Cond.instantiable RX2 2, Cond.initialized RX2, Cond.classLink RX5 31 RX3, Cond.instantiable RX3 4, Cond.initialized RX3, Cond.fieldLink RX5 34 "DiffDesk" "script" "LDiffDesk$Script;", Cond.fieldLink RX5 38 "DiffDesk" "latest" "LDiffDesk$Script;", Cond.fieldLink RX5 41 "DiffDesk" "latestSize" "I", Cond.classLink RX5 44 RX0, Cond.instantiable RX0 3, Cond.initialized RX0, Cond.fieldLink RX5 47 "DiffDesk" "comparison" "LDiffDesk$Comparison;", Cond.classLink RX5 51 RX1, Cond.instantiable RX1 8, Cond.initialized RX1, Cond.fieldLink RX5 56 "DiffDesk" "merger" "LDiffDesk$Merger;", Cond.fieldLink RX5 60 "DiffDesk" "result" "LDiffDesk$Row;", Cond.fieldLink RX5 64 "DiffDesk" "draft" "LDiffDesk$Row;", Cond.methodLink RX5 28 yX2_init, Cond.instanceMethod yX2_init, Cond.code yX2_init cX2_init 2 none]
def wsL_law0_r3 : List Cond := [Cond.methodLink RX2 3 objectInit, Cond.arrayClass .int, Cond.fieldLink RX2 9 "DiffDesk$Row" "items" "[I", Cond.fieldLink RX2 15 "DiffDesk$Row" "count" "I", Cond.methodLink RX5 33 yX3_init, Cond.instanceMethod yX3_init, Cond.code yX3_init cX3_init 1 none, Cond.methodLink RX3 3 objectInit, Cond.fieldLink RX3 9 "DiffDesk$Script" "kinds" "[I", Cond.fieldLink RX3 15 "DiffDesk$Script" "places" "[I", Cond.fieldLink RX3 18 "DiffDesk$Script" "symbols" "[I", Cond.fieldLink RX3 21 "DiffDesk$Script" "count" "I", Cond.methodLink RX5 46 yX0_init, Cond.instanceMethod yX0_init, Cond.code yX0_init cX0_init 1 none, Cond.methodLink RX0 3 objectInit, Cond.classLink RX0 9 "[[I", Cond.fieldLink RX0 11 "DiffDesk$Comparison" "rest" "[[I", Cond.classLink RX0 16 RX2, Cond.fieldLink RX0 21 "DiffDesk$Comparison" "a" "LDiffDesk$Row;", Cond.fieldLink RX0 25 "DiffDesk$Comparison" "b" "LDiffDesk$Row;", Cond.methodLink RX0 18 yX2_init, Cond.methodLink RX5 53 yX1_init, Cond.instanceMethod yX1_init]
def wsL_law0_r4 : List Cond := [Cond.code yX1_init cX1_init 4 none, Cond.methodLink RX1 3 objectInit, Cond.fieldLink RX1 9 "DiffDesk$Merger" "baseRow" "LDiffDesk$Row;", Cond.fieldLink RX1 15 "DiffDesk$Merger" "row1" "LDiffDesk$Row;", Cond.fieldLink RX1 18 "DiffDesk$Merger" "row2" "LDiffDesk$Row;", Cond.classLink RX1 21 RX2, Cond.fieldLink RX1 26 "DiffDesk$Merger" "keptWith1" "LDiffDesk$Row;", Cond.fieldLink RX1 29 "DiffDesk$Merger" "keptWith2" "LDiffDesk$Row;", Cond.classLink RX1 32 RX4, Cond.instantiable RX4 3, Cond.initialized RX4, Cond.fieldLink RX1 37 "DiffDesk$Merger" "base" "LDiffDesk$Stretch;", Cond.fieldLink RX1 41 "DiffDesk$Merger" "one" "LDiffDesk$Stretch;", Cond.fieldLink RX1 44 "DiffDesk$Merger" "two" "LDiffDesk$Stretch;", Cond.methodLink RX1 23 yX2_init, Cond.methodLink RX1 34 yX4_init, Cond.instanceMethod yX4_init, Cond.code yX4_init cX4_init 2 none, Cond.methodLink RX4 3 objectInit, Cond.fieldLink RX4 9 "DiffDesk$Stretch" "row" "LDiffDesk$Row;", Cond.fieldLink RX4 15 "DiffDesk$Stretch" "from" "I", Cond.fieldLink RX4 19 "DiffDesk$Stretch" "to" "I", Cond.methodLink RL 36 yX6_init, Cond.instanceMethod yX6_init]
def wsL_law0_r5 : List Cond := [Cond.code yX6_init cX6_init 2 none, Cond.methodLink RX6 1 objectInit, Cond.fieldLink RX6 7 "DiffDeskModel" "sizes" "[I", Cond.fieldLink RX6 13 "DiffDeskModel" "symbols" "[I", Cond.fieldLink RX6 16 "DiffDeskModel" "kind" "[I", Cond.fieldLink RX6 19 "DiffDeskModel" "place" "[I", Cond.fieldLink RX6 22 "DiffDeskModel" "symbol" "[I", Cond.fieldLink RX6 25 "DiffDeskModel" "madeKind" "[I", Cond.fieldLink RX6 28 "DiffDeskModel" "madePlace" "[I", Cond.fieldLink RX6 31 "DiffDeskModel" "result" "[I", Cond.fieldLink RX6 34 "DiffDeskModel" "rest" "[I", Cond.fieldLink RX6 37 "DiffDeskModel" "with1" "[I", Cond.fieldLink RX6 40 "DiffDeskModel" "with2" "[I", Cond.fieldLink RX6 43 "DiffDeskModel" "found" "[I", Cond.fieldLink RX6 46 "DiffDeskModel" "limit" "I", Cond.methodLink RL 37 yX5_feed, Cond.instanceMethod yX5_feed, Cond.selects RX5 yX5_feed yX5_feed, Cond.code yX5_feed cX5_feed 3 (some .boolean), Cond.methodLink RX5 67 yX5_isRow, Cond.static yX5_isRow, Cond.code yX5_isRow cX5_isRow 1 (some .boolean), Cond.methodLink RX5 71 yX5_isSymbol, Cond.static yX5_isSymbol]
def wsL_law0_r6 : List Cond := [Cond.code yX5_isSymbol cX5_isSymbol 1 (some .boolean), Cond.methodLink RX5 74 yX2_add, Cond.instanceMethod yX2_add, Cond.selects RX2 yX2_add yX2_add, Cond.code yX2_add cX2_add 2 (some .boolean), Cond.methodLink RL 41 yX6_feed, Cond.instanceMethod yX6_feed, Cond.selects RX6 yX6_feed yX6_feed, Cond.code yX6_feed cX6_feed 3 (some .boolean), Cond.fieldLink RX6 50 "DiffDeskModel" "thrown" "I", Cond.methodLink RX6 53 yX6_isRow, Cond.static yX6_isRow, Cond.code yX6_isRow cX6_isRow 1 (some .boolean), Cond.methodLink RL 42 yX5_clear, Cond.instanceMethod yX5_clear, Cond.selects RX5 yX5_clear yX5_clear, Cond.code yX5_clear cX5_clear 2 (some .boolean), Cond.methodLink RX5 77 yX2_empty, Cond.instanceMethod yX2_empty, Cond.selects RX2 yX2_empty yX2_empty, Cond.code yX2_empty cX2_empty 1 none, Cond.methodLink RL 46 yX6_clear, Cond.instanceMethod yX6_clear, Cond.selects RX6 yX6_clear yX6_clear]
def wsL_law0_r7 : List Cond := [Cond.code yX6_clear cX6_clear 2 (some .boolean), Cond.methodLink RL 47 yX5_size, Cond.instanceMethod yX5_size, Cond.selects RX5 yX5_size yX5_size, Cond.code yX5_size cX5_size 2 (some .int), Cond.methodLink RL 50 yX6_size, Cond.instanceMethod yX6_size, Cond.selects RX6 yX6_size yX6_size, Cond.code yX6_size cX6_size 2 (some .int), Cond.methodLink RL 51 yX5_symbol, Cond.instanceMethod yX5_symbol, Cond.selects RX5 yX5_symbol yX5_symbol, Cond.code yX5_symbol cX5_symbol 3 (some .short), Cond.methodLink RX5 83 yX2_at, Cond.instanceMethod yX2_at, Cond.selects RX2 yX2_at yX2_at, Cond.code yX2_at cX2_at 3 (some .int), Cond.methodLink RL 55 yX6_symbol, Cond.instanceMethod yX6_symbol, Cond.selects RX6 yX6_symbol yX6_symbol, Cond.code yX6_symbol cX6_symbol 3 (some .short), Cond.methodLink RL 56 yL_diff, Cond.static yL_diff, Cond.codeWith yL_diff cL_diff 5 (some .int) [(0, 10, 13, 13), (0, 10, 17, 15)]]
def wsL_law0_r8 : List Cond := [Cond.classLink RL 13 "java/lang/IllegalArgumentException", Cond.classLink RL 15 "java/lang/IllegalStateException", Cond.methodLink RL 7 yX5_diff, Cond.instanceMethod yX5_diff, Cond.selects RX5 yX5_diff yX5_diff, Cond.code yX5_diff cX5_diff 3 (some .int), Cond.classLink RX5 86 "java/lang/IllegalArgumentException", Cond.initialized "java/lang/IllegalArgumentException", Cond.classLink RX5 101 "java/lang/IllegalStateException", Cond.initialized "java/lang/IllegalStateException", Cond.methodLink RX5 93 yX0_compare, Cond.instanceMethod yX0_compare, Cond.selects RX0 yX0_compare yX0_compare, Cond.code yX0_compare cX0_compare 5 none, Cond.methodLink RX0 32 yX0_restAt, Cond.instanceMethod yX0_restAt, Cond.selects RX0 yX0_restAt yX0_restAt, Cond.code yX0_restAt cX0_restAt 3 (some .int), Cond.methodLink RX0 59 Lib.Math.min.name, Cond.methodLink RX0 55 yX0_isSame, Cond.instanceMethod yX0_isSame, Cond.selects RX0 yX0_isSame yX0_isSame, Cond.code yX0_isSame cX0_isSame 3 (some .boolean), Cond.methodLink RX5 97 yX0_operations]
def wsL_law0_r9 : List Cond := [Cond.instanceMethod yX0_operations, Cond.selects RX0 yX0_operations yX0_operations, Cond.code yX0_operations cX0_operations 1 (some .int), Cond.methodLink RX5 106 yX0_writeTo, Cond.instanceMethod yX0_writeTo, Cond.selects RX0 yX0_writeTo yX0_writeTo, Cond.code yX0_writeTo cX0_writeTo 5 none, Cond.methodLink RX0 36 yX3_empty, Cond.instanceMethod yX3_empty, Cond.selects RX3 yX3_empty yX3_empty, Cond.code yX3_empty cX3_empty 1 none, Cond.methodLink RX0 41 yX0_stepAt, Cond.instanceMethod yX0_stepAt, Cond.selects RX0 yX0_stepAt yX0_stepAt, Cond.code yX0_stepAt cX0_stepAt 3 (some .int), Cond.methodLink RX0 44 yX2_at, Cond.methodLink RX0 47 yX3_add, Cond.instanceMethod yX3_add, Cond.selects RX3 yX3_add yX3_add, Cond.code yX3_add cX3_add 4 (some .boolean), Cond.methodLink RL 59 yX6_diff, Cond.instanceMethod yX6_diff, Cond.selects RX6 yX6_diff yX6_diff, Cond.code yX6_diff cX6_diff 7 (some .int)]
def wsL_law0_r10 : List Cond := [Cond.fieldLink RX6 65 "DiffDeskModel" "operations" "I", Cond.fieldLink RX6 76 "DiffDeskModel" "compared" "Z", Cond.fieldLink RX6 80 "DiffDeskModel" "made" "I", Cond.fieldLink RX6 83 "DiffDeskModel" "madeSize" "I", Cond.methodLink RX6 61 yX6_fill, Cond.instanceMethod yX6_fill, Cond.selects RX6 yX6_fill yX6_fill, Cond.code yX6_fill cX6_fill 10 none, Cond.methodLink RX6 57 yX6_same, Cond.instanceMethod yX6_same, Cond.selects RX6 yX6_same yX6_same, Cond.code yX6_same cX6_same 5 (some .boolean), Cond.methodLink RX6 68 yX6_deletes, Cond.instanceMethod yX6_deletes, Cond.selects RX6 yX6_deletes yX6_deletes, Cond.code yX6_deletes cX6_deletes 4 (some .boolean), Cond.methodLink RX6 72 yX6_put, Cond.instanceMethod yX6_put, Cond.selects RX6 yX6_put yX6_put, Cond.code yX6_put cX6_put 4 none, Cond.methodLink RL 60 yX6_thrown, Cond.instanceMethod yX6_thrown, Cond.selects RX6 yX6_thrown yX6_thrown, Cond.code yX6_thrown cX6_thrown 1 (some .int)]
def wsL_law0_r11 : List Cond := [Cond.methodLink RL 64 yX5_operation, Cond.instanceMethod yX5_operation, Cond.selects RX5 yX5_operation yX5_operation, Cond.code yX5_operation cX5_operation 3 (some .int), Cond.methodLink RX5 111 yX3_has, Cond.instanceMethod yX3_has, Cond.selects RX3 yX3_has yX3_has, Cond.code yX3_has cX3_has 2 (some .boolean), Cond.methodLink RL 67 yX6_operation, Cond.instanceMethod yX6_operation, Cond.selects RX6 yX6_operation yX6_operation, Cond.code yX6_operation cX6_operation 3 (some .int), Cond.methodLink RL 68 yX5_forget, Cond.instanceMethod yX5_forget, Cond.selects RX5 yX5_forget yX5_forget, Cond.code yX5_forget cX5_forget 1 none, Cond.methodLink RX5 124 yX3_empty, Cond.methodLink RL 71 yX6_forget, Cond.instanceMethod yX6_forget, Cond.selects RX6 yX6_forget yX6_forget, Cond.code yX6_forget cX6_forget 1 none, Cond.methodLink RL 72 yX5_load, Cond.instanceMethod yX5_load, Cond.selects RX5 yX5_load yX5_load]
def wsL_law0_r12 : List Cond := [Cond.code yX5_load cX5_load 4 (some .boolean), Cond.methodLink RX5 125 yX3_add, Cond.methodLink RL 76 yX6_load, Cond.instanceMethod yX6_load, Cond.selects RX6 yX6_load yX6_load, Cond.code yX6_load cX6_load 4 (some .boolean), Cond.methodLink RL 77 yL_patch, Cond.static yL_patch, Cond.codeWith yL_patch cL_patch 4 (some .int) [(0, 9, 12, 13), (0, 9, 15, 21), (0, 9, 18, 15), (0, 9, 21, 23)], Cond.classLink RL 21 "java/lang/IndexOutOfBoundsException", Cond.classLink RL 23 "java/lang/UnsupportedOperationException", Cond.methodLink RL 17 yX5_patch, Cond.instanceMethod yX5_patch, Cond.selects RX5 yX5_patch yX5_patch, Cond.code yX5_patch cX5_patch 7 (some .int), Cond.methodLink RX5 128 yX5_checkOperation, Cond.instanceMethod yX5_checkOperation, Cond.selects RX5 yX5_checkOperation yX5_checkOperation, Cond.code yX5_checkOperation cX5_checkOperation 7 none, Cond.classLink RX5 176 "java/lang/IndexOutOfBoundsException", Cond.initialized "java/lang/IndexOutOfBoundsException", Cond.methodLink RX5 139 yX3_behind, Cond.instanceMethod yX3_behind, Cond.selects RX3 yX3_behind yX3_behind]
def wsL_law0_r13 : List Cond := [Cond.code yX3_behind cX3_behind 2 (some .int), Cond.methodLink RX3 25 yX3_has, Cond.methodLink RX5 132 yX5_checkRoom, Cond.instanceMethod yX5_checkRoom, Cond.selects RX5 yX5_checkRoom yX5_checkRoom, Cond.code yX5_checkRoom cX5_checkRoom 2 none, Cond.classLink RX5 183 "java/lang/UnsupportedOperationException", Cond.initialized "java/lang/UnsupportedOperationException", Cond.methodLink RX5 135 yX2_addAll, Cond.instanceMethod yX2_addAll, Cond.selects RX2 yX2_addAll yX2_addAll, Cond.code yX2_addAll cX2_addAll 5 none, Cond.methodLink RX2 19 yX2_at, Cond.methodLink RX2 23 yX2_add, Cond.methodLink RX5 143 yX5_swapResultAndDraft, Cond.instanceMethod yX5_swapResultAndDraft, Cond.selects RX5 yX5_swapResultAndDraft yX5_swapResultAndDraft, Cond.code yX5_swapResultAndDraft cX5_swapResultAndDraft 2 none, Cond.methodLink RL 80 yX6_patch, Cond.instanceMethod yX6_patch, Cond.selects RX6 yX6_patch yX6_patch, Cond.code yX6_patch cX6_patch 5 (some .int), Cond.fieldLink RX6 90 "DiffDeskModel" "results" "I", Cond.methodLink RX6 93 yX6_wrong]
def wsL_law0_r14 : List Cond := [Cond.instanceMethod yX6_wrong, Cond.selects RX6 yX6_wrong yX6_wrong, Cond.code yX6_wrong cX6_wrong 6 (some .int), Cond.methodLink RX6 86 yX6_trouble, Cond.instanceMethod yX6_trouble, Cond.selects RX6 yX6_trouble yX6_trouble, Cond.code yX6_trouble cX6_trouble 8 (some .int), Cond.methodLink RX6 97 yX6_take, Cond.instanceMethod yX6_take, Cond.selects RX6 yX6_take yX6_take, Cond.code yX6_take cX6_take 2 none, Cond.methodLink RL 81 yX5_merge, Cond.instanceMethod yX5_merge, Cond.selects RX5 yX5_merge yX5_merge, Cond.code yX5_merge cX5_merge 1 (some .int), Cond.methodLink RX5 146 yX1_mergeTo, Cond.instanceMethod yX1_mergeTo, Cond.selects RX1 yX1_mergeTo yX1_mergeTo, Cond.code yX1_mergeTo cX1_mergeTo 5 (some .int), Cond.methodLink RX1 47 yX0_compare, Cond.methodLink RX1 53 yX0_pairTo, Cond.instanceMethod yX0_pairTo, Cond.selects RX0 yX0_pairTo yX0_pairTo, Cond.code yX0_pairTo cX0_pairTo 5 none]
def wsL_law0_r15 : List Cond := [Cond.methodLink RX0 51 yX2_empty, Cond.methodLink RX0 52 yX2_add, Cond.methodLink RX1 56 yX4_begin, Cond.instanceMethod yX4_begin, Cond.selects RX4 yX4_begin yX4_begin, Cond.code yX4_begin cX4_begin 1 none, Cond.methodLink RX1 63 yX1_isStable, Cond.instanceMethod yX1_isStable, Cond.selects RX1 yX1_isStable yX1_isStable, Cond.code yX1_isStable cX1_isStable 2 (some .boolean), Cond.methodLink RX1 67 yX2_at, Cond.methodLink RX1 71 yX1_endStretches, Cond.instanceMethod yX1_endStretches, Cond.selects RX1 yX1_endStretches yX1_endStretches, Cond.code yX1_endStretches cX1_endStretches 4 none, Cond.methodLink RX1 85 yX4_endBefore, Cond.instanceMethod yX4_endBefore, Cond.selects RX4 yX4_endBefore yX4_endBefore, Cond.code yX4_endBefore cX4_endBefore 2 none, Cond.methodLink RX1 75 yX1_mergeStretch, Cond.instanceMethod yX1_mergeStretch, Cond.selects RX1 yX1_mergeStretch yX1_mergeStretch, Cond.code yX1_mergeStretch cX1_mergeStretch 2 (some .int), Cond.methodLink RX1 89 yX4_isSameAs]
def wsL_law0_r16 : List Cond := [Cond.instanceMethod yX4_isSameAs, Cond.selects RX4 yX4_isSameAs yX4_isSameAs, Cond.code yX4_isSameAs cX4_isSameAs 3 (some .boolean), Cond.methodLink RX4 22 yX2_at, Cond.methodLink RX1 93 yX4_addTo, Cond.instanceMethod yX4_addTo, Cond.selects RX4 yX4_addTo yX4_addTo, Cond.code yX4_addTo cX4_addTo 2 none, Cond.methodLink RX4 28 yX2_addAll, Cond.methodLink RX1 79 yX2_add, Cond.methodLink RX1 82 yX1_goOnBehindStable, Cond.instanceMethod yX1_goOnBehindStable, Cond.selects RX1 yX1_goOnBehindStable yX1_goOnBehindStable, Cond.code yX1_goOnBehindStable cX1_goOnBehindStable 1 none, Cond.methodLink RX1 88 yX4_goOnBehindStable, Cond.instanceMethod yX4_goOnBehindStable, Cond.selects RX4 yX4_goOnBehindStable yX4_goOnBehindStable, Cond.code yX4_goOnBehindStable cX4_goOnBehindStable 1 none, Cond.methodLink RL 84 yX6_merge, Cond.instanceMethod yX6_merge, Cond.selects RX6 yX6_merge yX6_merge, Cond.code yX6_merge cX6_merge 9 (some .int), Cond.methodLink RX6 108 yX6_keep, Cond.instanceMethod yX6_keep]
def wsL_law0_r17 : List Cond := [Cond.selects RX6 yX6_keep yX6_keep, Cond.code yX6_keep cX6_keep 5 none, Cond.methodLink RX6 112 yX6_between, Cond.instanceMethod yX6_between, Cond.selects RX6 yX6_between yX6_between, Cond.code yX6_between cX6_between 8 (some .int), Cond.methodLink RX6 101 yX6_alikeParts, Cond.instanceMethod yX6_alikeParts, Cond.selects RX6 yX6_alikeParts yX6_alikeParts, Cond.code yX6_alikeParts cX6_alikeParts 9 (some .boolean), Cond.methodLink RX6 105 yX6_copy, Cond.instanceMethod yX6_copy, Cond.selects RX6 yX6_copy yX6_copy, Cond.code yX6_copy cX6_copy 5 none, Cond.methodLink RL 85 yX5_result, Cond.instanceMethod yX5_result, Cond.selects RX5 yX5_result yX5_result, Cond.code yX5_result cX5_result 2 (some .int), Cond.methodLink RL 88 yX6_result, Cond.instanceMethod yX6_result, Cond.selects RX6 yX6_result yX6_result, Cond.code yX6_result cX6_result 2 (some .int), Cond.methodLink RL 89 yX5_results, Cond.instanceMethod yX5_results]
def wsL_law0_r18 : List Cond := [Cond.selects RX5 yX5_results yX5_results, Cond.code yX5_results cX5_results 1 (some .int), Cond.methodLink RL 92 yX6_results, Cond.instanceMethod yX6_results, Cond.selects RX6 yX6_results yX6_results, Cond.code yX6_results cX6_results 1 (some .int), Cond.methodLink RL 93 yX5_hunks, Cond.instanceMethod yX5_hunks, Cond.selects RX5 yX5_hunks yX5_hunks, Cond.code yX5_hunks cX5_hunks 4 (some .int), Cond.methodLink RX5 150 yX5_isAround, Cond.static yX5_isAround, Cond.code yX5_isAround cX5_isAround 1 (some .boolean), Cond.methodLink RX5 153 yX3_beginsHunk, Cond.instanceMethod yX3_beginsHunk, Cond.selects RX3 yX3_beginsHunk yX3_beginsHunk, Cond.code yX3_beginsHunk cX3_beginsHunk 3 (some .boolean), Cond.methodLink RX3 29 yX3_placeOf, Cond.instanceMethod yX3_placeOf, Cond.selects RX3 yX3_placeOf yX3_placeOf, Cond.code yX3_placeOf cX3_placeOf 2 (some .int), Cond.methodLink RX3 33 yX3_behind, Cond.methodLink RL 96 yX6_hunks, Cond.instanceMethod yX6_hunks]
def wsL_law0_r19 : List Cond := [Cond.selects RX6 yX6_hunks yX6_hunks, Cond.code yX6_hunks cX6_hunks 2 (some .int), Cond.methodLink RX6 120 yX6_countHunks, Cond.instanceMethod yX6_countHunks, Cond.selects RX6 yX6_countHunks yX6_countHunks, Cond.code yX6_countHunks cX6_countHunks 4 (some .int), Cond.methodLink RX6 116 yX6_together, Cond.instanceMethod yX6_together, Cond.selects RX6 yX6_together yX6_together, Cond.code yX6_together cX6_together 4 (some .boolean), Cond.methodLink RL 97 yX5_hunk, Cond.instanceMethod yX5_hunk, Cond.selects RX5 yX5_hunk yX5_hunk, Cond.code yX5_hunk cX5_hunk 7 (some .int), Cond.methodLink RX5 157 yX5_hunks, Cond.methodLink RX5 160 yX3_firstOfHunk, Cond.instanceMethod yX3_firstOfHunk, Cond.selects RX3 yX3_firstOfHunk yX3_firstOfHunk, Cond.code yX3_firstOfHunk cX3_firstOfHunk 5 (some .int), Cond.methodLink RX3 36 yX3_beginsHunk, Cond.methodLink RX5 163 yX3_lastOfHunk, Cond.instanceMethod yX3_lastOfHunk, Cond.selects RX3 yX3_lastOfHunk yX3_lastOfHunk, Cond.code yX3_lastOfHunk cX3_lastOfHunk 4 (some .int)]
def wsL_law0_r20 : List Cond := [Cond.methodLink RX5 166 yX3_placeOf, Cond.methodLink RX5 169 yX3_countKind, Cond.instanceMethod yX3_countKind, Cond.selects RX3 yX3_countKind yX3_countKind, Cond.code yX3_countKind cX3_countKind 6 (some .int), Cond.methodLink RL 101 yX6_hunk, Cond.instanceMethod yX6_hunk, Cond.selects RX6 yX6_hunk yX6_hunk, Cond.code yX6_hunk cX6_hunk 8 (some .int), Cond.methodLink RL 102 yX5_alike, Cond.instanceMethod yX5_alike, Cond.selects RX5 yX5_alike yX5_alike, Cond.code yX5_alike cX5_alike 5 (some .float), Cond.constantFloat RX5 173 (3212836864), Cond.methodLink RL 106 yX6_alike, Cond.instanceMethod yX6_alike, Cond.selects RX6 yX6_alike yX6_alike, Cond.code yX6_alike cX6_alike 5 (some .float), Cond.constantFloat RX6 123 (3212836864)]
def wsL_law0 : List Cond := (wsL_law0_r1 ++ (wsL_law0_r2 ++ (wsL_law0_r3 ++ (wsL_law0_r4 ++ (wsL_law0_r5 ++ (wsL_law0_r6 ++ (wsL_law0_r7 ++ (wsL_law0_r8 ++ (wsL_law0_r9 ++ (wsL_law0_r10 ++ (wsL_law0_r11 ++ (wsL_law0_r12 ++ (wsL_law0_r13 ++ (wsL_law0_r14 ++ (wsL_law0_r15 ++ (wsL_law0_r16 ++ (wsL_law0_r17 ++ (wsL_law0_r18 ++ (wsL_law0_r19 ++ wsL_law0_r20))))))))))))))))))) ++ wsX50 ++ wsX60 ++ wsX20 ++ wsX30 ++ wsX00 ++ wsX10 ++ wsX40 ++ ([] : List Cond)
def wsL_law : List Cond := wsL_law0 ++ (vx_atS RX5 90 "java/lang/IllegalArgumentException" ["java/lang/RuntimeException", "java/lang/Exception"]).filter goodWord ++ (vx_atS RX5 105 "java/lang/IllegalStateException" ["java/lang/RuntimeException", "java/lang/Exception"]).filter goodWord ++ (vx_atS RX5 180 "java/lang/IndexOutOfBoundsException" ["java/lang/RuntimeException", "java/lang/Exception"]).filter goodWord ++ (vx_atS RX5 187 "java/lang/UnsupportedOperationException" ["java/lang/RuntimeException", "java/lang/Exception"]).filter goodWord
theorem mem_places {big ws : List Cond} (ps : List Nat) (hp : ws = ps.filterMap (fun i => big[i]?)) : ∀ w ∈ ws, w ∈ big := by
  intro w hw
  rw [hp] at hw
  obtain ⟨i, -, hi⟩ := List.mem_filterMap.mp hw
  exact List.mem_of_getElem? hi
set_option maxRecDepth 100000 in
theorem wl_r1 : ∀ w ∈ wsL_law0_r1, w ∈ lw_tbl := mem_places [40, 41, 25, 545, 546, 32, 729, 385, 386, 24, 387, 42, 43, 44, 45, 46, 47, 48, 49, 26, 50, 51, 52, 53] rfl
set_option maxRecDepth 100000 in
theorem wl_r2 : ∀ w ∈ wsL_law0_r2, w ∈ lw_tbl := mem_places [165, 54, 166, 56, 27, 73, 74, 28, 167, 168, 169, 96, 97, 29, 170, 116, 117, 30, 171, 172, 173, 57, 58, 59] rfl
set_option maxRecDepth 100000 in
theorem wl_r3 : ∀ w ∈ wsL_law0_r3, w ∈ lw_tbl := mem_places [60, 72, 61, 63, 75, 76, 77, 78, 79, 81, 83, 85, 98, 99, 100, 101, 102, 106, 104, 107, 108, 105, 118, 119] rfl
set_option maxRecDepth 100000 in
theorem wl_r4 : ∀ w ∈ wsL_law0_r4, w ∈ lw_tbl := mem_places [120, 121, 140, 141, 142, 122, 143, 144, 124, 125, 31, 145, 146, 147, 123, 126, 127, 128, 129, 130, 131, 132, 547, 548] rfl
set_option maxRecDepth 100000 in
theorem wl_r5 : ∀ w ∈ wsL_law0_r5, w ∈ lw_tbl := mem_places [549, 550, 553, 554, 556, 557, 558, 562, 563, 565, 566, 567, 568, 569, 551, 193, 194, 195, 196, 197, 198, 199, 200, 201] rfl
set_option maxRecDepth 100000 in
theorem wl_r6 : ∀ w ∈ wsL_law0_r6, w ∈ lw_tbl := mem_places [202, 203, 204, 205, 206, 613, 614, 615, 616, 552, 617, 618, 619, 207, 208, 209, 210, 211, 212, 213, 214, 620, 621, 622] rfl
set_option maxRecDepth 100000 in
theorem wl_r7 : ∀ w ∈ wsL_law0_r7, w ∈ lw_tbl := mem_places [623, 215, 216, 217, 218, 624, 625, 626, 627, 219, 220, 221, 222, 223, 224, 225, 226, 628, 629, 630, 631, 388, 389, 390] rfl
set_option maxRecDepth 100000 in
theorem wl_r8 : ∀ w ∈ wsL_law0_r8, w ∈ lw_tbl := mem_places [391, 392, 393, 394, 395, 396, 397, 36, 466, 37, 380, 260, 261, 262, 263, 265, 0, 266, 271, 267, 269, 1, 270, 381] rfl
set_option maxRecDepth 100000 in
theorem wl_r9 : ∀ w ∈ wsL_law0_r9, w ∈ lw_tbl := mem_places [382, 383, 384, 482, 483, 484, 485, 486, 240, 241, 242, 277, 279, 2, 280, 487, 488, 248, 249, 250, 632, 633, 634, 635] rfl
set_option maxRecDepth 100000 in
theorem wl_r10 : ∀ w ∈ wsL_law0_r10, w ∈ lw_tbl := mem_places [555, 559, 560, 561, 636, 638, 11, 639, 640, 642, 12, 643, 644, 646, 13, 647, 648, 650, 14, 651, 609, 610, 611, 612] rfl
set_option maxRecDepth 100000 in
theorem wl_r11 : ∀ w ∈ wsL_law0_r11, w ∈ lw_tbl := mem_places [227, 228, 229, 230, 231, 232, 233, 234, 652, 653, 654, 655, 235, 236, 237, 238, 239, 656, 657, 658, 659, 243, 244, 245] rfl
set_option maxRecDepth 100000 in
theorem wl_r12 : ∀ w ∈ wsL_law0_r12, w ∈ lw_tbl := mem_places [246, 247, 660, 661, 662, 663, 489, 490, 491, 492, 493, 494, 495, 496, 497, 498, 500, 8, 501, 503, 38, 370, 352, 353] rfl
set_option maxRecDepth 100000 in
theorem wl_r13 : ∀ w ∈ wsL_law0_r13, w ∈ lw_tbl := mem_places [354, 350, 520, 522, 9, 523, 524, 39, 540, 313, 314, 315, 316, 317, 541, 543, 10, 544, 664, 665, 666, 667, 564, 668] rfl
set_option maxRecDepth 100000 in
theorem wl_r14 : ∀ w ∈ wsL_law0_r14, w ∈ lw_tbl := mem_places [670, 15, 671, 672, 674, 16, 675, 676, 678, 17, 679, 251, 252, 253, 254, 255, 256, 257, 258, 259, 272, 273, 274, 275] rfl
set_option maxRecDepth 100000 in
theorem wl_r15 : ∀ w ∈ wsL_law0_r15, w ∈ lw_tbl := mem_places [276, 281, 282, 283, 284, 285, 286, 288, 3, 289, 290, 291, 293, 4, 294, 295, 296, 297, 298, 299, 301, 5, 302, 303] rfl
set_option maxRecDepth 100000 in
theorem wl_r16 : ∀ w ∈ wsL_law0_r16, w ∈ lw_tbl := mem_places [304, 305, 306, 307, 308, 309, 310, 311, 312, 318, 319, 321, 6, 322, 323, 324, 325, 326, 680, 681, 682, 683, 684, 686] rfl
set_option maxRecDepth 100000 in
theorem wl_r17 : ∀ w ∈ wsL_law0_r17, w ∈ lw_tbl := mem_places [18, 687, 688, 690, 19, 691, 692, 694, 20, 695, 696, 698, 21, 699, 327, 328, 329, 330, 700, 701, 702, 703, 331, 332] rfl
set_option maxRecDepth 100000 in
theorem wl_r18 : ∀ w ∈ wsL_law0_r18, w ∈ lw_tbl := mem_places [333, 334, 704, 705, 706, 707, 335, 336, 337, 338, 339, 340, 341, 342, 343, 344, 345, 346, 347, 348, 349, 351, 708, 709] rfl
set_option maxRecDepth 100000 in
theorem wl_r19 : ∀ w ∈ wsL_law0_r19, w ∈ lw_tbl := mem_places [710, 711, 712, 714, 22, 715, 716, 718, 23, 719, 355, 356, 357, 358, 359, 360, 361, 362, 363, 364, 365, 366, 367, 368] rfl
set_option maxRecDepth 100000 in
theorem wl_r20 : ∀ w ∈ wsL_law0_r20, w ∈ lw_tbl := mem_places [369, 371, 372, 373, 374, 720, 721, 722, 723, 375, 376, 377, 378, 379, 724, 725, 726, 727, 728] rfl
set_option maxRecDepth 100000 in
theorem wl_x5 : ∀ w ∈ wsX50, w ∈ lw_tbl := mem_places [174, 176, 178, 180, 182, 184, 186, 188, 190] rfl
set_option maxRecDepth 100000 in
theorem wl_x6 : ∀ w ∈ wsX60, w ∈ lw_tbl := mem_places [570, 572, 574, 576, 578, 580, 582, 584, 586, 588, 590, 592, 594, 596, 598, 600, 602, 604, 606] rfl
set_option maxRecDepth 100000 in
theorem wl_x2 : ∀ w ∈ wsX20, w ∈ lw_tbl := mem_places [67, 69] rfl
set_option maxRecDepth 100000 in
theorem wl_x3 : ∀ w ∈ wsX30, w ∈ lw_tbl := mem_places [87, 89, 91, 93] rfl
set_option maxRecDepth 100000 in
theorem wl_x0 : ∀ w ∈ wsX00, w ∈ lw_tbl := mem_places [109, 111, 113] rfl
set_option maxRecDepth 100000 in
theorem wl_x1 : ∀ w ∈ wsX10, w ∈ lw_tbl := mem_places [148, 150, 152, 154, 156, 158, 160, 162] rfl
set_option maxRecDepth 100000 in
theorem wl_x4 : ∀ w ∈ wsX40, w ∈ lw_tbl := mem_places [133, 135, 137] rfl
theorem wsL_law_in0 : ∀ w ∈ wsL_law0, w ∈ lw_tbl := List.forall_mem_append.mpr ⟨List.forall_mem_append.mpr ⟨List.forall_mem_append.mpr ⟨List.forall_mem_append.mpr ⟨List.forall_mem_append.mpr ⟨List.forall_mem_append.mpr ⟨List.forall_mem_append.mpr ⟨List.forall_mem_append.mpr ⟨List.forall_mem_append.mpr ⟨wl_r1, List.forall_mem_append.mpr ⟨wl_r2, List.forall_mem_append.mpr ⟨wl_r3, List.forall_mem_append.mpr ⟨wl_r4, List.forall_mem_append.mpr ⟨wl_r5, List.forall_mem_append.mpr ⟨wl_r6, List.forall_mem_append.mpr ⟨wl_r7, List.forall_mem_append.mpr ⟨wl_r8, List.forall_mem_append.mpr ⟨wl_r9, List.forall_mem_append.mpr ⟨wl_r10, List.forall_mem_append.mpr ⟨wl_r11, List.forall_mem_append.mpr ⟨wl_r12, List.forall_mem_append.mpr ⟨wl_r13, List.forall_mem_append.mpr ⟨wl_r14, List.forall_mem_append.mpr ⟨wl_r15, List.forall_mem_append.mpr ⟨wl_r16, List.forall_mem_append.mpr ⟨wl_r17, List.forall_mem_append.mpr ⟨wl_r18, List.forall_mem_append.mpr ⟨wl_r19, wl_r20⟩⟩⟩⟩⟩⟩⟩⟩⟩⟩⟩⟩⟩⟩⟩⟩⟩⟩⟩, wl_x5⟩, wl_x6⟩, wl_x2⟩, wl_x3⟩, wl_x0⟩, wl_x1⟩, wl_x4⟩, fun _ h => absurd h List.not_mem_nil⟩
theorem wsL_law_x0 : ∀ w ∈ (vx_atS RX5 90 "java/lang/IllegalArgumentException" ["java/lang/RuntimeException", "java/lang/Exception"]).filter goodWord, w ∈ lw_tbl := by decide +kernel
theorem wsL_law_x1 : ∀ w ∈ (vx_atS RX5 105 "java/lang/IllegalStateException" ["java/lang/RuntimeException", "java/lang/Exception"]).filter goodWord, w ∈ lw_tbl := by decide +kernel
theorem wsL_law_x2 : ∀ w ∈ (vx_atS RX5 180 "java/lang/IndexOutOfBoundsException" ["java/lang/RuntimeException", "java/lang/Exception"]).filter goodWord, w ∈ lw_tbl := by decide +kernel
theorem wsL_law_x3 : ∀ w ∈ (vx_atS RX5 187 "java/lang/UnsupportedOperationException" ["java/lang/RuntimeException", "java/lang/Exception"]).filter goodWord, w ∈ lw_tbl := by decide +kernel
theorem wsL_law_in : ∀ w ∈ wsL_law, w ∈ lw_tbl := fun w h => (List.mem_append.mp h).elim (fun h => (List.mem_append.mp h).elim (fun h => (List.mem_append.mp h).elim (fun h => (List.mem_append.mp h).elim (fun h => wsL_law_in0 w h) (fun h => wsL_law_x0 w h)) (fun h => wsL_law_x1 w h)) (fun h => wsL_law_x2 w h)) (fun h => wsL_law_x3 w h)
theorem inlX0 : ∀ w ∈ wsX00, w ∈ wsL_law := fun _ h => List.mem_append_left _ (List.mem_append_left _ (List.mem_append_left _ (List.mem_append_left _ (List.mem_append_left _ (List.mem_append_left _ (List.mem_append_left _ (List.mem_append_right _ h)))))))
theorem inX0 : ∀ w ∈ wsX00, w ∈ lw_tbl := fun w h => wsL_law_in w (inlX0 w h)
theorem inlX1 : ∀ w ∈ wsX10, w ∈ wsL_law := fun _ h => List.mem_append_left _ (List.mem_append_left _ (List.mem_append_left _ (List.mem_append_left _ (List.mem_append_left _ (List.mem_append_left _ (List.mem_append_right _ h))))))
theorem inX1 : ∀ w ∈ wsX10, w ∈ lw_tbl := fun w h => wsL_law_in w (inlX1 w h)
theorem inlX2 : ∀ w ∈ wsX20, w ∈ wsL_law := fun _ h => List.mem_append_left _ (List.mem_append_left _ (List.mem_append_left _ (List.mem_append_left _ (List.mem_append_left _ (List.mem_append_left _ (List.mem_append_left _ (List.mem_append_left _ (List.mem_append_left _ (List.mem_append_right _ h)))))))))
theorem inX2 : ∀ w ∈ wsX20, w ∈ lw_tbl := fun w h => wsL_law_in w (inlX2 w h)
theorem inlX3 : ∀ w ∈ wsX30, w ∈ wsL_law := fun _ h => List.mem_append_left _ (List.mem_append_left _ (List.mem_append_left _ (List.mem_append_left _ (List.mem_append_left _ (List.mem_append_left _ (List.mem_append_left _ (List.mem_append_left _ (List.mem_append_right _ h))))))))
theorem inX3 : ∀ w ∈ wsX30, w ∈ lw_tbl := fun w h => wsL_law_in w (inlX3 w h)
theorem inlX4 : ∀ w ∈ wsX40, w ∈ wsL_law := fun _ h => List.mem_append_left _ (List.mem_append_left _ (List.mem_append_left _ (List.mem_append_left _ (List.mem_append_left _ (List.mem_append_right _ h)))))
theorem inX4 : ∀ w ∈ wsX40, w ∈ lw_tbl := fun w h => wsL_law_in w (inlX4 w h)
theorem inlX5 : ∀ w ∈ wsX50, w ∈ wsL_law := fun _ h => List.mem_append_left _ (List.mem_append_left _ (List.mem_append_left _ (List.mem_append_left _ (List.mem_append_left _ (List.mem_append_left _ (List.mem_append_left _ (List.mem_append_left _ (List.mem_append_left _ (List.mem_append_left _ (List.mem_append_left _ (List.mem_append_right _ h)))))))))))
theorem inX5 : ∀ w ∈ wsX50, w ∈ lw_tbl := fun w h => wsL_law_in w (inlX5 w h)
theorem inlX6 : ∀ w ∈ wsX60, w ∈ wsL_law := fun _ h => List.mem_append_left _ (List.mem_append_left _ (List.mem_append_left _ (List.mem_append_left _ (List.mem_append_left _ (List.mem_append_left _ (List.mem_append_left _ (List.mem_append_left _ (List.mem_append_left _ (List.mem_append_left _ (List.mem_append_right _ h))))))))))
theorem inX6 : ∀ w ∈ wsX60, w ∈ lw_tbl := fun w h => wsL_law_in w (inlX6 w h)
theorem inJ9 : ∀ w ∈ wsJ90, w ∈ lw_tbl := by decide +kernel
theorem inJ0 : ∀ w ∈ wsJ00, w ∈ lw_tbl := by decide +kernel
end
section
set_option maxRecDepth 20000 in
theorem ggX0_init_X2_init : GoodIn wsX0_init wsX2_init := goodIn_r _ [14, 15, 2, 3, 5, 16, 17, 21, 22] (by decide +kernel) (by decide +kernel)
set_option maxRecDepth 20000 in
theorem gX0_init_X2_init : GoodIn wsX0_init (wsX2_init) := ggX0_init_X2_init
theorem dX0_init_0 : decode cX0_init 0 = .ok (.aload_n 0, 1) := by decide +kernel
theorem dX0_init_1 : decode cX0_init 1 = .ok (.invokespecial 3, 3) := by decide +kernel
theorem dX0_init_4 : decode cX0_init 4 = .ok (.aload_n 0, 1) := by decide +kernel
theorem dX0_init_5 : decode cX0_init 5 = .ok (.bipush 21, 2) := by decide +kernel
theorem dX0_init_7 : decode cX0_init 7 = .ok (.bipush 21, 2) := by decide +kernel
theorem dX0_init_9 : decode cX0_init 9 = .ok (.multianewarray 9 2, 4) := by decide +kernel
theorem dX0_init_13 : decode cX0_init 13 = .ok (.putfield 11, 3) := by decide +kernel
theorem dX0_init_16 : decode cX0_init 16 = .ok (.aload_n 0, 1) := by decide +kernel
theorem dX0_init_17 : decode cX0_init 17 = .ok (.new 16, 3) := by decide +kernel
theorem dX0_init_20 : decode cX0_init 20 = .ok (.dup, 1) := by decide +kernel
theorem dX0_init_21 : decode cX0_init 21 = .ok (.iconst 0, 1) := by decide +kernel
theorem dX0_init_22 : decode cX0_init 22 = .ok (.invokespecial 18, 3) := by decide +kernel
theorem dX0_init_25 : decode cX0_init 25 = .ok (.putfield 21, 3) := by decide +kernel
theorem dX0_init_28 : decode cX0_init 28 = .ok (.aload_n 0, 1) := by decide +kernel
theorem dX0_init_29 : decode cX0_init 29 = .ok (.aload_n 0, 1) := by decide +kernel
theorem dX0_init_30 : decode cX0_init 30 = .ok (.getfield 21, 3) := by decide +kernel
theorem dX0_init_33 : decode cX0_init 33 = .ok (.putfield 25, 3) := by decide +kernel
theorem dX0_init_36 : decode cX0_init 36 = .ok (.return_, 1) := by decide +kernel
set_option maxRecDepth 20000 in
theorem ggX0_compare_X0_restAt : GoodIn wsX0_compare wsX0_restAt := goodIn_r _ [8, 1, 2, 3, 9, 10, 11, 12, 13, 14, 15, 7, 16, 17, 18, 19, 20, 21] (by decide +kernel) (by decide +kernel)
set_option maxRecDepth 20000 in
theorem gX0_compare_X0_restAt : GoodIn wsX0_compare (wsV RX0 32 RX0 yX0_restAt wsX0_restAt) := goodIn_app (goodIn_of _ (by decide +kernel)) ggX0_compare_X0_restAt
theorem dX0_compare_0 : decode cX0_compare 0 = .ok (.aload_n 0, 1) := by decide +kernel
theorem dX0_compare_1 : decode cX0_compare 1 = .ok (.aload_n 1, 1) := by decide +kernel
theorem dX0_compare_2 : decode cX0_compare 2 = .ok (.putfield 21, 3) := by decide +kernel
theorem dX0_compare_5 : decode cX0_compare 5 = .ok (.aload_n 0, 1) := by decide +kernel
theorem dX0_compare_6 : decode cX0_compare 6 = .ok (.aload_n 2, 1) := by decide +kernel
theorem dX0_compare_7 : decode cX0_compare 7 = .ok (.putfield 25, 3) := by decide +kernel
theorem dX0_compare_10 : decode cX0_compare 10 = .ok (.aload_n 0, 1) := by decide +kernel
theorem dX0_compare_11 : decode cX0_compare 11 = .ok (.getfield 21, 3) := by decide +kernel
theorem dX0_compare_14 : decode cX0_compare 14 = .ok (.getfield 28, 3) := by decide +kernel
theorem dX0_compare_17 : decode cX0_compare 17 = .ok (.istore_n 3, 1) := by decide +kernel
theorem dX0_compare_18 : decode cX0_compare 18 = .ok (.iload_n 3, 1) := by decide +kernel
theorem dX0_compare_19 : decode cX0_compare 19 = .ok (.ifCond .lt 45, 3) := by decide +kernel
theorem dX0_compare_22 : decode cX0_compare 22 = .ok (.aload_n 0, 1) := by decide +kernel
theorem dX0_compare_23 : decode cX0_compare 23 = .ok (.getfield 25, 3) := by decide +kernel
theorem dX0_compare_26 : decode cX0_compare 26 = .ok (.getfield 28, 3) := by decide +kernel
theorem dX0_compare_29 : decode cX0_compare 29 = .ok (.istore 4, 2) := by decide +kernel
theorem dX0_compare_31 : decode cX0_compare 31 = .ok (.iload 4, 2) := by decide +kernel
theorem dX0_compare_33 : decode cX0_compare 33 = .ok (.ifCond .lt 25, 3) := by decide +kernel
theorem dX0_compare_36 : decode cX0_compare 36 = .ok (.aload_n 0, 1) := by decide +kernel
theorem dX0_compare_37 : decode cX0_compare 37 = .ok (.getfield 11, 3) := by decide +kernel
theorem dX0_compare_40 : decode cX0_compare 40 = .ok (.iload_n 3, 1) := by decide +kernel
theorem dX0_compare_41 : decode cX0_compare 41 = .ok (.aaload, 1) := by decide +kernel
theorem dX0_compare_42 : decode cX0_compare 42 = .ok (.iload 4, 2) := by decide +kernel
theorem dX0_compare_44 : decode cX0_compare 44 = .ok (.aload_n 0, 1) := by decide +kernel
theorem dX0_compare_45 : decode cX0_compare 45 = .ok (.iload_n 3, 1) := by decide +kernel
theorem dX0_compare_46 : decode cX0_compare 46 = .ok (.iload 4, 2) := by decide +kernel
theorem dX0_compare_48 : decode cX0_compare 48 = .ok (.invokevirtual 32, 3) := by decide +kernel
theorem dX0_compare_51 : decode cX0_compare 51 = .ok (.iastore, 1) := by decide +kernel
theorem dX0_compare_52 : decode cX0_compare 52 = .ok (.iinc 4 (-1), 3) := by decide +kernel
theorem dX0_compare_55 : decode cX0_compare 55 = .ok (.goto (-24), 3) := by decide +kernel
theorem dX0_compare_58 : decode cX0_compare 58 = .ok (.iinc 3 (-1), 3) := by decide +kernel
theorem dX0_compare_61 : decode cX0_compare 61 = .ok (.goto (-43), 3) := by decide +kernel
theorem dX0_compare_64 : decode cX0_compare 64 = .ok (.return_, 1) := by decide +kernel
theorem dX0_operations_0 : decode cX0_operations 0 = .ok (.aload_n 0, 1) := by decide +kernel
theorem dX0_operations_1 : decode cX0_operations 1 = .ok (.getfield 11, 3) := by decide +kernel
theorem dX0_operations_4 : decode cX0_operations 4 = .ok (.iconst 0, 1) := by decide +kernel
theorem dX0_operations_5 : decode cX0_operations 5 = .ok (.aaload, 1) := by decide +kernel
theorem dX0_operations_6 : decode cX0_operations 6 = .ok (.iconst 0, 1) := by decide +kernel
theorem dX0_operations_7 : decode cX0_operations 7 = .ok (.iaload, 1) := by decide +kernel
theorem dX0_operations_8 : decode cX0_operations 8 = .ok (.ireturn, 1) := by decide +kernel
set_option maxRecDepth 20000 in
theorem ggX0_writeTo_X3_empty : GoodIn wsX0_writeTo wsX3_empty := goodIn_r _ [7, 8, 38, 39, 40, 41] (by decide +kernel) (by decide +kernel)
set_option maxRecDepth 20000 in
theorem gX0_writeTo_X3_empty : GoodIn wsX0_writeTo (wsV RX0 36 RX3 yX3_empty wsX3_empty) := goodIn_app (goodIn_of _ (by decide +kernel)) ggX0_writeTo_X3_empty
set_option maxRecDepth 20000 in
theorem ggX0_writeTo_X0_stepAt : GoodIn wsX0_writeTo wsX0_stepAt := goodIn_r _ [13, 1, 14, 15, 16, 17, 12, 18, 2, 33, 34, 35, 36, 37] (by decide +kernel) (by decide +kernel)
set_option maxRecDepth 20000 in
theorem gX0_writeTo_X0_stepAt : GoodIn wsX0_writeTo (wsV RX0 41 RX0 yX0_stepAt wsX0_stepAt) := goodIn_app (goodIn_of _ (by decide +kernel)) ggX0_writeTo_X0_stepAt
set_option maxRecDepth 20000 in
theorem ggX0_writeTo_X2_at : GoodIn wsX0_writeTo wsX2_at := goodIn_r _ [23, 24, 25, 36, 37] (by decide +kernel) (by decide +kernel)
set_option maxRecDepth 20000 in
theorem gX0_writeTo_X2_at : GoodIn wsX0_writeTo (wsV RX0 44 RX2 yX2_at wsX2_at) := goodIn_app (goodIn_of _ (by decide +kernel)) ggX0_writeTo_X2_at
set_option maxRecDepth 20000 in
theorem ggX0_writeTo_X3_add : GoodIn wsX0_writeTo wsX3_add := goodIn_r _ [29, 8, 30, 31, 32, 38, 39, 40, 41] (by decide +kernel) (by decide +kernel)
set_option maxRecDepth 20000 in
theorem gX0_writeTo_X3_add : GoodIn wsX0_writeTo (wsV RX0 47 RX3 yX3_add wsX3_add) := goodIn_app (goodIn_of _ (by decide +kernel)) ggX0_writeTo_X3_add
theorem dX0_writeTo_0 : decode cX0_writeTo 0 = .ok (.aload_n 1, 1) := by decide +kernel
theorem dX0_writeTo_1 : decode cX0_writeTo 1 = .ok (.invokevirtual 36, 3) := by decide +kernel
theorem dX0_writeTo_4 : decode cX0_writeTo 4 = .ok (.iconst 0, 1) := by decide +kernel
theorem dX0_writeTo_5 : decode cX0_writeTo 5 = .ok (.istore_n 2, 1) := by decide +kernel
theorem dX0_writeTo_6 : decode cX0_writeTo 6 = .ok (.iconst 0, 1) := by decide +kernel
theorem dX0_writeTo_7 : decode cX0_writeTo 7 = .ok (.istore_n 3, 1) := by decide +kernel
theorem dX0_writeTo_8 : decode cX0_writeTo 8 = .ok (.iload_n 2, 1) := by decide +kernel
theorem dX0_writeTo_9 : decode cX0_writeTo 9 = .ok (.iload_n 3, 1) := by decide +kernel
theorem dX0_writeTo_10 : decode cX0_writeTo 10 = .ok (.iadd, 1) := by decide +kernel
theorem dX0_writeTo_11 : decode cX0_writeTo 11 = .ok (.aload_n 0, 1) := by decide +kernel
theorem dX0_writeTo_12 : decode cX0_writeTo 12 = .ok (.getfield 21, 3) := by decide +kernel
theorem dX0_writeTo_15 : decode cX0_writeTo 15 = .ok (.getfield 28, 3) := by decide +kernel
theorem dX0_writeTo_18 : decode cX0_writeTo 18 = .ok (.aload_n 0, 1) := by decide +kernel
theorem dX0_writeTo_19 : decode cX0_writeTo 19 = .ok (.getfield 25, 3) := by decide +kernel
theorem dX0_writeTo_22 : decode cX0_writeTo 22 = .ok (.getfield 28, 3) := by decide +kernel
theorem dX0_writeTo_25 : decode cX0_writeTo 25 = .ok (.iadd, 1) := by decide +kernel
theorem dX0_writeTo_26 : decode cX0_writeTo 26 = .ok (.if_icmp .ge 87, 3) := by decide +kernel
theorem dX0_writeTo_29 : decode cX0_writeTo 29 = .ok (.aload_n 0, 1) := by decide +kernel
theorem dX0_writeTo_30 : decode cX0_writeTo 30 = .ok (.iload_n 2, 1) := by decide +kernel
theorem dX0_writeTo_31 : decode cX0_writeTo 31 = .ok (.iload_n 3, 1) := by decide +kernel
theorem dX0_writeTo_32 : decode cX0_writeTo 32 = .ok (.invokevirtual 41, 3) := by decide +kernel
theorem dX0_writeTo_35 : decode cX0_writeTo 35 = .ok (.istore 4, 2) := by decide +kernel
theorem dX0_writeTo_37 : decode cX0_writeTo 37 = .ok (.iload 4, 2) := by decide +kernel
theorem dX0_writeTo_39 : decode cX0_writeTo 39 = .ok (.ifCond .ne 22, 3) := by decide +kernel
theorem dX0_writeTo_42 : decode cX0_writeTo 42 = .ok (.aload_n 1, 1) := by decide +kernel
theorem dX0_writeTo_43 : decode cX0_writeTo 43 = .ok (.iconst 0, 1) := by decide +kernel
theorem dX0_writeTo_44 : decode cX0_writeTo 44 = .ok (.iload_n 2, 1) := by decide +kernel
theorem dX0_writeTo_45 : decode cX0_writeTo 45 = .ok (.aload_n 0, 1) := by decide +kernel
theorem dX0_writeTo_46 : decode cX0_writeTo 46 = .ok (.getfield 21, 3) := by decide +kernel
theorem dX0_writeTo_49 : decode cX0_writeTo 49 = .ok (.iload_n 2, 1) := by decide +kernel
theorem dX0_writeTo_50 : decode cX0_writeTo 50 = .ok (.iconst (-1), 1) := by decide +kernel
theorem dX0_writeTo_51 : decode cX0_writeTo 51 = .ok (.invokevirtual 44, 3) := by decide +kernel
theorem dX0_writeTo_54 : decode cX0_writeTo 54 = .ok (.invokevirtual 47, 3) := by decide +kernel
theorem dX0_writeTo_57 : decode cX0_writeTo 57 = .ok (.pop, 1) := by decide +kernel
theorem dX0_writeTo_58 : decode cX0_writeTo 58 = .ok (.goto 25, 3) := by decide +kernel
theorem dX0_writeTo_61 : decode cX0_writeTo 61 = .ok (.iload 4, 2) := by decide +kernel
theorem dX0_writeTo_63 : decode cX0_writeTo 63 = .ok (.iconst 1, 1) := by decide +kernel
theorem dX0_writeTo_64 : decode cX0_writeTo 64 = .ok (.if_icmp .ne 19, 3) := by decide +kernel
theorem dX0_writeTo_67 : decode cX0_writeTo 67 = .ok (.aload_n 1, 1) := by decide +kernel
theorem dX0_writeTo_68 : decode cX0_writeTo 68 = .ok (.iconst 1, 1) := by decide +kernel
theorem dX0_writeTo_69 : decode cX0_writeTo 69 = .ok (.iload_n 2, 1) := by decide +kernel
theorem dX0_writeTo_70 : decode cX0_writeTo 70 = .ok (.aload_n 0, 1) := by decide +kernel
theorem dX0_writeTo_71 : decode cX0_writeTo 71 = .ok (.getfield 25, 3) := by decide +kernel
theorem dX0_writeTo_74 : decode cX0_writeTo 74 = .ok (.iload_n 3, 1) := by decide +kernel
theorem dX0_writeTo_75 : decode cX0_writeTo 75 = .ok (.iconst (-1), 1) := by decide +kernel
theorem dX0_writeTo_76 : decode cX0_writeTo 76 = .ok (.invokevirtual 44, 3) := by decide +kernel
theorem dX0_writeTo_79 : decode cX0_writeTo 79 = .ok (.invokevirtual 47, 3) := by decide +kernel
theorem dX0_writeTo_82 : decode cX0_writeTo 82 = .ok (.pop, 1) := by decide +kernel
theorem dX0_writeTo_83 : decode cX0_writeTo 83 = .ok (.iload_n 2, 1) := by decide +kernel
theorem dX0_writeTo_84 : decode cX0_writeTo 84 = .ok (.iload 4, 2) := by decide +kernel
theorem dX0_writeTo_86 : decode cX0_writeTo 86 = .ok (.iconst 1, 1) := by decide +kernel
theorem dX0_writeTo_87 : decode cX0_writeTo 87 = .ok (.if_icmp .ne 7, 3) := by decide +kernel
theorem dX0_writeTo_90 : decode cX0_writeTo 90 = .ok (.iconst 0, 1) := by decide +kernel
theorem dX0_writeTo_91 : decode cX0_writeTo 91 = .ok (.goto 4, 3) := by decide +kernel
theorem dX0_writeTo_94 : decode cX0_writeTo 94 = .ok (.iconst 1, 1) := by decide +kernel
theorem dX0_writeTo_95 : decode cX0_writeTo 95 = .ok (.iadd, 1) := by decide +kernel
theorem dX0_writeTo_96 : decode cX0_writeTo 96 = .ok (.istore_n 2, 1) := by decide +kernel
theorem dX0_writeTo_97 : decode cX0_writeTo 97 = .ok (.iload_n 3, 1) := by decide +kernel
theorem dX0_writeTo_98 : decode cX0_writeTo 98 = .ok (.iload 4, 2) := by decide +kernel
theorem dX0_writeTo_100 : decode cX0_writeTo 100 = .ok (.ifCond .ne 7, 3) := by decide +kernel
theorem dX0_writeTo_103 : decode cX0_writeTo 103 = .ok (.iconst 0, 1) := by decide +kernel
theorem dX0_writeTo_104 : decode cX0_writeTo 104 = .ok (.goto 4, 3) := by decide +kernel
theorem dX0_writeTo_107 : decode cX0_writeTo 107 = .ok (.iconst 1, 1) := by decide +kernel
theorem dX0_writeTo_108 : decode cX0_writeTo 108 = .ok (.iadd, 1) := by decide +kernel
theorem dX0_writeTo_109 : decode cX0_writeTo 109 = .ok (.istore_n 3, 1) := by decide +kernel
theorem dX0_writeTo_110 : decode cX0_writeTo 110 = .ok (.goto (-102), 3) := by decide +kernel
theorem dX0_writeTo_113 : decode cX0_writeTo 113 = .ok (.return_, 1) := by decide +kernel
set_option maxRecDepth 20000 in
theorem ggX0_pairTo_X2_empty : GoodIn wsX0_pairTo wsX2_empty := goodIn_r _ [7, 8, 27, 28] (by decide +kernel) (by decide +kernel)
set_option maxRecDepth 20000 in
theorem gX0_pairTo_X2_empty : GoodIn wsX0_pairTo (wsV RX0 51 RX2 yX2_empty wsX2_empty) := goodIn_app (goodIn_of _ (by decide +kernel)) ggX0_pairTo_X2_empty
set_option maxRecDepth 20000 in
theorem ggX0_pairTo_X0_stepAt : GoodIn wsX0_pairTo wsX0_stepAt := goodIn_r _ [13, 1, 14, 15, 16, 17, 12, 18, 2, 24, 25, 26, 27, 28] (by decide +kernel) (by decide +kernel)
set_option maxRecDepth 20000 in
theorem gX0_pairTo_X0_stepAt : GoodIn wsX0_pairTo (wsV RX0 41 RX0 yX0_stepAt wsX0_stepAt) := goodIn_app (goodIn_of _ (by decide +kernel)) ggX0_pairTo_X0_stepAt
set_option maxRecDepth 20000 in
theorem ggX0_pairTo_X2_add : GoodIn wsX0_pairTo wsX2_add := goodIn_r _ [22, 8, 23, 27, 28] (by decide +kernel) (by decide +kernel)
set_option maxRecDepth 20000 in
theorem gX0_pairTo_X2_add : GoodIn wsX0_pairTo (wsV RX0 52 RX2 yX2_add wsX2_add) := goodIn_app (goodIn_of _ (by decide +kernel)) ggX0_pairTo_X2_add
theorem dX0_pairTo_0 : decode cX0_pairTo 0 = .ok (.aload_n 1, 1) := by decide +kernel
theorem dX0_pairTo_1 : decode cX0_pairTo 1 = .ok (.invokevirtual 51, 3) := by decide +kernel
theorem dX0_pairTo_4 : decode cX0_pairTo 4 = .ok (.iconst 0, 1) := by decide +kernel
theorem dX0_pairTo_5 : decode cX0_pairTo 5 = .ok (.istore_n 2, 1) := by decide +kernel
theorem dX0_pairTo_6 : decode cX0_pairTo 6 = .ok (.iconst 0, 1) := by decide +kernel
theorem dX0_pairTo_7 : decode cX0_pairTo 7 = .ok (.istore_n 3, 1) := by decide +kernel
theorem dX0_pairTo_8 : decode cX0_pairTo 8 = .ok (.iload_n 2, 1) := by decide +kernel
theorem dX0_pairTo_9 : decode cX0_pairTo 9 = .ok (.iload_n 3, 1) := by decide +kernel
theorem dX0_pairTo_10 : decode cX0_pairTo 10 = .ok (.iadd, 1) := by decide +kernel
theorem dX0_pairTo_11 : decode cX0_pairTo 11 = .ok (.aload_n 0, 1) := by decide +kernel
theorem dX0_pairTo_12 : decode cX0_pairTo 12 = .ok (.getfield 21, 3) := by decide +kernel
theorem dX0_pairTo_15 : decode cX0_pairTo 15 = .ok (.getfield 28, 3) := by decide +kernel
theorem dX0_pairTo_18 : decode cX0_pairTo 18 = .ok (.aload_n 0, 1) := by decide +kernel
theorem dX0_pairTo_19 : decode cX0_pairTo 19 = .ok (.getfield 25, 3) := by decide +kernel
theorem dX0_pairTo_22 : decode cX0_pairTo 22 = .ok (.getfield 28, 3) := by decide +kernel
theorem dX0_pairTo_25 : decode cX0_pairTo 25 = .ok (.iadd, 1) := by decide +kernel
theorem dX0_pairTo_26 : decode cX0_pairTo 26 = .ok (.if_icmp .ge 63, 3) := by decide +kernel
theorem dX0_pairTo_29 : decode cX0_pairTo 29 = .ok (.aload_n 0, 1) := by decide +kernel
theorem dX0_pairTo_30 : decode cX0_pairTo 30 = .ok (.iload_n 2, 1) := by decide +kernel
theorem dX0_pairTo_31 : decode cX0_pairTo 31 = .ok (.iload_n 3, 1) := by decide +kernel
theorem dX0_pairTo_32 : decode cX0_pairTo 32 = .ok (.invokevirtual 41, 3) := by decide +kernel
theorem dX0_pairTo_35 : decode cX0_pairTo 35 = .ok (.istore 4, 2) := by decide +kernel
theorem dX0_pairTo_37 : decode cX0_pairTo 37 = .ok (.iload 4, 2) := by decide +kernel
theorem dX0_pairTo_39 : decode cX0_pairTo 39 = .ok (.iconst 1, 1) := by decide +kernel
theorem dX0_pairTo_40 : decode cX0_pairTo 40 = .ok (.if_icmp .eq 19, 3) := by decide +kernel
theorem dX0_pairTo_43 : decode cX0_pairTo 43 = .ok (.aload_n 1, 1) := by decide +kernel
theorem dX0_pairTo_44 : decode cX0_pairTo 44 = .ok (.iload 4, 2) := by decide +kernel
theorem dX0_pairTo_46 : decode cX0_pairTo 46 = .ok (.iconst 2, 1) := by decide +kernel
theorem dX0_pairTo_47 : decode cX0_pairTo 47 = .ok (.if_icmp .ne 7, 3) := by decide +kernel
theorem dX0_pairTo_50 : decode cX0_pairTo 50 = .ok (.iload_n 3, 1) := by decide +kernel
theorem dX0_pairTo_51 : decode cX0_pairTo 51 = .ok (.goto 4, 3) := by decide +kernel
theorem dX0_pairTo_54 : decode cX0_pairTo 54 = .ok (.iconst (-1), 1) := by decide +kernel
theorem dX0_pairTo_55 : decode cX0_pairTo 55 = .ok (.invokevirtual 52, 3) := by decide +kernel
theorem dX0_pairTo_58 : decode cX0_pairTo 58 = .ok (.pop, 1) := by decide +kernel
theorem dX0_pairTo_59 : decode cX0_pairTo 59 = .ok (.iload_n 2, 1) := by decide +kernel
theorem dX0_pairTo_60 : decode cX0_pairTo 60 = .ok (.iload 4, 2) := by decide +kernel
theorem dX0_pairTo_62 : decode cX0_pairTo 62 = .ok (.iconst 1, 1) := by decide +kernel
theorem dX0_pairTo_63 : decode cX0_pairTo 63 = .ok (.if_icmp .ne 7, 3) := by decide +kernel
theorem dX0_pairTo_66 : decode cX0_pairTo 66 = .ok (.iconst 0, 1) := by decide +kernel
theorem dX0_pairTo_67 : decode cX0_pairTo 67 = .ok (.goto 4, 3) := by decide +kernel
theorem dX0_pairTo_70 : decode cX0_pairTo 70 = .ok (.iconst 1, 1) := by decide +kernel
theorem dX0_pairTo_71 : decode cX0_pairTo 71 = .ok (.iadd, 1) := by decide +kernel
theorem dX0_pairTo_72 : decode cX0_pairTo 72 = .ok (.istore_n 2, 1) := by decide +kernel
theorem dX0_pairTo_73 : decode cX0_pairTo 73 = .ok (.iload_n 3, 1) := by decide +kernel
theorem dX0_pairTo_74 : decode cX0_pairTo 74 = .ok (.iload 4, 2) := by decide +kernel
theorem dX0_pairTo_76 : decode cX0_pairTo 76 = .ok (.ifCond .ne 7, 3) := by decide +kernel
theorem dX0_pairTo_79 : decode cX0_pairTo 79 = .ok (.iconst 0, 1) := by decide +kernel
theorem dX0_pairTo_80 : decode cX0_pairTo 80 = .ok (.goto 4, 3) := by decide +kernel
theorem dX0_pairTo_83 : decode cX0_pairTo 83 = .ok (.iconst 1, 1) := by decide +kernel
theorem dX0_pairTo_84 : decode cX0_pairTo 84 = .ok (.iadd, 1) := by decide +kernel
theorem dX0_pairTo_85 : decode cX0_pairTo 85 = .ok (.istore_n 3, 1) := by decide +kernel
theorem dX0_pairTo_86 : decode cX0_pairTo 86 = .ok (.goto (-78), 3) := by decide +kernel
theorem dX0_pairTo_89 : decode cX0_pairTo 89 = .ok (.return_, 1) := by decide +kernel
set_option maxRecDepth 20000 in
theorem ggX0_restAt_X0_isSame : GoodIn wsX0_restAt wsX0_isSame := goodIn_r _ [12, 1, 2, 13, 14, 15, 16, 17] (by decide +kernel) (by decide +kernel)
set_option maxRecDepth 20000 in
theorem gX0_restAt_X0_isSame : GoodIn wsX0_restAt (wsV RX0 55 RX0 yX0_isSame wsX0_isSame) := goodIn_app (goodIn_of _ (by decide +kernel)) ggX0_restAt_X0_isSame
theorem dX0_restAt_0 : decode cX0_restAt 0 = .ok (.iload_n 1, 1) := by decide +kernel
theorem dX0_restAt_1 : decode cX0_restAt 1 = .ok (.aload_n 0, 1) := by decide +kernel
theorem dX0_restAt_2 : decode cX0_restAt 2 = .ok (.getfield 21, 3) := by decide +kernel
theorem dX0_restAt_5 : decode cX0_restAt 5 = .ok (.getfield 28, 3) := by decide +kernel
theorem dX0_restAt_8 : decode cX0_restAt 8 = .ok (.if_icmp .ge 14, 3) := by decide +kernel
theorem dX0_restAt_11 : decode cX0_restAt 11 = .ok (.iload_n 2, 1) := by decide +kernel
theorem dX0_restAt_12 : decode cX0_restAt 12 = .ok (.aload_n 0, 1) := by decide +kernel
theorem dX0_restAt_13 : decode cX0_restAt 13 = .ok (.getfield 25, 3) := by decide +kernel
theorem dX0_restAt_16 : decode cX0_restAt 16 = .ok (.getfield 28, 3) := by decide +kernel
theorem dX0_restAt_19 : decode cX0_restAt 19 = .ok (.if_icmp .lt 23, 3) := by decide +kernel
theorem dX0_restAt_22 : decode cX0_restAt 22 = .ok (.aload_n 0, 1) := by decide +kernel
theorem dX0_restAt_23 : decode cX0_restAt 23 = .ok (.getfield 21, 3) := by decide +kernel
theorem dX0_restAt_26 : decode cX0_restAt 26 = .ok (.getfield 28, 3) := by decide +kernel
theorem dX0_restAt_29 : decode cX0_restAt 29 = .ok (.iload_n 1, 1) := by decide +kernel
theorem dX0_restAt_30 : decode cX0_restAt 30 = .ok (.isub, 1) := by decide +kernel
theorem dX0_restAt_31 : decode cX0_restAt 31 = .ok (.aload_n 0, 1) := by decide +kernel
theorem dX0_restAt_32 : decode cX0_restAt 32 = .ok (.getfield 25, 3) := by decide +kernel
theorem dX0_restAt_35 : decode cX0_restAt 35 = .ok (.getfield 28, 3) := by decide +kernel
theorem dX0_restAt_38 : decode cX0_restAt 38 = .ok (.iadd, 1) := by decide +kernel
theorem dX0_restAt_39 : decode cX0_restAt 39 = .ok (.iload_n 2, 1) := by decide +kernel
theorem dX0_restAt_40 : decode cX0_restAt 40 = .ok (.isub, 1) := by decide +kernel
theorem dX0_restAt_41 : decode cX0_restAt 41 = .ok (.ireturn, 1) := by decide +kernel
theorem dX0_restAt_42 : decode cX0_restAt 42 = .ok (.aload_n 0, 1) := by decide +kernel
theorem dX0_restAt_43 : decode cX0_restAt 43 = .ok (.iload_n 1, 1) := by decide +kernel
theorem dX0_restAt_44 : decode cX0_restAt 44 = .ok (.iload_n 2, 1) := by decide +kernel
theorem dX0_restAt_45 : decode cX0_restAt 45 = .ok (.invokevirtual 55, 3) := by decide +kernel
theorem dX0_restAt_48 : decode cX0_restAt 48 = .ok (.ifCond .eq 16, 3) := by decide +kernel
theorem dX0_restAt_51 : decode cX0_restAt 51 = .ok (.aload_n 0, 1) := by decide +kernel
theorem dX0_restAt_52 : decode cX0_restAt 52 = .ok (.getfield 11, 3) := by decide +kernel
theorem dX0_restAt_55 : decode cX0_restAt 55 = .ok (.iload_n 1, 1) := by decide +kernel
theorem dX0_restAt_56 : decode cX0_restAt 56 = .ok (.iconst 1, 1) := by decide +kernel
theorem dX0_restAt_57 : decode cX0_restAt 57 = .ok (.iadd, 1) := by decide +kernel
theorem dX0_restAt_58 : decode cX0_restAt 58 = .ok (.aaload, 1) := by decide +kernel
theorem dX0_restAt_59 : decode cX0_restAt 59 = .ok (.iload_n 2, 1) := by decide +kernel
theorem dX0_restAt_60 : decode cX0_restAt 60 = .ok (.iconst 1, 1) := by decide +kernel
theorem dX0_restAt_61 : decode cX0_restAt 61 = .ok (.iadd, 1) := by decide +kernel
theorem dX0_restAt_62 : decode cX0_restAt 62 = .ok (.iaload, 1) := by decide +kernel
theorem dX0_restAt_63 : decode cX0_restAt 63 = .ok (.ireturn, 1) := by decide +kernel
theorem dX0_restAt_64 : decode cX0_restAt 64 = .ok (.iconst 1, 1) := by decide +kernel
theorem dX0_restAt_65 : decode cX0_restAt 65 = .ok (.aload_n 0, 1) := by decide +kernel
theorem dX0_restAt_66 : decode cX0_restAt 66 = .ok (.getfield 11, 3) := by decide +kernel
theorem dX0_restAt_69 : decode cX0_restAt 69 = .ok (.iload_n 1, 1) := by decide +kernel
theorem dX0_restAt_70 : decode cX0_restAt 70 = .ok (.iconst 1, 1) := by decide +kernel
theorem dX0_restAt_71 : decode cX0_restAt 71 = .ok (.iadd, 1) := by decide +kernel
theorem dX0_restAt_72 : decode cX0_restAt 72 = .ok (.aaload, 1) := by decide +kernel
theorem dX0_restAt_73 : decode cX0_restAt 73 = .ok (.iload_n 2, 1) := by decide +kernel
theorem dX0_restAt_74 : decode cX0_restAt 74 = .ok (.iaload, 1) := by decide +kernel
theorem dX0_restAt_75 : decode cX0_restAt 75 = .ok (.aload_n 0, 1) := by decide +kernel
theorem dX0_restAt_76 : decode cX0_restAt 76 = .ok (.getfield 11, 3) := by decide +kernel
theorem dX0_restAt_79 : decode cX0_restAt 79 = .ok (.iload_n 1, 1) := by decide +kernel
theorem dX0_restAt_80 : decode cX0_restAt 80 = .ok (.aaload, 1) := by decide +kernel
theorem dX0_restAt_81 : decode cX0_restAt 81 = .ok (.iload_n 2, 1) := by decide +kernel
theorem dX0_restAt_82 : decode cX0_restAt 82 = .ok (.iconst 1, 1) := by decide +kernel
theorem dX0_restAt_83 : decode cX0_restAt 83 = .ok (.iadd, 1) := by decide +kernel
theorem dX0_restAt_84 : decode cX0_restAt 84 = .ok (.iaload, 1) := by decide +kernel
theorem dX0_restAt_85 : decode cX0_restAt 85 = .ok (.invokestatic 59, 3) := by decide +kernel
theorem dX0_restAt_88 : decode cX0_restAt 88 = .ok (.iadd, 1) := by decide +kernel
theorem dX0_restAt_89 : decode cX0_restAt 89 = .ok (.ireturn, 1) := by decide +kernel
set_option maxRecDepth 20000 in
theorem ggX0_stepAt_X0_isSame : GoodIn wsX0_stepAt wsX0_isSame := goodIn_r _ [7, 1, 8, 9, 10, 11, 12, 13] (by decide +kernel) (by decide +kernel)
set_option maxRecDepth 20000 in
theorem gX0_stepAt_X0_isSame : GoodIn wsX0_stepAt (wsV RX0 55 RX0 yX0_isSame wsX0_isSame) := goodIn_app (goodIn_of _ (by decide +kernel)) ggX0_stepAt_X0_isSame
theorem dX0_stepAt_0 : decode cX0_stepAt 0 = .ok (.aload_n 0, 1) := by decide +kernel
theorem dX0_stepAt_1 : decode cX0_stepAt 1 = .ok (.iload_n 1, 1) := by decide +kernel
theorem dX0_stepAt_2 : decode cX0_stepAt 2 = .ok (.iload_n 2, 1) := by decide +kernel
theorem dX0_stepAt_3 : decode cX0_stepAt 3 = .ok (.invokevirtual 55, 3) := by decide +kernel
theorem dX0_stepAt_6 : decode cX0_stepAt 6 = .ok (.ifCond .eq 5, 3) := by decide +kernel
theorem dX0_stepAt_9 : decode cX0_stepAt 9 = .ok (.iconst 2, 1) := by decide +kernel
theorem dX0_stepAt_10 : decode cX0_stepAt 10 = .ok (.ireturn, 1) := by decide +kernel
theorem dX0_stepAt_11 : decode cX0_stepAt 11 = .ok (.iload_n 1, 1) := by decide +kernel
theorem dX0_stepAt_12 : decode cX0_stepAt 12 = .ok (.aload_n 0, 1) := by decide +kernel
theorem dX0_stepAt_13 : decode cX0_stepAt 13 = .ok (.getfield 21, 3) := by decide +kernel
theorem dX0_stepAt_16 : decode cX0_stepAt 16 = .ok (.getfield 28, 3) := by decide +kernel
theorem dX0_stepAt_19 : decode cX0_stepAt 19 = .ok (.if_icmp .ge 28, 3) := by decide +kernel
theorem dX0_stepAt_22 : decode cX0_stepAt 22 = .ok (.aload_n 0, 1) := by decide +kernel
theorem dX0_stepAt_23 : decode cX0_stepAt 23 = .ok (.getfield 11, 3) := by decide +kernel
theorem dX0_stepAt_26 : decode cX0_stepAt 26 = .ok (.iload_n 1, 1) := by decide +kernel
theorem dX0_stepAt_27 : decode cX0_stepAt 27 = .ok (.iconst 1, 1) := by decide +kernel
theorem dX0_stepAt_28 : decode cX0_stepAt 28 = .ok (.iadd, 1) := by decide +kernel
theorem dX0_stepAt_29 : decode cX0_stepAt 29 = .ok (.aaload, 1) := by decide +kernel
theorem dX0_stepAt_30 : decode cX0_stepAt 30 = .ok (.iload_n 2, 1) := by decide +kernel
theorem dX0_stepAt_31 : decode cX0_stepAt 31 = .ok (.iaload, 1) := by decide +kernel
theorem dX0_stepAt_32 : decode cX0_stepAt 32 = .ok (.aload_n 0, 1) := by decide +kernel
theorem dX0_stepAt_33 : decode cX0_stepAt 33 = .ok (.getfield 11, 3) := by decide +kernel
theorem dX0_stepAt_36 : decode cX0_stepAt 36 = .ok (.iload_n 1, 1) := by decide +kernel
theorem dX0_stepAt_37 : decode cX0_stepAt 37 = .ok (.aaload, 1) := by decide +kernel
theorem dX0_stepAt_38 : decode cX0_stepAt 38 = .ok (.iload_n 2, 1) := by decide +kernel
theorem dX0_stepAt_39 : decode cX0_stepAt 39 = .ok (.iaload, 1) := by decide +kernel
theorem dX0_stepAt_40 : decode cX0_stepAt 40 = .ok (.if_icmp .ge 7, 3) := by decide +kernel
theorem dX0_stepAt_43 : decode cX0_stepAt 43 = .ok (.iconst 0, 1) := by decide +kernel
theorem dX0_stepAt_44 : decode cX0_stepAt 44 = .ok (.goto 4, 3) := by decide +kernel
theorem dX0_stepAt_47 : decode cX0_stepAt 47 = .ok (.iconst 1, 1) := by decide +kernel
theorem dX0_stepAt_48 : decode cX0_stepAt 48 = .ok (.ireturn, 1) := by decide +kernel
theorem dX0_isSame_0 : decode cX0_isSame 0 = .ok (.iload_n 1, 1) := by decide +kernel
theorem dX0_isSame_1 : decode cX0_isSame 1 = .ok (.aload_n 0, 1) := by decide +kernel
theorem dX0_isSame_2 : decode cX0_isSame 2 = .ok (.getfield 21, 3) := by decide +kernel
theorem dX0_isSame_5 : decode cX0_isSame 5 = .ok (.getfield 28, 3) := by decide +kernel
theorem dX0_isSame_8 : decode cX0_isSame 8 = .ok (.if_icmp .ge 39, 3) := by decide +kernel
theorem dX0_isSame_11 : decode cX0_isSame 11 = .ok (.iload_n 2, 1) := by decide +kernel
theorem dX0_isSame_12 : decode cX0_isSame 12 = .ok (.aload_n 0, 1) := by decide +kernel
theorem dX0_isSame_13 : decode cX0_isSame 13 = .ok (.getfield 25, 3) := by decide +kernel
theorem dX0_isSame_16 : decode cX0_isSame 16 = .ok (.getfield 28, 3) := by decide +kernel
theorem dX0_isSame_19 : decode cX0_isSame 19 = .ok (.if_icmp .ge 28, 3) := by decide +kernel
theorem dX0_isSame_22 : decode cX0_isSame 22 = .ok (.aload_n 0, 1) := by decide +kernel
theorem dX0_isSame_23 : decode cX0_isSame 23 = .ok (.getfield 21, 3) := by decide +kernel
theorem dX0_isSame_26 : decode cX0_isSame 26 = .ok (.getfield 64, 3) := by decide +kernel
theorem dX0_isSame_29 : decode cX0_isSame 29 = .ok (.iload_n 1, 1) := by decide +kernel
theorem dX0_isSame_30 : decode cX0_isSame 30 = .ok (.iaload, 1) := by decide +kernel
theorem dX0_isSame_31 : decode cX0_isSame 31 = .ok (.aload_n 0, 1) := by decide +kernel
theorem dX0_isSame_32 : decode cX0_isSame 32 = .ok (.getfield 25, 3) := by decide +kernel
theorem dX0_isSame_35 : decode cX0_isSame 35 = .ok (.getfield 64, 3) := by decide +kernel
theorem dX0_isSame_38 : decode cX0_isSame 38 = .ok (.iload_n 2, 1) := by decide +kernel
theorem dX0_isSame_39 : decode cX0_isSame 39 = .ok (.iaload, 1) := by decide +kernel
theorem dX0_isSame_40 : decode cX0_isSame 40 = .ok (.if_icmp .ne 7, 3) := by decide +kernel
theorem dX0_isSame_43 : decode cX0_isSame 43 = .ok (.iconst 1, 1) := by decide +kernel
theorem dX0_isSame_44 : decode cX0_isSame 44 = .ok (.goto 4, 3) := by decide +kernel
theorem dX0_isSame_47 : decode cX0_isSame 47 = .ok (.iconst 0, 1) := by decide +kernel
theorem dX0_isSame_48 : decode cX0_isSame 48 = .ok (.ireturn, 1) := by decide +kernel
set_option maxRecDepth 20000 in
theorem ggX1_init_X2_init : GoodIn wsX1_init wsX2_init := goodIn_r _ [20, 21, 2, 3, 22, 23, 24, 40, 41] (by decide +kernel) (by decide +kernel)
set_option maxRecDepth 20000 in
theorem gX1_init_X2_init : GoodIn wsX1_init (wsX2_init) := ggX1_init_X2_init
set_option maxRecDepth 20000 in
theorem ggX1_init_X4_init : GoodIn wsX1_init wsX4_init := goodIn_r _ [27, 28, 2, 3, 29, 30, 31, 42, 43, 44] (by decide +kernel) (by decide +kernel)
set_option maxRecDepth 20000 in
theorem gX1_init_X4_init : GoodIn wsX1_init (wsX4_init) := ggX1_init_X4_init
theorem dX1_init_0 : decode cX1_init 0 = .ok (.aload_n 0, 1) := by decide +kernel
theorem dX1_init_1 : decode cX1_init 1 = .ok (.invokespecial 3, 3) := by decide +kernel
theorem dX1_init_4 : decode cX1_init 4 = .ok (.aload_n 0, 1) := by decide +kernel
theorem dX1_init_5 : decode cX1_init 5 = .ok (.aload_n 1, 1) := by decide +kernel
theorem dX1_init_6 : decode cX1_init 6 = .ok (.putfield 9, 3) := by decide +kernel
theorem dX1_init_9 : decode cX1_init 9 = .ok (.aload_n 0, 1) := by decide +kernel
theorem dX1_init_10 : decode cX1_init 10 = .ok (.aload_n 2, 1) := by decide +kernel
theorem dX1_init_11 : decode cX1_init 11 = .ok (.putfield 15, 3) := by decide +kernel
theorem dX1_init_14 : decode cX1_init 14 = .ok (.aload_n 0, 1) := by decide +kernel
theorem dX1_init_15 : decode cX1_init 15 = .ok (.aload_n 3, 1) := by decide +kernel
theorem dX1_init_16 : decode cX1_init 16 = .ok (.putfield 18, 3) := by decide +kernel
theorem dX1_init_19 : decode cX1_init 19 = .ok (.aload_n 0, 1) := by decide +kernel
theorem dX1_init_20 : decode cX1_init 20 = .ok (.new 21, 3) := by decide +kernel
theorem dX1_init_23 : decode cX1_init 23 = .ok (.dup, 1) := by decide +kernel
theorem dX1_init_24 : decode cX1_init 24 = .ok (.bipush 20, 2) := by decide +kernel
theorem dX1_init_26 : decode cX1_init 26 = .ok (.invokespecial 23, 3) := by decide +kernel
theorem dX1_init_29 : decode cX1_init 29 = .ok (.putfield 26, 3) := by decide +kernel
theorem dX1_init_32 : decode cX1_init 32 = .ok (.aload_n 0, 1) := by decide +kernel
theorem dX1_init_33 : decode cX1_init 33 = .ok (.new 21, 3) := by decide +kernel
theorem dX1_init_36 : decode cX1_init 36 = .ok (.dup, 1) := by decide +kernel
theorem dX1_init_37 : decode cX1_init 37 = .ok (.bipush 20, 2) := by decide +kernel
theorem dX1_init_39 : decode cX1_init 39 = .ok (.invokespecial 23, 3) := by decide +kernel
theorem dX1_init_42 : decode cX1_init 42 = .ok (.putfield 29, 3) := by decide +kernel
theorem dX1_init_45 : decode cX1_init 45 = .ok (.aload_n 0, 1) := by decide +kernel
theorem dX1_init_46 : decode cX1_init 46 = .ok (.new 32, 3) := by decide +kernel
theorem dX1_init_49 : decode cX1_init 49 = .ok (.dup, 1) := by decide +kernel
theorem dX1_init_50 : decode cX1_init 50 = .ok (.aload_n 1, 1) := by decide +kernel
theorem dX1_init_51 : decode cX1_init 51 = .ok (.invokespecial 34, 3) := by decide +kernel
theorem dX1_init_54 : decode cX1_init 54 = .ok (.putfield 37, 3) := by decide +kernel
theorem dX1_init_57 : decode cX1_init 57 = .ok (.aload_n 0, 1) := by decide +kernel
theorem dX1_init_58 : decode cX1_init 58 = .ok (.new 32, 3) := by decide +kernel
theorem dX1_init_61 : decode cX1_init 61 = .ok (.dup, 1) := by decide +kernel
theorem dX1_init_62 : decode cX1_init 62 = .ok (.aload_n 2, 1) := by decide +kernel
theorem dX1_init_63 : decode cX1_init 63 = .ok (.invokespecial 34, 3) := by decide +kernel
theorem dX1_init_66 : decode cX1_init 66 = .ok (.putfield 41, 3) := by decide +kernel
theorem dX1_init_69 : decode cX1_init 69 = .ok (.aload_n 0, 1) := by decide +kernel
theorem dX1_init_70 : decode cX1_init 70 = .ok (.new 32, 3) := by decide +kernel
theorem dX1_init_73 : decode cX1_init 73 = .ok (.dup, 1) := by decide +kernel
theorem dX1_init_74 : decode cX1_init 74 = .ok (.aload_n 3, 1) := by decide +kernel
theorem dX1_init_75 : decode cX1_init 75 = .ok (.invokespecial 34, 3) := by decide +kernel
theorem dX1_init_78 : decode cX1_init 78 = .ok (.putfield 44, 3) := by decide +kernel
theorem dX1_init_81 : decode cX1_init 81 = .ok (.return_, 1) := by decide +kernel
set_option maxRecDepth 20000 in
theorem ggX1_mergeTo_X0_compare : GoodIn wsX1_mergeTo wsX0_compare := goodIn_r _ [13, 14, 15, 16, 17, 18, 19, 12, 20, 21, 22, 23, 24, 25, 26, 27, 28, 111, 112, 113, 109, 110] (by decide +kernel) (by decide +kernel)
set_option maxRecDepth 20000 in
theorem gX1_mergeTo_X0_compare : GoodIn wsX1_mergeTo (wsV RX1 47 RX0 yX0_compare wsX0_compare) := goodIn_app (goodIn_of _ (by decide +kernel)) ggX1_mergeTo_X0_compare
set_option maxRecDepth 20000 in
theorem ggX1_mergeTo_X0_pairTo : GoodIn wsX1_mergeTo wsX0_pairTo := goodIn_r _ [32, 14, 15, 33, 34, 35, 36, 37, 38, 39, 40, 41, 12, 42, 16, 25, 26, 27, 28, 43, 44, 45, 46, 47, 111, 112, 113, 109, 110] (by decide +kernel) (by decide +kernel)
set_option maxRecDepth 20000 in
theorem gX1_mergeTo_X0_pairTo : GoodIn wsX1_mergeTo (wsV RX1 53 RX0 yX0_pairTo wsX0_pairTo) := goodIn_app (goodIn_of _ (by decide +kernel)) ggX1_mergeTo_X0_pairTo
set_option maxRecDepth 20000 in
theorem ggX1_mergeTo_X4_begin : GoodIn wsX1_mergeTo wsX4_begin := goodIn_r _ [52, 53, 54, 114, 115, 116] (by decide +kernel) (by decide +kernel)
set_option maxRecDepth 20000 in
theorem gX1_mergeTo_X4_begin : GoodIn wsX1_mergeTo (wsV RX1 56 RX4 yX4_begin wsX4_begin) := goodIn_app (goodIn_of _ (by decide +kernel)) ggX1_mergeTo_X4_begin
set_option maxRecDepth 20000 in
theorem ggX1_mergeTo_X1_isStable : GoodIn wsX1_mergeTo wsX1_isStable := goodIn_r _ [59, 3, 5, 60, 61, 62, 36, 63, 38, 47, 101, 102, 103, 104, 105, 106, 107, 108, 109, 110] (by decide +kernel) (by decide +kernel)
set_option maxRecDepth 20000 in
theorem gX1_mergeTo_X1_isStable : GoodIn wsX1_mergeTo (wsV RX1 63 RX1 yX1_isStable wsX1_isStable) := goodIn_app (goodIn_of _ (by decide +kernel)) ggX1_mergeTo_X1_isStable
set_option maxRecDepth 20000 in
theorem ggX1_mergeTo_X2_at : GoodIn wsX1_mergeTo wsX2_at := goodIn_r _ [63, 38, 47, 109, 110] (by decide +kernel) (by decide +kernel)
set_option maxRecDepth 20000 in
theorem gX1_mergeTo_X2_at : GoodIn wsX1_mergeTo (wsV RX1 67 RX2 yX2_at wsX2_at) := goodIn_app (goodIn_of _ (by decide +kernel)) ggX1_mergeTo_X2_at
set_option maxRecDepth 20000 in
theorem ggX1_mergeTo_X1_endStretches : GoodIn wsX1_mergeTo wsX1_endStretches := goodIn_r _ [67, 6, 7, 8, 68, 69, 70, 51, 71, 54, 101, 102, 103, 104, 105, 106, 107, 108, 114, 115, 116] (by decide +kernel) (by decide +kernel)
set_option maxRecDepth 20000 in
theorem gX1_mergeTo_X1_endStretches : GoodIn wsX1_mergeTo (wsV RX1 71 RX1 yX1_endStretches wsX1_endStretches) := goodIn_app (goodIn_of _ (by decide +kernel)) ggX1_mergeTo_X1_endStretches
set_option maxRecDepth 20000 in
theorem ggX1_mergeTo_X1_mergeStretch : GoodIn wsX1_mergeTo wsX1_mergeStretch := goodIn_r _ [75, 7, 8, 6, 76, 77, 78, 51, 79, 54, 53, 80, 81, 61, 62, 36, 63, 38, 47, 82, 83, 84, 85, 86, 87, 88, 89, 90, 91, 44, 45, 46, 92, 101, 102, 103, 104, 105, 106, 107, 108, 114, 115, 116, 109, 110] (by decide +kernel) (by decide +kernel)
set_option maxRecDepth 20000 in
theorem gX1_mergeTo_X1_mergeStretch : GoodIn wsX1_mergeTo (wsV RX1 75 RX1 yX1_mergeStretch wsX1_mergeStretch) := goodIn_app (goodIn_of _ (by decide +kernel)) ggX1_mergeTo_X1_mergeStretch
set_option maxRecDepth 20000 in
theorem ggX1_mergeTo_X2_add : GoodIn wsX1_mergeTo wsX2_add := goodIn_r _ [46, 38, 47, 109, 110] (by decide +kernel) (by decide +kernel)
set_option maxRecDepth 20000 in
theorem gX1_mergeTo_X2_add : GoodIn wsX1_mergeTo (wsV RX1 79 RX2 yX2_add wsX2_add) := goodIn_app (goodIn_of _ (by decide +kernel)) ggX1_mergeTo_X2_add
set_option maxRecDepth 20000 in
theorem ggX1_mergeTo_X1_goOnBehindStable : GoodIn wsX1_mergeTo wsX1_goOnBehindStable := goodIn_r _ [96, 6, 7, 8, 97, 98, 99, 51, 100, 54, 53, 101, 102, 103, 104, 105, 106, 107, 108, 114, 115, 116] (by decide +kernel) (by decide +kernel)
set_option maxRecDepth 20000 in
theorem gX1_mergeTo_X1_goOnBehindStable : GoodIn wsX1_mergeTo (wsV RX1 82 RX1 yX1_goOnBehindStable wsX1_goOnBehindStable) := goodIn_app (goodIn_of _ (by decide +kernel)) ggX1_mergeTo_X1_goOnBehindStable
theorem dX1_mergeTo_0 : decode cX1_mergeTo 0 = .ok (.aload_n 2, 1) := by decide +kernel
theorem dX1_mergeTo_1 : decode cX1_mergeTo 1 = .ok (.aload_n 0, 1) := by decide +kernel
theorem dX1_mergeTo_2 : decode cX1_mergeTo 2 = .ok (.getfield 9, 3) := by decide +kernel
theorem dX1_mergeTo_5 : decode cX1_mergeTo 5 = .ok (.aload_n 0, 1) := by decide +kernel
theorem dX1_mergeTo_6 : decode cX1_mergeTo 6 = .ok (.getfield 15, 3) := by decide +kernel
theorem dX1_mergeTo_9 : decode cX1_mergeTo 9 = .ok (.invokevirtual 47, 3) := by decide +kernel
theorem dX1_mergeTo_12 : decode cX1_mergeTo 12 = .ok (.aload_n 2, 1) := by decide +kernel
theorem dX1_mergeTo_13 : decode cX1_mergeTo 13 = .ok (.aload_n 0, 1) := by decide +kernel
theorem dX1_mergeTo_14 : decode cX1_mergeTo 14 = .ok (.getfield 26, 3) := by decide +kernel
theorem dX1_mergeTo_17 : decode cX1_mergeTo 17 = .ok (.invokevirtual 53, 3) := by decide +kernel
theorem dX1_mergeTo_20 : decode cX1_mergeTo 20 = .ok (.aload_n 2, 1) := by decide +kernel
theorem dX1_mergeTo_21 : decode cX1_mergeTo 21 = .ok (.aload_n 0, 1) := by decide +kernel
theorem dX1_mergeTo_22 : decode cX1_mergeTo 22 = .ok (.getfield 9, 3) := by decide +kernel
theorem dX1_mergeTo_25 : decode cX1_mergeTo 25 = .ok (.aload_n 0, 1) := by decide +kernel
theorem dX1_mergeTo_26 : decode cX1_mergeTo 26 = .ok (.getfield 18, 3) := by decide +kernel
theorem dX1_mergeTo_29 : decode cX1_mergeTo 29 = .ok (.invokevirtual 47, 3) := by decide +kernel
theorem dX1_mergeTo_32 : decode cX1_mergeTo 32 = .ok (.aload_n 2, 1) := by decide +kernel
theorem dX1_mergeTo_33 : decode cX1_mergeTo 33 = .ok (.aload_n 0, 1) := by decide +kernel
theorem dX1_mergeTo_34 : decode cX1_mergeTo 34 = .ok (.getfield 29, 3) := by decide +kernel
theorem dX1_mergeTo_37 : decode cX1_mergeTo 37 = .ok (.invokevirtual 53, 3) := by decide +kernel
theorem dX1_mergeTo_40 : decode cX1_mergeTo 40 = .ok (.aload_n 0, 1) := by decide +kernel
theorem dX1_mergeTo_41 : decode cX1_mergeTo 41 = .ok (.getfield 37, 3) := by decide +kernel
theorem dX1_mergeTo_44 : decode cX1_mergeTo 44 = .ok (.invokevirtual 56, 3) := by decide +kernel
theorem dX1_mergeTo_47 : decode cX1_mergeTo 47 = .ok (.aload_n 0, 1) := by decide +kernel
theorem dX1_mergeTo_48 : decode cX1_mergeTo 48 = .ok (.getfield 41, 3) := by decide +kernel
theorem dX1_mergeTo_51 : decode cX1_mergeTo 51 = .ok (.invokevirtual 56, 3) := by decide +kernel
theorem dX1_mergeTo_54 : decode cX1_mergeTo 54 = .ok (.aload_n 0, 1) := by decide +kernel
theorem dX1_mergeTo_55 : decode cX1_mergeTo 55 = .ok (.getfield 44, 3) := by decide +kernel
theorem dX1_mergeTo_58 : decode cX1_mergeTo 58 = .ok (.invokevirtual 56, 3) := by decide +kernel
theorem dX1_mergeTo_61 : decode cX1_mergeTo 61 = .ok (.iconst 0, 1) := by decide +kernel
theorem dX1_mergeTo_62 : decode cX1_mergeTo 62 = .ok (.istore_n 3, 1) := by decide +kernel
theorem dX1_mergeTo_63 : decode cX1_mergeTo 63 = .ok (.iconst 0, 1) := by decide +kernel
theorem dX1_mergeTo_64 : decode cX1_mergeTo 64 = .ok (.istore 4, 2) := by decide +kernel
theorem dX1_mergeTo_66 : decode cX1_mergeTo 66 = .ok (.iload 4, 2) := by decide +kernel
theorem dX1_mergeTo_68 : decode cX1_mergeTo 68 = .ok (.aload_n 0, 1) := by decide +kernel
theorem dX1_mergeTo_69 : decode cX1_mergeTo 69 = .ok (.getfield 9, 3) := by decide +kernel
theorem dX1_mergeTo_72 : decode cX1_mergeTo 72 = .ok (.getfield 59, 3) := by decide +kernel
theorem dX1_mergeTo_75 : decode cX1_mergeTo 75 = .ok (.if_icmp .ge 71, 3) := by decide +kernel
theorem dX1_mergeTo_78 : decode cX1_mergeTo 78 = .ok (.aload_n 0, 1) := by decide +kernel
theorem dX1_mergeTo_79 : decode cX1_mergeTo 79 = .ok (.iload 4, 2) := by decide +kernel
theorem dX1_mergeTo_81 : decode cX1_mergeTo 81 = .ok (.invokevirtual 63, 3) := by decide +kernel
theorem dX1_mergeTo_84 : decode cX1_mergeTo 84 = .ok (.ifCond .eq 56, 3) := by decide +kernel
theorem dX1_mergeTo_87 : decode cX1_mergeTo 87 = .ok (.aload_n 0, 1) := by decide +kernel
theorem dX1_mergeTo_88 : decode cX1_mergeTo 88 = .ok (.iload 4, 2) := by decide +kernel
theorem dX1_mergeTo_90 : decode cX1_mergeTo 90 = .ok (.aload_n 0, 1) := by decide +kernel
theorem dX1_mergeTo_91 : decode cX1_mergeTo 91 = .ok (.getfield 26, 3) := by decide +kernel
theorem dX1_mergeTo_94 : decode cX1_mergeTo 94 = .ok (.iload 4, 2) := by decide +kernel
theorem dX1_mergeTo_96 : decode cX1_mergeTo 96 = .ok (.iconst (-1), 1) := by decide +kernel
theorem dX1_mergeTo_97 : decode cX1_mergeTo 97 = .ok (.invokevirtual 67, 3) := by decide +kernel
theorem dX1_mergeTo_100 : decode cX1_mergeTo 100 = .ok (.aload_n 0, 1) := by decide +kernel
theorem dX1_mergeTo_101 : decode cX1_mergeTo 101 = .ok (.getfield 29, 3) := by decide +kernel
theorem dX1_mergeTo_104 : decode cX1_mergeTo 104 = .ok (.iload 4, 2) := by decide +kernel
theorem dX1_mergeTo_106 : decode cX1_mergeTo 106 = .ok (.iconst (-1), 1) := by decide +kernel
theorem dX1_mergeTo_107 : decode cX1_mergeTo 107 = .ok (.invokevirtual 67, 3) := by decide +kernel
theorem dX1_mergeTo_110 : decode cX1_mergeTo 110 = .ok (.invokevirtual 71, 3) := by decide +kernel
theorem dX1_mergeTo_113 : decode cX1_mergeTo 113 = .ok (.iload_n 3, 1) := by decide +kernel
theorem dX1_mergeTo_114 : decode cX1_mergeTo 114 = .ok (.aload_n 0, 1) := by decide +kernel
theorem dX1_mergeTo_115 : decode cX1_mergeTo 115 = .ok (.aload_n 1, 1) := by decide +kernel
theorem dX1_mergeTo_116 : decode cX1_mergeTo 116 = .ok (.invokevirtual 75, 3) := by decide +kernel
theorem dX1_mergeTo_119 : decode cX1_mergeTo 119 = .ok (.iadd, 1) := by decide +kernel
theorem dX1_mergeTo_120 : decode cX1_mergeTo 120 = .ok (.istore_n 3, 1) := by decide +kernel
theorem dX1_mergeTo_121 : decode cX1_mergeTo 121 = .ok (.aload_n 1, 1) := by decide +kernel
theorem dX1_mergeTo_122 : decode cX1_mergeTo 122 = .ok (.aload_n 0, 1) := by decide +kernel
theorem dX1_mergeTo_123 : decode cX1_mergeTo 123 = .ok (.getfield 9, 3) := by decide +kernel
theorem dX1_mergeTo_126 : decode cX1_mergeTo 126 = .ok (.iload 4, 2) := by decide +kernel
theorem dX1_mergeTo_128 : decode cX1_mergeTo 128 = .ok (.iconst (-1), 1) := by decide +kernel
theorem dX1_mergeTo_129 : decode cX1_mergeTo 129 = .ok (.invokevirtual 67, 3) := by decide +kernel
theorem dX1_mergeTo_132 : decode cX1_mergeTo 132 = .ok (.invokevirtual 79, 3) := by decide +kernel
theorem dX1_mergeTo_135 : decode cX1_mergeTo 135 = .ok (.pop, 1) := by decide +kernel
theorem dX1_mergeTo_136 : decode cX1_mergeTo 136 = .ok (.aload_n 0, 1) := by decide +kernel
theorem dX1_mergeTo_137 : decode cX1_mergeTo 137 = .ok (.invokevirtual 82, 3) := by decide +kernel
theorem dX1_mergeTo_140 : decode cX1_mergeTo 140 = .ok (.iinc 4 1, 3) := by decide +kernel
theorem dX1_mergeTo_143 : decode cX1_mergeTo 143 = .ok (.goto (-77), 3) := by decide +kernel
theorem dX1_mergeTo_146 : decode cX1_mergeTo 146 = .ok (.aload_n 0, 1) := by decide +kernel
theorem dX1_mergeTo_147 : decode cX1_mergeTo 147 = .ok (.aload_n 0, 1) := by decide +kernel
theorem dX1_mergeTo_148 : decode cX1_mergeTo 148 = .ok (.getfield 9, 3) := by decide +kernel
theorem dX1_mergeTo_151 : decode cX1_mergeTo 151 = .ok (.getfield 59, 3) := by decide +kernel
theorem dX1_mergeTo_154 : decode cX1_mergeTo 154 = .ok (.aload_n 0, 1) := by decide +kernel
theorem dX1_mergeTo_155 : decode cX1_mergeTo 155 = .ok (.getfield 15, 3) := by decide +kernel
theorem dX1_mergeTo_158 : decode cX1_mergeTo 158 = .ok (.getfield 59, 3) := by decide +kernel
theorem dX1_mergeTo_161 : decode cX1_mergeTo 161 = .ok (.aload_n 0, 1) := by decide +kernel
theorem dX1_mergeTo_162 : decode cX1_mergeTo 162 = .ok (.getfield 18, 3) := by decide +kernel
theorem dX1_mergeTo_165 : decode cX1_mergeTo 165 = .ok (.getfield 59, 3) := by decide +kernel
theorem dX1_mergeTo_168 : decode cX1_mergeTo 168 = .ok (.invokevirtual 71, 3) := by decide +kernel
theorem dX1_mergeTo_171 : decode cX1_mergeTo 171 = .ok (.iload_n 3, 1) := by decide +kernel
theorem dX1_mergeTo_172 : decode cX1_mergeTo 172 = .ok (.aload_n 0, 1) := by decide +kernel
theorem dX1_mergeTo_173 : decode cX1_mergeTo 173 = .ok (.aload_n 1, 1) := by decide +kernel
theorem dX1_mergeTo_174 : decode cX1_mergeTo 174 = .ok (.invokevirtual 75, 3) := by decide +kernel
theorem dX1_mergeTo_177 : decode cX1_mergeTo 177 = .ok (.iadd, 1) := by decide +kernel
theorem dX1_mergeTo_178 : decode cX1_mergeTo 178 = .ok (.ireturn, 1) := by decide +kernel
end
section
set_option maxRecDepth 20000 in
theorem ggX1_isStable_X2_at : GoodIn wsX1_isStable wsX2_at := goodIn_r _ [7, 8, 9, 18, 19] (by decide +kernel) (by decide +kernel)
set_option maxRecDepth 20000 in
theorem gX1_isStable_X2_at : GoodIn wsX1_isStable (wsV RX1 67 RX2 yX2_at wsX2_at) := goodIn_app (goodIn_of _ (by decide +kernel)) ggX1_isStable_X2_at
theorem dX1_isStable_0 : decode cX1_isStable 0 = .ok (.aload_n 0, 1) := by decide +kernel
theorem dX1_isStable_1 : decode cX1_isStable 1 = .ok (.getfield 26, 3) := by decide +kernel
theorem dX1_isStable_4 : decode cX1_isStable 4 = .ok (.iload_n 1, 1) := by decide +kernel
theorem dX1_isStable_5 : decode cX1_isStable 5 = .ok (.iconst (-1), 1) := by decide +kernel
theorem dX1_isStable_6 : decode cX1_isStable 6 = .ok (.invokevirtual 67, 3) := by decide +kernel
theorem dX1_isStable_9 : decode cX1_isStable 9 = .ok (.iconst (-1), 1) := by decide +kernel
theorem dX1_isStable_10 : decode cX1_isStable 10 = .ok (.if_icmp .eq 20, 3) := by decide +kernel
theorem dX1_isStable_13 : decode cX1_isStable 13 = .ok (.aload_n 0, 1) := by decide +kernel
theorem dX1_isStable_14 : decode cX1_isStable 14 = .ok (.getfield 29, 3) := by decide +kernel
theorem dX1_isStable_17 : decode cX1_isStable 17 = .ok (.iload_n 1, 1) := by decide +kernel
theorem dX1_isStable_18 : decode cX1_isStable 18 = .ok (.iconst (-1), 1) := by decide +kernel
theorem dX1_isStable_19 : decode cX1_isStable 19 = .ok (.invokevirtual 67, 3) := by decide +kernel
theorem dX1_isStable_22 : decode cX1_isStable 22 = .ok (.iconst (-1), 1) := by decide +kernel
theorem dX1_isStable_23 : decode cX1_isStable 23 = .ok (.if_icmp .eq 7, 3) := by decide +kernel
theorem dX1_isStable_26 : decode cX1_isStable 26 = .ok (.iconst 1, 1) := by decide +kernel
theorem dX1_isStable_27 : decode cX1_isStable 27 = .ok (.goto 4, 3) := by decide +kernel
theorem dX1_isStable_30 : decode cX1_isStable 30 = .ok (.iconst 0, 1) := by decide +kernel
theorem dX1_isStable_31 : decode cX1_isStable 31 = .ok (.ireturn, 1) := by decide +kernel
set_option maxRecDepth 20000 in
theorem ggX1_endStretches_X4_endBefore : GoodIn wsX1_endStretches wsX4_endBefore := goodIn_r _ [8, 9, 18, 19, 20] (by decide +kernel) (by decide +kernel)
set_option maxRecDepth 20000 in
theorem gX1_endStretches_X4_endBefore : GoodIn wsX1_endStretches (wsV RX1 85 RX4 yX4_endBefore wsX4_endBefore) := goodIn_app (goodIn_of _ (by decide +kernel)) ggX1_endStretches_X4_endBefore
theorem dX1_endStretches_0 : decode cX1_endStretches 0 = .ok (.aload_n 0, 1) := by decide +kernel
theorem dX1_endStretches_1 : decode cX1_endStretches 1 = .ok (.getfield 37, 3) := by decide +kernel
theorem dX1_endStretches_4 : decode cX1_endStretches 4 = .ok (.iload_n 1, 1) := by decide +kernel
theorem dX1_endStretches_5 : decode cX1_endStretches 5 = .ok (.invokevirtual 85, 3) := by decide +kernel
theorem dX1_endStretches_8 : decode cX1_endStretches 8 = .ok (.aload_n 0, 1) := by decide +kernel
theorem dX1_endStretches_9 : decode cX1_endStretches 9 = .ok (.getfield 41, 3) := by decide +kernel
theorem dX1_endStretches_12 : decode cX1_endStretches 12 = .ok (.iload_n 2, 1) := by decide +kernel
theorem dX1_endStretches_13 : decode cX1_endStretches 13 = .ok (.invokevirtual 85, 3) := by decide +kernel
theorem dX1_endStretches_16 : decode cX1_endStretches 16 = .ok (.aload_n 0, 1) := by decide +kernel
theorem dX1_endStretches_17 : decode cX1_endStretches 17 = .ok (.getfield 44, 3) := by decide +kernel
theorem dX1_endStretches_20 : decode cX1_endStretches 20 = .ok (.iload_n 3, 1) := by decide +kernel
theorem dX1_endStretches_21 : decode cX1_endStretches 21 = .ok (.invokevirtual 85, 3) := by decide +kernel
theorem dX1_endStretches_24 : decode cX1_endStretches 24 = .ok (.return_, 1) := by decide +kernel
set_option maxRecDepth 20000 in
theorem ggX1_goOnBehindStable_X4_goOnBehindStable : GoodIn wsX1_goOnBehindStable wsX4_goOnBehindStable := goodIn_r _ [8, 9, 10, 19, 20, 21] (by decide +kernel) (by decide +kernel)
set_option maxRecDepth 20000 in
theorem gX1_goOnBehindStable_X4_goOnBehindStable : GoodIn wsX1_goOnBehindStable (wsV RX1 88 RX4 yX4_goOnBehindStable wsX4_goOnBehindStable) := goodIn_app (goodIn_of _ (by decide +kernel)) ggX1_goOnBehindStable_X4_goOnBehindStable
theorem dX1_goOnBehindStable_0 : decode cX1_goOnBehindStable 0 = .ok (.aload_n 0, 1) := by decide +kernel
theorem dX1_goOnBehindStable_1 : decode cX1_goOnBehindStable 1 = .ok (.getfield 37, 3) := by decide +kernel
theorem dX1_goOnBehindStable_4 : decode cX1_goOnBehindStable 4 = .ok (.invokevirtual 88, 3) := by decide +kernel
theorem dX1_goOnBehindStable_7 : decode cX1_goOnBehindStable 7 = .ok (.aload_n 0, 1) := by decide +kernel
theorem dX1_goOnBehindStable_8 : decode cX1_goOnBehindStable 8 = .ok (.getfield 41, 3) := by decide +kernel
theorem dX1_goOnBehindStable_11 : decode cX1_goOnBehindStable 11 = .ok (.invokevirtual 88, 3) := by decide +kernel
theorem dX1_goOnBehindStable_14 : decode cX1_goOnBehindStable 14 = .ok (.aload_n 0, 1) := by decide +kernel
theorem dX1_goOnBehindStable_15 : decode cX1_goOnBehindStable 15 = .ok (.getfield 44, 3) := by decide +kernel
theorem dX1_goOnBehindStable_18 : decode cX1_goOnBehindStable 18 = .ok (.invokevirtual 88, 3) := by decide +kernel
theorem dX1_goOnBehindStable_21 : decode cX1_goOnBehindStable 21 = .ok (.return_, 1) := by decide +kernel
set_option maxRecDepth 20000 in
theorem ggX1_mergeStretch_X4_isSameAs : GoodIn wsX1_mergeStretch wsX4_isSameAs := goodIn_r _ [8, 9, 10, 11, 12, 13, 14, 15, 16, 17, 18, 41, 42, 43, 44, 45] (by decide +kernel) (by decide +kernel)
set_option maxRecDepth 20000 in
theorem gX1_mergeStretch_X4_isSameAs : GoodIn wsX1_mergeStretch (wsV RX1 89 RX4 yX4_isSameAs wsX4_isSameAs) := goodIn_app (goodIn_of _ (by decide +kernel)) ggX1_mergeStretch_X4_isSameAs
set_option maxRecDepth 20000 in
theorem ggX1_mergeStretch_X4_addTo : GoodIn wsX1_mergeStretch wsX4_addTo := goodIn_r _ [22, 11, 10, 9, 23, 24, 25, 15, 26, 27, 13, 14, 16, 17, 18, 28, 29, 30, 31, 41, 42, 43, 44, 45] (by decide +kernel) (by decide +kernel)
set_option maxRecDepth 20000 in
theorem gX1_mergeStretch_X4_addTo : GoodIn wsX1_mergeStretch (wsV RX1 93 RX4 yX4_addTo wsX4_addTo) := goodIn_app (goodIn_of _ (by decide +kernel)) ggX1_mergeStretch_X4_addTo
set_option maxRecDepth 20000 in
theorem ggX1_mergeStretch_X2_add : GoodIn wsX1_mergeStretch wsX2_add := goodIn_r _ [31, 17, 18, 44, 45] (by decide +kernel) (by decide +kernel)
set_option maxRecDepth 20000 in
theorem gX1_mergeStretch_X2_add : GoodIn wsX1_mergeStretch (wsV RX1 79 RX2 yX2_add wsX2_add) := goodIn_app (goodIn_of _ (by decide +kernel)) ggX1_mergeStretch_X2_add
theorem dX1_mergeStretch_0 : decode cX1_mergeStretch 0 = .ok (.aload_n 0, 1) := by decide +kernel
theorem dX1_mergeStretch_1 : decode cX1_mergeStretch 1 = .ok (.getfield 41, 3) := by decide +kernel
theorem dX1_mergeStretch_4 : decode cX1_mergeStretch 4 = .ok (.aload_n 0, 1) := by decide +kernel
theorem dX1_mergeStretch_5 : decode cX1_mergeStretch 5 = .ok (.getfield 44, 3) := by decide +kernel
theorem dX1_mergeStretch_8 : decode cX1_mergeStretch 8 = .ok (.invokevirtual 89, 3) := by decide +kernel
theorem dX1_mergeStretch_11 : decode cX1_mergeStretch 11 = .ok (.ifCond .ne 17, 3) := by decide +kernel
theorem dX1_mergeStretch_14 : decode cX1_mergeStretch 14 = .ok (.aload_n 0, 1) := by decide +kernel
theorem dX1_mergeStretch_15 : decode cX1_mergeStretch 15 = .ok (.getfield 44, 3) := by decide +kernel
theorem dX1_mergeStretch_18 : decode cX1_mergeStretch 18 = .ok (.aload_n 0, 1) := by decide +kernel
theorem dX1_mergeStretch_19 : decode cX1_mergeStretch 19 = .ok (.getfield 37, 3) := by decide +kernel
theorem dX1_mergeStretch_22 : decode cX1_mergeStretch 22 = .ok (.invokevirtual 89, 3) := by decide +kernel
theorem dX1_mergeStretch_25 : decode cX1_mergeStretch 25 = .ok (.ifCond .eq 13, 3) := by decide +kernel
theorem dX1_mergeStretch_28 : decode cX1_mergeStretch 28 = .ok (.aload_n 0, 1) := by decide +kernel
theorem dX1_mergeStretch_29 : decode cX1_mergeStretch 29 = .ok (.getfield 41, 3) := by decide +kernel
theorem dX1_mergeStretch_32 : decode cX1_mergeStretch 32 = .ok (.aload_n 1, 1) := by decide +kernel
theorem dX1_mergeStretch_33 : decode cX1_mergeStretch 33 = .ok (.invokevirtual 93, 3) := by decide +kernel
theorem dX1_mergeStretch_36 : decode cX1_mergeStretch 36 = .ok (.iconst 0, 1) := by decide +kernel
theorem dX1_mergeStretch_37 : decode cX1_mergeStretch 37 = .ok (.ireturn, 1) := by decide +kernel
theorem dX1_mergeStretch_38 : decode cX1_mergeStretch 38 = .ok (.aload_n 0, 1) := by decide +kernel
theorem dX1_mergeStretch_39 : decode cX1_mergeStretch 39 = .ok (.getfield 41, 3) := by decide +kernel
theorem dX1_mergeStretch_42 : decode cX1_mergeStretch 42 = .ok (.aload_n 0, 1) := by decide +kernel
theorem dX1_mergeStretch_43 : decode cX1_mergeStretch 43 = .ok (.getfield 37, 3) := by decide +kernel
theorem dX1_mergeStretch_46 : decode cX1_mergeStretch 46 = .ok (.invokevirtual 89, 3) := by decide +kernel
theorem dX1_mergeStretch_49 : decode cX1_mergeStretch 49 = .ok (.ifCond .eq 13, 3) := by decide +kernel
theorem dX1_mergeStretch_52 : decode cX1_mergeStretch 52 = .ok (.aload_n 0, 1) := by decide +kernel
theorem dX1_mergeStretch_53 : decode cX1_mergeStretch 53 = .ok (.getfield 44, 3) := by decide +kernel
theorem dX1_mergeStretch_56 : decode cX1_mergeStretch 56 = .ok (.aload_n 1, 1) := by decide +kernel
theorem dX1_mergeStretch_57 : decode cX1_mergeStretch 57 = .ok (.invokevirtual 93, 3) := by decide +kernel
theorem dX1_mergeStretch_60 : decode cX1_mergeStretch 60 = .ok (.iconst 0, 1) := by decide +kernel
theorem dX1_mergeStretch_61 : decode cX1_mergeStretch 61 = .ok (.ireturn, 1) := by decide +kernel
theorem dX1_mergeStretch_62 : decode cX1_mergeStretch 62 = .ok (.aload_n 1, 1) := by decide +kernel
theorem dX1_mergeStretch_63 : decode cX1_mergeStretch 63 = .ok (.iconst (-1), 1) := by decide +kernel
theorem dX1_mergeStretch_64 : decode cX1_mergeStretch 64 = .ok (.invokevirtual 79, 3) := by decide +kernel
theorem dX1_mergeStretch_67 : decode cX1_mergeStretch 67 = .ok (.pop, 1) := by decide +kernel
theorem dX1_mergeStretch_68 : decode cX1_mergeStretch 68 = .ok (.aload_n 0, 1) := by decide +kernel
theorem dX1_mergeStretch_69 : decode cX1_mergeStretch 69 = .ok (.getfield 41, 3) := by decide +kernel
theorem dX1_mergeStretch_72 : decode cX1_mergeStretch 72 = .ok (.aload_n 1, 1) := by decide +kernel
theorem dX1_mergeStretch_73 : decode cX1_mergeStretch 73 = .ok (.invokevirtual 93, 3) := by decide +kernel
theorem dX1_mergeStretch_76 : decode cX1_mergeStretch 76 = .ok (.aload_n 1, 1) := by decide +kernel
theorem dX1_mergeStretch_77 : decode cX1_mergeStretch 77 = .ok (.bipush (-2), 2) := by decide +kernel
theorem dX1_mergeStretch_79 : decode cX1_mergeStretch 79 = .ok (.invokevirtual 79, 3) := by decide +kernel
theorem dX1_mergeStretch_82 : decode cX1_mergeStretch 82 = .ok (.pop, 1) := by decide +kernel
theorem dX1_mergeStretch_83 : decode cX1_mergeStretch 83 = .ok (.aload_n 0, 1) := by decide +kernel
theorem dX1_mergeStretch_84 : decode cX1_mergeStretch 84 = .ok (.getfield 44, 3) := by decide +kernel
theorem dX1_mergeStretch_87 : decode cX1_mergeStretch 87 = .ok (.aload_n 1, 1) := by decide +kernel
theorem dX1_mergeStretch_88 : decode cX1_mergeStretch 88 = .ok (.invokevirtual 93, 3) := by decide +kernel
theorem dX1_mergeStretch_91 : decode cX1_mergeStretch 91 = .ok (.aload_n 1, 1) := by decide +kernel
theorem dX1_mergeStretch_92 : decode cX1_mergeStretch 92 = .ok (.bipush (-3), 2) := by decide +kernel
theorem dX1_mergeStretch_94 : decode cX1_mergeStretch 94 = .ok (.invokevirtual 79, 3) := by decide +kernel
theorem dX1_mergeStretch_97 : decode cX1_mergeStretch 97 = .ok (.pop, 1) := by decide +kernel
theorem dX1_mergeStretch_98 : decode cX1_mergeStretch 98 = .ok (.iconst 1, 1) := by decide +kernel
theorem dX1_mergeStretch_99 : decode cX1_mergeStretch 99 = .ok (.ireturn, 1) := by decide +kernel
theorem dX2_init_0 : decode cX2_init 0 = .ok (.aload_n 0, 1) := by decide +kernel
theorem dX2_init_1 : decode cX2_init 1 = .ok (.invokespecial 3, 3) := by decide +kernel
theorem dX2_init_4 : decode cX2_init 4 = .ok (.aload_n 0, 1) := by decide +kernel
theorem dX2_init_5 : decode cX2_init 5 = .ok (.iload_n 1, 1) := by decide +kernel
theorem dX2_init_6 : decode cX2_init 6 = .ok (.newarray .int, 2) := by decide +kernel
theorem dX2_init_8 : decode cX2_init 8 = .ok (.putfield 9, 3) := by decide +kernel
theorem dX2_init_11 : decode cX2_init 11 = .ok (.aload_n 0, 1) := by decide +kernel
theorem dX2_init_12 : decode cX2_init 12 = .ok (.iconst 0, 1) := by decide +kernel
theorem dX2_init_13 : decode cX2_init 13 = .ok (.putfield 15, 3) := by decide +kernel
theorem dX2_init_16 : decode cX2_init 16 = .ok (.return_, 1) := by decide +kernel
theorem dX2_empty_0 : decode cX2_empty 0 = .ok (.aload_n 0, 1) := by decide +kernel
theorem dX2_empty_1 : decode cX2_empty 1 = .ok (.iconst 0, 1) := by decide +kernel
theorem dX2_empty_2 : decode cX2_empty 2 = .ok (.putfield 15, 3) := by decide +kernel
theorem dX2_empty_5 : decode cX2_empty 5 = .ok (.return_, 1) := by decide +kernel
theorem dX2_add_0 : decode cX2_add 0 = .ok (.aload_n 0, 1) := by decide +kernel
theorem dX2_add_1 : decode cX2_add 1 = .ok (.getfield 15, 3) := by decide +kernel
theorem dX2_add_4 : decode cX2_add 4 = .ok (.aload_n 0, 1) := by decide +kernel
theorem dX2_add_5 : decode cX2_add 5 = .ok (.getfield 9, 3) := by decide +kernel
theorem dX2_add_8 : decode cX2_add 8 = .ok (.arraylength, 1) := by decide +kernel
theorem dX2_add_9 : decode cX2_add 9 = .ok (.if_icmp .lt 5, 3) := by decide +kernel
theorem dX2_add_12 : decode cX2_add 12 = .ok (.iconst 0, 1) := by decide +kernel
theorem dX2_add_13 : decode cX2_add 13 = .ok (.ireturn, 1) := by decide +kernel
theorem dX2_add_14 : decode cX2_add 14 = .ok (.aload_n 0, 1) := by decide +kernel
theorem dX2_add_15 : decode cX2_add 15 = .ok (.getfield 9, 3) := by decide +kernel
theorem dX2_add_18 : decode cX2_add 18 = .ok (.aload_n 0, 1) := by decide +kernel
theorem dX2_add_19 : decode cX2_add 19 = .ok (.getfield 15, 3) := by decide +kernel
theorem dX2_add_22 : decode cX2_add 22 = .ok (.iload_n 1, 1) := by decide +kernel
theorem dX2_add_23 : decode cX2_add 23 = .ok (.iastore, 1) := by decide +kernel
theorem dX2_add_24 : decode cX2_add 24 = .ok (.aload_n 0, 1) := by decide +kernel
theorem dX2_add_25 : decode cX2_add 25 = .ok (.dup, 1) := by decide +kernel
theorem dX2_add_26 : decode cX2_add 26 = .ok (.getfield 15, 3) := by decide +kernel
theorem dX2_add_29 : decode cX2_add 29 = .ok (.iconst 1, 1) := by decide +kernel
theorem dX2_add_30 : decode cX2_add 30 = .ok (.iadd, 1) := by decide +kernel
theorem dX2_add_31 : decode cX2_add 31 = .ok (.putfield 15, 3) := by decide +kernel
theorem dX2_add_34 : decode cX2_add 34 = .ok (.iconst 1, 1) := by decide +kernel
theorem dX2_add_35 : decode cX2_add 35 = .ok (.ireturn, 1) := by decide +kernel
set_option maxRecDepth 20000 in
theorem ggX2_addAll_X2_at : GoodIn wsX2_addAll wsX2_at := goodIn_r _ [5, 6, 7, 12, 13] (by decide +kernel) (by decide +kernel)
set_option maxRecDepth 20000 in
theorem gX2_addAll_X2_at : GoodIn wsX2_addAll (wsV RX2 19 RX2 yX2_at wsX2_at) := goodIn_app (goodIn_of _ (by decide +kernel)) ggX2_addAll_X2_at
set_option maxRecDepth 20000 in
theorem ggX2_addAll_X2_add : GoodIn wsX2_addAll wsX2_add := goodIn_r _ [11, 6, 7, 12, 13] (by decide +kernel) (by decide +kernel)
set_option maxRecDepth 20000 in
theorem gX2_addAll_X2_add : GoodIn wsX2_addAll (wsV RX2 23 RX2 yX2_add wsX2_add) := goodIn_app (goodIn_of _ (by decide +kernel)) ggX2_addAll_X2_add
theorem dX2_addAll_0 : decode cX2_addAll 0 = .ok (.iload_n 2, 1) := by decide +kernel
theorem dX2_addAll_1 : decode cX2_addAll 1 = .ok (.istore 4, 2) := by decide +kernel
theorem dX2_addAll_3 : decode cX2_addAll 3 = .ok (.iload 4, 2) := by decide +kernel
theorem dX2_addAll_5 : decode cX2_addAll 5 = .ok (.iload_n 3, 1) := by decide +kernel
theorem dX2_addAll_6 : decode cX2_addAll 6 = .ok (.if_icmp .ge 21, 3) := by decide +kernel
theorem dX2_addAll_9 : decode cX2_addAll 9 = .ok (.aload_n 0, 1) := by decide +kernel
theorem dX2_addAll_10 : decode cX2_addAll 10 = .ok (.aload_n 1, 1) := by decide +kernel
theorem dX2_addAll_11 : decode cX2_addAll 11 = .ok (.iload 4, 2) := by decide +kernel
theorem dX2_addAll_13 : decode cX2_addAll 13 = .ok (.iconst (-1), 1) := by decide +kernel
theorem dX2_addAll_14 : decode cX2_addAll 14 = .ok (.invokevirtual 19, 3) := by decide +kernel
theorem dX2_addAll_17 : decode cX2_addAll 17 = .ok (.invokevirtual 23, 3) := by decide +kernel
theorem dX2_addAll_20 : decode cX2_addAll 20 = .ok (.pop, 1) := by decide +kernel
theorem dX2_addAll_21 : decode cX2_addAll 21 = .ok (.iinc 4 1, 3) := by decide +kernel
theorem dX2_addAll_24 : decode cX2_addAll 24 = .ok (.goto (-21), 3) := by decide +kernel
theorem dX2_addAll_27 : decode cX2_addAll 27 = .ok (.return_, 1) := by decide +kernel
theorem dX2_at_0 : decode cX2_at 0 = .ok (.iload_n 1, 1) := by decide +kernel
theorem dX2_at_1 : decode cX2_at 1 = .ok (.ifCond .lt 20, 3) := by decide +kernel
theorem dX2_at_4 : decode cX2_at 4 = .ok (.iload_n 1, 1) := by decide +kernel
theorem dX2_at_5 : decode cX2_at 5 = .ok (.aload_n 0, 1) := by decide +kernel
theorem dX2_at_6 : decode cX2_at 6 = .ok (.getfield 15, 3) := by decide +kernel
theorem dX2_at_9 : decode cX2_at 9 = .ok (.if_icmp .ge 12, 3) := by decide +kernel
theorem dX2_at_12 : decode cX2_at 12 = .ok (.aload_n 0, 1) := by decide +kernel
theorem dX2_at_13 : decode cX2_at 13 = .ok (.getfield 9, 3) := by decide +kernel
theorem dX2_at_16 : decode cX2_at 16 = .ok (.iload_n 1, 1) := by decide +kernel
theorem dX2_at_17 : decode cX2_at 17 = .ok (.iaload, 1) := by decide +kernel
theorem dX2_at_18 : decode cX2_at 18 = .ok (.goto 4, 3) := by decide +kernel
theorem dX2_at_21 : decode cX2_at 21 = .ok (.iload_n 2, 1) := by decide +kernel
theorem dX2_at_22 : decode cX2_at 22 = .ok (.ireturn, 1) := by decide +kernel
theorem dX3_init_0 : decode cX3_init 0 = .ok (.aload_n 0, 1) := by decide +kernel
theorem dX3_init_1 : decode cX3_init 1 = .ok (.invokespecial 3, 3) := by decide +kernel
theorem dX3_init_4 : decode cX3_init 4 = .ok (.aload_n 0, 1) := by decide +kernel
theorem dX3_init_5 : decode cX3_init 5 = .ok (.bipush 60, 2) := by decide +kernel
theorem dX3_init_7 : decode cX3_init 7 = .ok (.newarray .int, 2) := by decide +kernel
theorem dX3_init_9 : decode cX3_init 9 = .ok (.putfield 9, 3) := by decide +kernel
theorem dX3_init_12 : decode cX3_init 12 = .ok (.aload_n 0, 1) := by decide +kernel
theorem dX3_init_13 : decode cX3_init 13 = .ok (.bipush 60, 2) := by decide +kernel
theorem dX3_init_15 : decode cX3_init 15 = .ok (.newarray .int, 2) := by decide +kernel
theorem dX3_init_17 : decode cX3_init 17 = .ok (.putfield 15, 3) := by decide +kernel
theorem dX3_init_20 : decode cX3_init 20 = .ok (.aload_n 0, 1) := by decide +kernel
theorem dX3_init_21 : decode cX3_init 21 = .ok (.bipush 60, 2) := by decide +kernel
theorem dX3_init_23 : decode cX3_init 23 = .ok (.newarray .int, 2) := by decide +kernel
theorem dX3_init_25 : decode cX3_init 25 = .ok (.putfield 18, 3) := by decide +kernel
theorem dX3_init_28 : decode cX3_init 28 = .ok (.aload_n 0, 1) := by decide +kernel
theorem dX3_init_29 : decode cX3_init 29 = .ok (.iconst 0, 1) := by decide +kernel
theorem dX3_init_30 : decode cX3_init 30 = .ok (.putfield 21, 3) := by decide +kernel
theorem dX3_init_33 : decode cX3_init 33 = .ok (.return_, 1) := by decide +kernel
theorem dX3_empty_0 : decode cX3_empty 0 = .ok (.aload_n 0, 1) := by decide +kernel
theorem dX3_empty_1 : decode cX3_empty 1 = .ok (.iconst 0, 1) := by decide +kernel
theorem dX3_empty_2 : decode cX3_empty 2 = .ok (.putfield 21, 3) := by decide +kernel
theorem dX3_empty_5 : decode cX3_empty 5 = .ok (.return_, 1) := by decide +kernel
theorem dX3_add_0 : decode cX3_add 0 = .ok (.aload_n 0, 1) := by decide +kernel
theorem dX3_add_1 : decode cX3_add 1 = .ok (.getfield 21, 3) := by decide +kernel
theorem dX3_add_4 : decode cX3_add 4 = .ok (.bipush 60, 2) := by decide +kernel
theorem dX3_add_6 : decode cX3_add 6 = .ok (.if_icmp .lt 5, 3) := by decide +kernel
theorem dX3_add_9 : decode cX3_add 9 = .ok (.iconst 0, 1) := by decide +kernel
theorem dX3_add_10 : decode cX3_add 10 = .ok (.ireturn, 1) := by decide +kernel
theorem dX3_add_11 : decode cX3_add 11 = .ok (.aload_n 0, 1) := by decide +kernel
theorem dX3_add_12 : decode cX3_add 12 = .ok (.getfield 9, 3) := by decide +kernel
theorem dX3_add_15 : decode cX3_add 15 = .ok (.aload_n 0, 1) := by decide +kernel
theorem dX3_add_16 : decode cX3_add 16 = .ok (.getfield 21, 3) := by decide +kernel
theorem dX3_add_19 : decode cX3_add 19 = .ok (.iload_n 1, 1) := by decide +kernel
theorem dX3_add_20 : decode cX3_add 20 = .ok (.iastore, 1) := by decide +kernel
theorem dX3_add_21 : decode cX3_add 21 = .ok (.aload_n 0, 1) := by decide +kernel
theorem dX3_add_22 : decode cX3_add 22 = .ok (.getfield 15, 3) := by decide +kernel
theorem dX3_add_25 : decode cX3_add 25 = .ok (.aload_n 0, 1) := by decide +kernel
theorem dX3_add_26 : decode cX3_add 26 = .ok (.getfield 21, 3) := by decide +kernel
theorem dX3_add_29 : decode cX3_add 29 = .ok (.iload_n 2, 1) := by decide +kernel
theorem dX3_add_30 : decode cX3_add 30 = .ok (.iastore, 1) := by decide +kernel
theorem dX3_add_31 : decode cX3_add 31 = .ok (.aload_n 0, 1) := by decide +kernel
theorem dX3_add_32 : decode cX3_add 32 = .ok (.getfield 18, 3) := by decide +kernel
theorem dX3_add_35 : decode cX3_add 35 = .ok (.aload_n 0, 1) := by decide +kernel
theorem dX3_add_36 : decode cX3_add 36 = .ok (.getfield 21, 3) := by decide +kernel
theorem dX3_add_39 : decode cX3_add 39 = .ok (.iload_n 3, 1) := by decide +kernel
theorem dX3_add_40 : decode cX3_add 40 = .ok (.iastore, 1) := by decide +kernel
theorem dX3_add_41 : decode cX3_add 41 = .ok (.aload_n 0, 1) := by decide +kernel
theorem dX3_add_42 : decode cX3_add 42 = .ok (.dup, 1) := by decide +kernel
theorem dX3_add_43 : decode cX3_add 43 = .ok (.getfield 21, 3) := by decide +kernel
theorem dX3_add_46 : decode cX3_add 46 = .ok (.iconst 1, 1) := by decide +kernel
theorem dX3_add_47 : decode cX3_add 47 = .ok (.iadd, 1) := by decide +kernel
theorem dX3_add_48 : decode cX3_add 48 = .ok (.putfield 21, 3) := by decide +kernel
theorem dX3_add_51 : decode cX3_add 51 = .ok (.iconst 1, 1) := by decide +kernel
theorem dX3_add_52 : decode cX3_add 52 = .ok (.ireturn, 1) := by decide +kernel
theorem dX3_has_0 : decode cX3_has 0 = .ok (.iload_n 1, 1) := by decide +kernel
theorem dX3_has_1 : decode cX3_has 1 = .ok (.ifCond .lt 15, 3) := by decide +kernel
theorem dX3_has_4 : decode cX3_has 4 = .ok (.iload_n 1, 1) := by decide +kernel
theorem dX3_has_5 : decode cX3_has 5 = .ok (.aload_n 0, 1) := by decide +kernel
theorem dX3_has_6 : decode cX3_has 6 = .ok (.getfield 21, 3) := by decide +kernel
theorem dX3_has_9 : decode cX3_has 9 = .ok (.if_icmp .ge 7, 3) := by decide +kernel
theorem dX3_has_12 : decode cX3_has 12 = .ok (.iconst 1, 1) := by decide +kernel
theorem dX3_has_13 : decode cX3_has 13 = .ok (.goto 4, 3) := by decide +kernel
theorem dX3_has_16 : decode cX3_has 16 = .ok (.iconst 0, 1) := by decide +kernel
theorem dX3_has_17 : decode cX3_has 17 = .ok (.ireturn, 1) := by decide +kernel
set_option maxRecDepth 20000 in
theorem ggX3_placeOf_X3_has : GoodIn wsX3_placeOf wsX3_has := goodIn_r _ [6, 7, 8, 9, 10, 11] (by decide +kernel) (by decide +kernel)
set_option maxRecDepth 20000 in
theorem gX3_placeOf_X3_has : GoodIn wsX3_placeOf (wsV RX3 25 RX3 yX3_has wsX3_has) := goodIn_app (goodIn_of _ (by decide +kernel)) ggX3_placeOf_X3_has
theorem dX3_placeOf_0 : decode cX3_placeOf 0 = .ok (.aload_n 0, 1) := by decide +kernel
theorem dX3_placeOf_1 : decode cX3_placeOf 1 = .ok (.iload_n 1, 1) := by decide +kernel
theorem dX3_placeOf_2 : decode cX3_placeOf 2 = .ok (.invokevirtual 25, 3) := by decide +kernel
theorem dX3_placeOf_5 : decode cX3_placeOf 5 = .ok (.ifCond .eq 12, 3) := by decide +kernel
theorem dX3_placeOf_8 : decode cX3_placeOf 8 = .ok (.aload_n 0, 1) := by decide +kernel
theorem dX3_placeOf_9 : decode cX3_placeOf 9 = .ok (.getfield 15, 3) := by decide +kernel
theorem dX3_placeOf_12 : decode cX3_placeOf 12 = .ok (.iload_n 1, 1) := by decide +kernel
theorem dX3_placeOf_13 : decode cX3_placeOf 13 = .ok (.iaload, 1) := by decide +kernel
theorem dX3_placeOf_14 : decode cX3_placeOf 14 = .ok (.goto 4, 3) := by decide +kernel
theorem dX3_placeOf_17 : decode cX3_placeOf 17 = .ok (.iconst 0, 1) := by decide +kernel
theorem dX3_placeOf_18 : decode cX3_placeOf 18 = .ok (.ireturn, 1) := by decide +kernel
set_option maxRecDepth 20000 in
theorem ggX3_behind_X3_has : GoodIn wsX3_behind wsX3_has := goodIn_r _ [7, 8, 9, 10, 11, 12] (by decide +kernel) (by decide +kernel)
set_option maxRecDepth 20000 in
theorem gX3_behind_X3_has : GoodIn wsX3_behind (wsV RX3 25 RX3 yX3_has wsX3_has) := goodIn_app (goodIn_of _ (by decide +kernel)) ggX3_behind_X3_has
theorem dX3_behind_0 : decode cX3_behind 0 = .ok (.aload_n 0, 1) := by decide +kernel
theorem dX3_behind_1 : decode cX3_behind 1 = .ok (.iload_n 1, 1) := by decide +kernel
theorem dX3_behind_2 : decode cX3_behind 2 = .ok (.invokevirtual 25, 3) := by decide +kernel
theorem dX3_behind_5 : decode cX3_behind 5 = .ok (.ifCond .ne 5, 3) := by decide +kernel
theorem dX3_behind_8 : decode cX3_behind 8 = .ok (.iconst 0, 1) := by decide +kernel
theorem dX3_behind_9 : decode cX3_behind 9 = .ok (.ireturn, 1) := by decide +kernel
theorem dX3_behind_10 : decode cX3_behind 10 = .ok (.aload_n 0, 1) := by decide +kernel
theorem dX3_behind_11 : decode cX3_behind 11 = .ok (.getfield 9, 3) := by decide +kernel
theorem dX3_behind_14 : decode cX3_behind 14 = .ok (.iload_n 1, 1) := by decide +kernel
theorem dX3_behind_15 : decode cX3_behind 15 = .ok (.iaload, 1) := by decide +kernel
theorem dX3_behind_16 : decode cX3_behind 16 = .ok (.ifCond .ne 14, 3) := by decide +kernel
theorem dX3_behind_19 : decode cX3_behind 19 = .ok (.aload_n 0, 1) := by decide +kernel
theorem dX3_behind_20 : decode cX3_behind 20 = .ok (.getfield 15, 3) := by decide +kernel
theorem dX3_behind_23 : decode cX3_behind 23 = .ok (.iload_n 1, 1) := by decide +kernel
theorem dX3_behind_24 : decode cX3_behind 24 = .ok (.iaload, 1) := by decide +kernel
theorem dX3_behind_25 : decode cX3_behind 25 = .ok (.iconst 1, 1) := by decide +kernel
theorem dX3_behind_26 : decode cX3_behind 26 = .ok (.iadd, 1) := by decide +kernel
theorem dX3_behind_27 : decode cX3_behind 27 = .ok (.goto 9, 3) := by decide +kernel
theorem dX3_behind_30 : decode cX3_behind 30 = .ok (.aload_n 0, 1) := by decide +kernel
theorem dX3_behind_31 : decode cX3_behind 31 = .ok (.getfield 15, 3) := by decide +kernel
theorem dX3_behind_34 : decode cX3_behind 34 = .ok (.iload_n 1, 1) := by decide +kernel
theorem dX3_behind_35 : decode cX3_behind 35 = .ok (.iaload, 1) := by decide +kernel
theorem dX3_behind_36 : decode cX3_behind 36 = .ok (.ireturn, 1) := by decide +kernel
set_option maxRecDepth 20000 in
theorem ggX3_beginsHunk_X3_placeOf : GoodIn wsX3_beginsHunk wsX3_placeOf := goodIn_r _ [5, 6, 7, 8, 9, 4, 10, 11, 17, 18, 19, 20] (by decide +kernel) (by decide +kernel)
set_option maxRecDepth 20000 in
theorem gX3_beginsHunk_X3_placeOf : GoodIn wsX3_beginsHunk (wsV RX3 29 RX3 yX3_placeOf wsX3_placeOf) := goodIn_app (goodIn_of _ (by decide +kernel)) ggX3_beginsHunk_X3_placeOf
set_option maxRecDepth 20000 in
theorem ggX3_beginsHunk_X3_behind : GoodIn wsX3_beginsHunk wsX3_behind := goodIn_r _ [15, 16, 6, 7, 8, 9, 4, 10, 11, 17, 18, 19, 20] (by decide +kernel) (by decide +kernel)
set_option maxRecDepth 20000 in
theorem gX3_beginsHunk_X3_behind : GoodIn wsX3_beginsHunk (wsV RX3 33 RX3 yX3_behind wsX3_behind) := goodIn_app (goodIn_of _ (by decide +kernel)) ggX3_beginsHunk_X3_behind
theorem dX3_beginsHunk_0 : decode cX3_beginsHunk 0 = .ok (.iload_n 1, 1) := by decide +kernel
theorem dX3_beginsHunk_1 : decode cX3_beginsHunk 1 = .ok (.ifCond .eq 22, 3) := by decide +kernel
theorem dX3_beginsHunk_4 : decode cX3_beginsHunk 4 = .ok (.aload_n 0, 1) := by decide +kernel
theorem dX3_beginsHunk_5 : decode cX3_beginsHunk 5 = .ok (.iload_n 1, 1) := by decide +kernel
theorem dX3_beginsHunk_6 : decode cX3_beginsHunk 6 = .ok (.invokevirtual 29, 3) := by decide +kernel
theorem dX3_beginsHunk_9 : decode cX3_beginsHunk 9 = .ok (.aload_n 0, 1) := by decide +kernel
theorem dX3_beginsHunk_10 : decode cX3_beginsHunk 10 = .ok (.iload_n 1, 1) := by decide +kernel
theorem dX3_beginsHunk_11 : decode cX3_beginsHunk 11 = .ok (.iconst 1, 1) := by decide +kernel
theorem dX3_beginsHunk_12 : decode cX3_beginsHunk 12 = .ok (.isub, 1) := by decide +kernel
theorem dX3_beginsHunk_13 : decode cX3_beginsHunk 13 = .ok (.invokevirtual 33, 3) := by decide +kernel
theorem dX3_beginsHunk_16 : decode cX3_beginsHunk 16 = .ok (.isub, 1) := by decide +kernel
theorem dX3_beginsHunk_17 : decode cX3_beginsHunk 17 = .ok (.iconst 2, 1) := by decide +kernel
theorem dX3_beginsHunk_18 : decode cX3_beginsHunk 18 = .ok (.iload_n 2, 1) := by decide +kernel
theorem dX3_beginsHunk_19 : decode cX3_beginsHunk 19 = .ok (.imul, 1) := by decide +kernel
theorem dX3_beginsHunk_20 : decode cX3_beginsHunk 20 = .ok (.if_icmp .le 7, 3) := by decide +kernel
theorem dX3_beginsHunk_23 : decode cX3_beginsHunk 23 = .ok (.iconst 1, 1) := by decide +kernel
theorem dX3_beginsHunk_24 : decode cX3_beginsHunk 24 = .ok (.goto 4, 3) := by decide +kernel
theorem dX3_beginsHunk_27 : decode cX3_beginsHunk 27 = .ok (.iconst 0, 1) := by decide +kernel
theorem dX3_beginsHunk_28 : decode cX3_beginsHunk 28 = .ok (.ireturn, 1) := by decide +kernel
set_option maxRecDepth 20000 in
theorem ggX3_firstOfHunk_X3_beginsHunk : GoodIn wsX3_firstOfHunk wsX3_beginsHunk := goodIn_r _ [6, 7, 8, 9, 5, 10, 11, 12, 13, 14, 15, 1, 16, 17, 18, 19, 20, 21, 22, 23, 24] (by decide +kernel) (by decide +kernel)
set_option maxRecDepth 20000 in
theorem gX3_firstOfHunk_X3_beginsHunk : GoodIn wsX3_firstOfHunk (wsV RX3 36 RX3 yX3_beginsHunk wsX3_beginsHunk) := goodIn_app (goodIn_of _ (by decide +kernel)) ggX3_firstOfHunk_X3_beginsHunk
theorem dX3_firstOfHunk_0 : decode cX3_firstOfHunk 0 = .ok (.iconst (-1), 1) := by decide +kernel
theorem dX3_firstOfHunk_1 : decode cX3_firstOfHunk 1 = .ok (.istore_n 3, 1) := by decide +kernel
theorem dX3_firstOfHunk_2 : decode cX3_firstOfHunk 2 = .ok (.iconst 0, 1) := by decide +kernel
theorem dX3_firstOfHunk_3 : decode cX3_firstOfHunk 3 = .ok (.istore 4, 2) := by decide +kernel
theorem dX3_firstOfHunk_5 : decode cX3_firstOfHunk 5 = .ok (.iload 4, 2) := by decide +kernel
theorem dX3_firstOfHunk_7 : decode cX3_firstOfHunk 7 = .ok (.aload_n 0, 1) := by decide +kernel
theorem dX3_firstOfHunk_8 : decode cX3_firstOfHunk 8 = .ok (.getfield 21, 3) := by decide +kernel
theorem dX3_firstOfHunk_11 : decode cX3_firstOfHunk 11 = .ok (.if_icmp .ge 30, 3) := by decide +kernel
theorem dX3_firstOfHunk_14 : decode cX3_firstOfHunk 14 = .ok (.aload_n 0, 1) := by decide +kernel
theorem dX3_firstOfHunk_15 : decode cX3_firstOfHunk 15 = .ok (.iload 4, 2) := by decide +kernel
theorem dX3_firstOfHunk_17 : decode cX3_firstOfHunk 17 = .ok (.iload_n 2, 1) := by decide +kernel
theorem dX3_firstOfHunk_18 : decode cX3_firstOfHunk 18 = .ok (.invokevirtual 36, 3) := by decide +kernel
theorem dX3_firstOfHunk_21 : decode cX3_firstOfHunk 21 = .ok (.ifCond .eq 6, 3) := by decide +kernel
theorem dX3_firstOfHunk_24 : decode cX3_firstOfHunk 24 = .ok (.iinc 3 1, 3) := by decide +kernel
theorem dX3_firstOfHunk_27 : decode cX3_firstOfHunk 27 = .ok (.iload_n 3, 1) := by decide +kernel
theorem dX3_firstOfHunk_28 : decode cX3_firstOfHunk 28 = .ok (.iload_n 1, 1) := by decide +kernel
theorem dX3_firstOfHunk_29 : decode cX3_firstOfHunk 29 = .ok (.if_icmp .ne 6, 3) := by decide +kernel
theorem dX3_firstOfHunk_32 : decode cX3_firstOfHunk 32 = .ok (.iload 4, 2) := by decide +kernel
theorem dX3_firstOfHunk_34 : decode cX3_firstOfHunk 34 = .ok (.ireturn, 1) := by decide +kernel
theorem dX3_firstOfHunk_35 : decode cX3_firstOfHunk 35 = .ok (.iinc 4 1, 3) := by decide +kernel
theorem dX3_firstOfHunk_38 : decode cX3_firstOfHunk 38 = .ok (.goto (-33), 3) := by decide +kernel
theorem dX3_firstOfHunk_41 : decode cX3_firstOfHunk 41 = .ok (.aload_n 0, 1) := by decide +kernel
theorem dX3_firstOfHunk_42 : decode cX3_firstOfHunk 42 = .ok (.getfield 21, 3) := by decide +kernel
theorem dX3_firstOfHunk_45 : decode cX3_firstOfHunk 45 = .ok (.ireturn, 1) := by decide +kernel
set_option maxRecDepth 20000 in
theorem ggX3_lastOfHunk_X3_beginsHunk : GoodIn wsX3_lastOfHunk wsX3_beginsHunk := goodIn_r _ [6, 7, 8, 9, 5, 10, 11, 12, 13, 14, 15, 1, 16, 17, 18, 19, 20, 21, 22, 23, 24] (by decide +kernel) (by decide +kernel)
set_option maxRecDepth 20000 in
theorem gX3_lastOfHunk_X3_beginsHunk : GoodIn wsX3_lastOfHunk (wsV RX3 36 RX3 yX3_beginsHunk wsX3_beginsHunk) := goodIn_app (goodIn_of _ (by decide +kernel)) ggX3_lastOfHunk_X3_beginsHunk
theorem dX3_lastOfHunk_0 : decode cX3_lastOfHunk 0 = .ok (.iload_n 1, 1) := by decide +kernel
theorem dX3_lastOfHunk_1 : decode cX3_lastOfHunk 1 = .ok (.istore_n 3, 1) := by decide +kernel
theorem dX3_lastOfHunk_2 : decode cX3_lastOfHunk 2 = .ok (.iload_n 3, 1) := by decide +kernel
theorem dX3_lastOfHunk_3 : decode cX3_lastOfHunk 3 = .ok (.iconst 1, 1) := by decide +kernel
theorem dX3_lastOfHunk_4 : decode cX3_lastOfHunk 4 = .ok (.iadd, 1) := by decide +kernel
theorem dX3_lastOfHunk_5 : decode cX3_lastOfHunk 5 = .ok (.aload_n 0, 1) := by decide +kernel
theorem dX3_lastOfHunk_6 : decode cX3_lastOfHunk 6 = .ok (.getfield 21, 3) := by decide +kernel
theorem dX3_lastOfHunk_9 : decode cX3_lastOfHunk 9 = .ok (.if_icmp .ge 20, 3) := by decide +kernel
theorem dX3_lastOfHunk_12 : decode cX3_lastOfHunk 12 = .ok (.aload_n 0, 1) := by decide +kernel
theorem dX3_lastOfHunk_13 : decode cX3_lastOfHunk 13 = .ok (.iload_n 3, 1) := by decide +kernel
theorem dX3_lastOfHunk_14 : decode cX3_lastOfHunk 14 = .ok (.iconst 1, 1) := by decide +kernel
theorem dX3_lastOfHunk_15 : decode cX3_lastOfHunk 15 = .ok (.iadd, 1) := by decide +kernel
theorem dX3_lastOfHunk_16 : decode cX3_lastOfHunk 16 = .ok (.iload_n 2, 1) := by decide +kernel
theorem dX3_lastOfHunk_17 : decode cX3_lastOfHunk 17 = .ok (.invokevirtual 36, 3) := by decide +kernel
theorem dX3_lastOfHunk_20 : decode cX3_lastOfHunk 20 = .ok (.ifCond .ne 9, 3) := by decide +kernel
theorem dX3_lastOfHunk_23 : decode cX3_lastOfHunk 23 = .ok (.iinc 3 1, 3) := by decide +kernel
theorem dX3_lastOfHunk_26 : decode cX3_lastOfHunk 26 = .ok (.goto (-24), 3) := by decide +kernel
theorem dX3_lastOfHunk_29 : decode cX3_lastOfHunk 29 = .ok (.iload_n 3, 1) := by decide +kernel
theorem dX3_lastOfHunk_30 : decode cX3_lastOfHunk 30 = .ok (.ireturn, 1) := by decide +kernel
set_option maxRecDepth 20000 in
theorem ggX3_countKind_X3_has : GoodIn wsX3_countKind wsX3_has := goodIn_r _ [6, 7, 8, 9, 10, 11] (by decide +kernel) (by decide +kernel)
set_option maxRecDepth 20000 in
theorem gX3_countKind_X3_has : GoodIn wsX3_countKind (wsV RX3 25 RX3 yX3_has wsX3_has) := goodIn_app (goodIn_of _ (by decide +kernel)) ggX3_countKind_X3_has
theorem dX3_countKind_0 : decode cX3_countKind 0 = .ok (.iconst 0, 1) := by decide +kernel
theorem dX3_countKind_1 : decode cX3_countKind 1 = .ok (.istore 4, 2) := by decide +kernel
theorem dX3_countKind_3 : decode cX3_countKind 3 = .ok (.iload_n 2, 1) := by decide +kernel
theorem dX3_countKind_4 : decode cX3_countKind 4 = .ok (.istore 5, 2) := by decide +kernel
theorem dX3_countKind_6 : decode cX3_countKind 6 = .ok (.iload 5, 2) := by decide +kernel
theorem dX3_countKind_8 : decode cX3_countKind 8 = .ok (.iload_n 3, 1) := by decide +kernel
theorem dX3_countKind_9 : decode cX3_countKind 9 = .ok (.if_icmp .gt 32, 3) := by decide +kernel
theorem dX3_countKind_12 : decode cX3_countKind 12 = .ok (.aload_n 0, 1) := by decide +kernel
theorem dX3_countKind_13 : decode cX3_countKind 13 = .ok (.iload 5, 2) := by decide +kernel
theorem dX3_countKind_15 : decode cX3_countKind 15 = .ok (.invokevirtual 25, 3) := by decide +kernel
theorem dX3_countKind_18 : decode cX3_countKind 18 = .ok (.ifCond .eq 17, 3) := by decide +kernel
theorem dX3_countKind_21 : decode cX3_countKind 21 = .ok (.aload_n 0, 1) := by decide +kernel
theorem dX3_countKind_22 : decode cX3_countKind 22 = .ok (.getfield 9, 3) := by decide +kernel
theorem dX3_countKind_25 : decode cX3_countKind 25 = .ok (.iload 5, 2) := by decide +kernel
theorem dX3_countKind_27 : decode cX3_countKind 27 = .ok (.iaload, 1) := by decide +kernel
theorem dX3_countKind_28 : decode cX3_countKind 28 = .ok (.iload_n 1, 1) := by decide +kernel
theorem dX3_countKind_29 : decode cX3_countKind 29 = .ok (.if_icmp .ne 6, 3) := by decide +kernel
theorem dX3_countKind_32 : decode cX3_countKind 32 = .ok (.iinc 4 1, 3) := by decide +kernel
theorem dX3_countKind_35 : decode cX3_countKind 35 = .ok (.iinc 5 1, 3) := by decide +kernel
theorem dX3_countKind_38 : decode cX3_countKind 38 = .ok (.goto (-32), 3) := by decide +kernel
theorem dX3_countKind_41 : decode cX3_countKind 41 = .ok (.iload 4, 2) := by decide +kernel
theorem dX3_countKind_43 : decode cX3_countKind 43 = .ok (.ireturn, 1) := by decide +kernel
theorem dX4_init_0 : decode cX4_init 0 = .ok (.aload_n 0, 1) := by decide +kernel
theorem dX4_init_1 : decode cX4_init 1 = .ok (.invokespecial 3, 3) := by decide +kernel
theorem dX4_init_4 : decode cX4_init 4 = .ok (.aload_n 0, 1) := by decide +kernel
theorem dX4_init_5 : decode cX4_init 5 = .ok (.aload_n 1, 1) := by decide +kernel
theorem dX4_init_6 : decode cX4_init 6 = .ok (.putfield 9, 3) := by decide +kernel
theorem dX4_init_9 : decode cX4_init 9 = .ok (.aload_n 0, 1) := by decide +kernel
theorem dX4_init_10 : decode cX4_init 10 = .ok (.iconst 0, 1) := by decide +kernel
theorem dX4_init_11 : decode cX4_init 11 = .ok (.putfield 15, 3) := by decide +kernel
theorem dX4_init_14 : decode cX4_init 14 = .ok (.aload_n 0, 1) := by decide +kernel
theorem dX4_init_15 : decode cX4_init 15 = .ok (.iconst 0, 1) := by decide +kernel
theorem dX4_init_16 : decode cX4_init 16 = .ok (.putfield 19, 3) := by decide +kernel
theorem dX4_init_19 : decode cX4_init 19 = .ok (.return_, 1) := by decide +kernel
theorem dX4_begin_0 : decode cX4_begin 0 = .ok (.aload_n 0, 1) := by decide +kernel
theorem dX4_begin_1 : decode cX4_begin 1 = .ok (.iconst 0, 1) := by decide +kernel
theorem dX4_begin_2 : decode cX4_begin 2 = .ok (.putfield 15, 3) := by decide +kernel
theorem dX4_begin_5 : decode cX4_begin 5 = .ok (.aload_n 0, 1) := by decide +kernel
theorem dX4_begin_6 : decode cX4_begin 6 = .ok (.iconst 0, 1) := by decide +kernel
theorem dX4_begin_7 : decode cX4_begin 7 = .ok (.putfield 19, 3) := by decide +kernel
theorem dX4_begin_10 : decode cX4_begin 10 = .ok (.return_, 1) := by decide +kernel
theorem dX4_endBefore_0 : decode cX4_endBefore 0 = .ok (.aload_n 0, 1) := by decide +kernel
theorem dX4_endBefore_1 : decode cX4_endBefore 1 = .ok (.iload_n 1, 1) := by decide +kernel
theorem dX4_endBefore_2 : decode cX4_endBefore 2 = .ok (.putfield 19, 3) := by decide +kernel
theorem dX4_endBefore_5 : decode cX4_endBefore 5 = .ok (.return_, 1) := by decide +kernel
theorem dX4_goOnBehindStable_0 : decode cX4_goOnBehindStable 0 = .ok (.aload_n 0, 1) := by decide +kernel
theorem dX4_goOnBehindStable_1 : decode cX4_goOnBehindStable 1 = .ok (.aload_n 0, 1) := by decide +kernel
theorem dX4_goOnBehindStable_2 : decode cX4_goOnBehindStable 2 = .ok (.getfield 19, 3) := by decide +kernel
theorem dX4_goOnBehindStable_5 : decode cX4_goOnBehindStable 5 = .ok (.iconst 1, 1) := by decide +kernel
theorem dX4_goOnBehindStable_6 : decode cX4_goOnBehindStable 6 = .ok (.iadd, 1) := by decide +kernel
theorem dX4_goOnBehindStable_7 : decode cX4_goOnBehindStable 7 = .ok (.putfield 15, 3) := by decide +kernel
theorem dX4_goOnBehindStable_10 : decode cX4_goOnBehindStable 10 = .ok (.return_, 1) := by decide +kernel
set_option maxRecDepth 20000 in
theorem ggX4_isSameAs_X2_at : GoodIn wsX4_isSameAs wsX2_at := goodIn_r _ [8, 9, 10, 14, 15] (by decide +kernel) (by decide +kernel)
set_option maxRecDepth 20000 in
theorem gX4_isSameAs_X2_at : GoodIn wsX4_isSameAs (wsV RX4 22 RX2 yX2_at wsX2_at) := goodIn_app (goodIn_of _ (by decide +kernel)) ggX4_isSameAs_X2_at
theorem dX4_isSameAs_0 : decode cX4_isSameAs 0 = .ok (.aload_n 0, 1) := by decide +kernel
theorem dX4_isSameAs_1 : decode cX4_isSameAs 1 = .ok (.getfield 19, 3) := by decide +kernel
theorem dX4_isSameAs_4 : decode cX4_isSameAs 4 = .ok (.aload_n 0, 1) := by decide +kernel
theorem dX4_isSameAs_5 : decode cX4_isSameAs 5 = .ok (.getfield 15, 3) := by decide +kernel
theorem dX4_isSameAs_8 : decode cX4_isSameAs 8 = .ok (.isub, 1) := by decide +kernel
theorem dX4_isSameAs_9 : decode cX4_isSameAs 9 = .ok (.aload_n 1, 1) := by decide +kernel
theorem dX4_isSameAs_10 : decode cX4_isSameAs 10 = .ok (.getfield 19, 3) := by decide +kernel
theorem dX4_isSameAs_13 : decode cX4_isSameAs 13 = .ok (.aload_n 1, 1) := by decide +kernel
theorem dX4_isSameAs_14 : decode cX4_isSameAs 14 = .ok (.getfield 15, 3) := by decide +kernel
theorem dX4_isSameAs_17 : decode cX4_isSameAs 17 = .ok (.isub, 1) := by decide +kernel
theorem dX4_isSameAs_18 : decode cX4_isSameAs 18 = .ok (.if_icmp .eq 5, 3) := by decide +kernel
theorem dX4_isSameAs_21 : decode cX4_isSameAs 21 = .ok (.iconst 0, 1) := by decide +kernel
theorem dX4_isSameAs_22 : decode cX4_isSameAs 22 = .ok (.ireturn, 1) := by decide +kernel
theorem dX4_isSameAs_23 : decode cX4_isSameAs 23 = .ok (.iconst 0, 1) := by decide +kernel
theorem dX4_isSameAs_24 : decode cX4_isSameAs 24 = .ok (.istore_n 2, 1) := by decide +kernel
theorem dX4_isSameAs_25 : decode cX4_isSameAs 25 = .ok (.iload_n 2, 1) := by decide +kernel
theorem dX4_isSameAs_26 : decode cX4_isSameAs 26 = .ok (.aload_n 0, 1) := by decide +kernel
theorem dX4_isSameAs_27 : decode cX4_isSameAs 27 = .ok (.getfield 19, 3) := by decide +kernel
theorem dX4_isSameAs_30 : decode cX4_isSameAs 30 = .ok (.aload_n 0, 1) := by decide +kernel
theorem dX4_isSameAs_31 : decode cX4_isSameAs 31 = .ok (.getfield 15, 3) := by decide +kernel
theorem dX4_isSameAs_34 : decode cX4_isSameAs 34 = .ok (.isub, 1) := by decide +kernel
theorem dX4_isSameAs_35 : decode cX4_isSameAs 35 = .ok (.if_icmp .ge 42, 3) := by decide +kernel
theorem dX4_isSameAs_38 : decode cX4_isSameAs 38 = .ok (.aload_n 0, 1) := by decide +kernel
theorem dX4_isSameAs_39 : decode cX4_isSameAs 39 = .ok (.getfield 9, 3) := by decide +kernel
theorem dX4_isSameAs_42 : decode cX4_isSameAs 42 = .ok (.aload_n 0, 1) := by decide +kernel
theorem dX4_isSameAs_43 : decode cX4_isSameAs 43 = .ok (.getfield 15, 3) := by decide +kernel
theorem dX4_isSameAs_46 : decode cX4_isSameAs 46 = .ok (.iload_n 2, 1) := by decide +kernel
theorem dX4_isSameAs_47 : decode cX4_isSameAs 47 = .ok (.iadd, 1) := by decide +kernel
theorem dX4_isSameAs_48 : decode cX4_isSameAs 48 = .ok (.iconst (-1), 1) := by decide +kernel
theorem dX4_isSameAs_49 : decode cX4_isSameAs 49 = .ok (.invokevirtual 22, 3) := by decide +kernel
theorem dX4_isSameAs_52 : decode cX4_isSameAs 52 = .ok (.aload_n 1, 1) := by decide +kernel
theorem dX4_isSameAs_53 : decode cX4_isSameAs 53 = .ok (.getfield 9, 3) := by decide +kernel
theorem dX4_isSameAs_56 : decode cX4_isSameAs 56 = .ok (.aload_n 1, 1) := by decide +kernel
theorem dX4_isSameAs_57 : decode cX4_isSameAs 57 = .ok (.getfield 15, 3) := by decide +kernel
theorem dX4_isSameAs_60 : decode cX4_isSameAs 60 = .ok (.iload_n 2, 1) := by decide +kernel
theorem dX4_isSameAs_61 : decode cX4_isSameAs 61 = .ok (.iadd, 1) := by decide +kernel
theorem dX4_isSameAs_62 : decode cX4_isSameAs 62 = .ok (.iconst (-1), 1) := by decide +kernel
theorem dX4_isSameAs_63 : decode cX4_isSameAs 63 = .ok (.invokevirtual 22, 3) := by decide +kernel
theorem dX4_isSameAs_66 : decode cX4_isSameAs 66 = .ok (.if_icmp .eq 5, 3) := by decide +kernel
theorem dX4_isSameAs_69 : decode cX4_isSameAs 69 = .ok (.iconst 0, 1) := by decide +kernel
theorem dX4_isSameAs_70 : decode cX4_isSameAs 70 = .ok (.ireturn, 1) := by decide +kernel
theorem dX4_isSameAs_71 : decode cX4_isSameAs 71 = .ok (.iinc 2 1, 3) := by decide +kernel
theorem dX4_isSameAs_74 : decode cX4_isSameAs 74 = .ok (.goto (-49), 3) := by decide +kernel
theorem dX4_isSameAs_77 : decode cX4_isSameAs 77 = .ok (.iconst 1, 1) := by decide +kernel
theorem dX4_isSameAs_78 : decode cX4_isSameAs 78 = .ok (.ireturn, 1) := by decide +kernel
end
section
set_option maxRecDepth 20000 in
theorem ggX4_addTo_X2_addAll : GoodIn wsX4_addTo wsX2_addAll := goodIn_r _ [8, 9, 10, 11, 7, 12, 13, 14, 15, 16, 17, 18, 22, 23] (by decide +kernel) (by decide +kernel)
set_option maxRecDepth 20000 in
theorem gX4_addTo_X2_addAll : GoodIn wsX4_addTo (wsV RX4 28 RX2 yX2_addAll wsX2_addAll) := goodIn_app (goodIn_of _ (by decide +kernel)) ggX4_addTo_X2_addAll
theorem dX4_addTo_0 : decode cX4_addTo 0 = .ok (.aload_n 1, 1) := by decide +kernel
theorem dX4_addTo_1 : decode cX4_addTo 1 = .ok (.aload_n 0, 1) := by decide +kernel
theorem dX4_addTo_2 : decode cX4_addTo 2 = .ok (.getfield 9, 3) := by decide +kernel
theorem dX4_addTo_5 : decode cX4_addTo 5 = .ok (.aload_n 0, 1) := by decide +kernel
theorem dX4_addTo_6 : decode cX4_addTo 6 = .ok (.getfield 15, 3) := by decide +kernel
theorem dX4_addTo_9 : decode cX4_addTo 9 = .ok (.aload_n 0, 1) := by decide +kernel
theorem dX4_addTo_10 : decode cX4_addTo 10 = .ok (.getfield 19, 3) := by decide +kernel
theorem dX4_addTo_13 : decode cX4_addTo 13 = .ok (.invokevirtual 28, 3) := by decide +kernel
theorem dX4_addTo_16 : decode cX4_addTo 16 = .ok (.return_, 1) := by decide +kernel
set_option maxRecDepth 20000 in
theorem ggX5_init_X2_init : GoodIn wsX5_init wsX2_init := goodIn_r _ [34, 35, 2, 3, 36, 37, 38, 90, 91] (by decide +kernel) (by decide +kernel)
set_option maxRecDepth 20000 in
theorem gX5_init_X2_init : GoodIn wsX5_init (wsX2_init) := ggX5_init_X2_init
set_option maxRecDepth 20000 in
theorem ggX5_init_X3_init : GoodIn wsX5_init wsX3_init := goodIn_r _ [41, 42, 2, 3, 36, 43, 44, 45, 46, 92, 93, 94, 95] (by decide +kernel) (by decide +kernel)
set_option maxRecDepth 20000 in
theorem gX5_init_X3_init : GoodIn wsX5_init (wsX3_init) := ggX5_init_X3_init
set_option maxRecDepth 20000 in
theorem ggX5_init_X0_init : GoodIn wsX5_init wsX0_init := goodIn_r _ [49, 50, 2, 3, 51, 36, 52, 53, 14, 15, 54, 55, 56, 33, 34, 35, 37, 38, 96, 97, 98, 90, 91] (by decide +kernel) (by decide +kernel)
set_option maxRecDepth 20000 in
theorem gX5_init_X0_init : GoodIn wsX5_init (wsX0_init) := ggX5_init_X0_init
set_option maxRecDepth 20000 in
theorem ggX5_init_X1_init : GoodIn wsX5_init wsX1_init := goodIn_r _ [59, 60, 2, 3, 61, 62, 63, 64, 14, 15, 65, 66, 67, 68, 69, 70, 71, 72, 73, 33, 34, 35, 36, 37, 38, 74, 75, 76, 77, 78, 79, 80, 99, 100, 101, 102, 103, 104, 105, 106, 90, 91, 107, 108, 109] (by decide +kernel) (by decide +kernel)
set_option maxRecDepth 20000 in
theorem gX5_init_X1_init : GoodIn wsX5_init (wsX1_init) := ggX5_init_X1_init
theorem dX5_init_0 : decode cX5_init 0 = .ok (.aload_n 0, 1) := by decide +kernel
theorem dX5_init_1 : decode cX5_init 1 = .ok (.invokespecial 3, 3) := by decide +kernel
theorem dX5_init_4 : decode cX5_init 4 = .ok (.aload_n 0, 1) := by decide +kernel
theorem dX5_init_5 : decode cX5_init 5 = .ok (.iconst 0, 1) := by decide +kernel
theorem dX5_init_6 : decode cX5_init 6 = .ok (.bipush 40, 2) := by decide +kernel
theorem dX5_init_8 : decode cX5_init 8 = .ok (.iload_n 1, 1) := by decide +kernel
theorem dX5_init_9 : decode cX5_init 9 = .ok (.invokestatic 9, 3) := by decide +kernel
theorem dX5_init_12 : decode cX5_init 12 = .ok (.invokestatic 15, 3) := by decide +kernel
theorem dX5_init_15 : decode cX5_init 15 = .ok (.putfield 18, 3) := by decide +kernel
theorem dX5_init_18 : decode cX5_init 18 = .ok (.aload_n 0, 1) := by decide +kernel
theorem dX5_init_19 : decode cX5_init 19 = .ok (.iconst 3, 1) := by decide +kernel
theorem dX5_init_20 : decode cX5_init 20 = .ok (.anewarray 22, 3) := by decide +kernel
theorem dX5_init_23 : decode cX5_init 23 = .ok (.putfield 24, 3) := by decide +kernel
theorem dX5_init_26 : decode cX5_init 26 = .ok (.iconst 0, 1) := by decide +kernel
theorem dX5_init_27 : decode cX5_init 27 = .ok (.istore_n 2, 1) := by decide +kernel
theorem dX5_init_28 : decode cX5_init 28 = .ok (.iload_n 2, 1) := by decide +kernel
theorem dX5_init_29 : decode cX5_init 29 = .ok (.iconst 3, 1) := by decide +kernel
theorem dX5_init_30 : decode cX5_init 30 = .ok (.if_icmp .ge 24, 3) := by decide +kernel
theorem dX5_init_33 : decode cX5_init 33 = .ok (.aload_n 0, 1) := by decide +kernel
theorem dX5_init_34 : decode cX5_init 34 = .ok (.getfield 24, 3) := by decide +kernel
theorem dX5_init_37 : decode cX5_init 37 = .ok (.iload_n 2, 1) := by decide +kernel
theorem dX5_init_38 : decode cX5_init 38 = .ok (.new 22, 3) := by decide +kernel
theorem dX5_init_41 : decode cX5_init 41 = .ok (.dup, 1) := by decide +kernel
theorem dX5_init_42 : decode cX5_init 42 = .ok (.bipush 20, 2) := by decide +kernel
theorem dX5_init_44 : decode cX5_init 44 = .ok (.invokespecial 28, 3) := by decide +kernel
theorem dX5_init_47 : decode cX5_init 47 = .ok (.aastore, 1) := by decide +kernel
theorem dX5_init_48 : decode cX5_init 48 = .ok (.iinc 2 1, 3) := by decide +kernel
theorem dX5_init_51 : decode cX5_init 51 = .ok (.goto (-23), 3) := by decide +kernel
theorem dX5_init_54 : decode cX5_init 54 = .ok (.aload_n 0, 1) := by decide +kernel
theorem dX5_init_55 : decode cX5_init 55 = .ok (.new 31, 3) := by decide +kernel
theorem dX5_init_58 : decode cX5_init 58 = .ok (.dup, 1) := by decide +kernel
theorem dX5_init_59 : decode cX5_init 59 = .ok (.invokespecial 33, 3) := by decide +kernel
theorem dX5_init_62 : decode cX5_init 62 = .ok (.putfield 34, 3) := by decide +kernel
theorem dX5_init_65 : decode cX5_init 65 = .ok (.aload_n 0, 1) := by decide +kernel
theorem dX5_init_66 : decode cX5_init 66 = .ok (.new 31, 3) := by decide +kernel
theorem dX5_init_69 : decode cX5_init 69 = .ok (.dup, 1) := by decide +kernel
theorem dX5_init_70 : decode cX5_init 70 = .ok (.invokespecial 33, 3) := by decide +kernel
theorem dX5_init_73 : decode cX5_init 73 = .ok (.putfield 38, 3) := by decide +kernel
theorem dX5_init_76 : decode cX5_init 76 = .ok (.aload_n 0, 1) := by decide +kernel
theorem dX5_init_77 : decode cX5_init 77 = .ok (.iconst 0, 1) := by decide +kernel
theorem dX5_init_78 : decode cX5_init 78 = .ok (.putfield 41, 3) := by decide +kernel
theorem dX5_init_81 : decode cX5_init 81 = .ok (.aload_n 0, 1) := by decide +kernel
theorem dX5_init_82 : decode cX5_init 82 = .ok (.new 44, 3) := by decide +kernel
theorem dX5_init_85 : decode cX5_init 85 = .ok (.dup, 1) := by decide +kernel
theorem dX5_init_86 : decode cX5_init 86 = .ok (.invokespecial 46, 3) := by decide +kernel
theorem dX5_init_89 : decode cX5_init 89 = .ok (.putfield 47, 3) := by decide +kernel
theorem dX5_init_92 : decode cX5_init 92 = .ok (.aload_n 0, 1) := by decide +kernel
theorem dX5_init_93 : decode cX5_init 93 = .ok (.new 51, 3) := by decide +kernel
theorem dX5_init_96 : decode cX5_init 96 = .ok (.dup, 1) := by decide +kernel
theorem dX5_init_97 : decode cX5_init 97 = .ok (.aload_n 0, 1) := by decide +kernel
theorem dX5_init_98 : decode cX5_init 98 = .ok (.getfield 24, 3) := by decide +kernel
theorem dX5_init_101 : decode cX5_init 101 = .ok (.iconst 0, 1) := by decide +kernel
theorem dX5_init_102 : decode cX5_init 102 = .ok (.aaload, 1) := by decide +kernel
theorem dX5_init_103 : decode cX5_init 103 = .ok (.aload_n 0, 1) := by decide +kernel
theorem dX5_init_104 : decode cX5_init 104 = .ok (.getfield 24, 3) := by decide +kernel
theorem dX5_init_107 : decode cX5_init 107 = .ok (.iconst 1, 1) := by decide +kernel
theorem dX5_init_108 : decode cX5_init 108 = .ok (.aaload, 1) := by decide +kernel
theorem dX5_init_109 : decode cX5_init 109 = .ok (.aload_n 0, 1) := by decide +kernel
theorem dX5_init_110 : decode cX5_init 110 = .ok (.getfield 24, 3) := by decide +kernel
theorem dX5_init_113 : decode cX5_init 113 = .ok (.iconst 2, 1) := by decide +kernel
theorem dX5_init_114 : decode cX5_init 114 = .ok (.aaload, 1) := by decide +kernel
theorem dX5_init_115 : decode cX5_init 115 = .ok (.invokespecial 53, 3) := by decide +kernel
theorem dX5_init_118 : decode cX5_init 118 = .ok (.putfield 56, 3) := by decide +kernel
theorem dX5_init_121 : decode cX5_init 121 = .ok (.aload_n 0, 1) := by decide +kernel
theorem dX5_init_122 : decode cX5_init 122 = .ok (.new 22, 3) := by decide +kernel
theorem dX5_init_125 : decode cX5_init 125 = .ok (.dup, 1) := by decide +kernel
theorem dX5_init_126 : decode cX5_init 126 = .ok (.bipush 123, 2) := by decide +kernel
theorem dX5_init_128 : decode cX5_init 128 = .ok (.invokespecial 28, 3) := by decide +kernel
theorem dX5_init_131 : decode cX5_init 131 = .ok (.putfield 60, 3) := by decide +kernel
theorem dX5_init_134 : decode cX5_init 134 = .ok (.aload_n 0, 1) := by decide +kernel
theorem dX5_init_135 : decode cX5_init 135 = .ok (.new 22, 3) := by decide +kernel
theorem dX5_init_138 : decode cX5_init 138 = .ok (.dup, 1) := by decide +kernel
theorem dX5_init_139 : decode cX5_init 139 = .ok (.bipush 123, 2) := by decide +kernel
theorem dX5_init_141 : decode cX5_init 141 = .ok (.invokespecial 28, 3) := by decide +kernel
theorem dX5_init_144 : decode cX5_init 144 = .ok (.putfield 64, 3) := by decide +kernel
theorem dX5_init_147 : decode cX5_init 147 = .ok (.return_, 1) := by decide +kernel
set_option maxRecDepth 20000 in
theorem ggX5_feed_X5_isRow : GoodIn wsX5_feed wsX5_isRow := goodIn_r _ [5] (by decide +kernel) (by decide +kernel)
set_option maxRecDepth 20000 in
theorem gX5_feed_X5_isRow : GoodIn wsX5_feed (va_wsS RX5 67 yX5_isRow wsX5_isRow) := goodIn_app (goodIn_of _ (by decide +kernel)) ggX5_feed_X5_isRow
set_option maxRecDepth 20000 in
theorem ggX5_feed_X5_isSymbol : GoodIn wsX5_feed wsX5_isSymbol := goodIn_r _ [8] (by decide +kernel) (by decide +kernel)
set_option maxRecDepth 20000 in
theorem gX5_feed_X5_isSymbol : GoodIn wsX5_feed (va_wsS RX5 71 yX5_isSymbol wsX5_isSymbol) := goodIn_app (goodIn_of _ (by decide +kernel)) ggX5_feed_X5_isSymbol
set_option maxRecDepth 20000 in
theorem ggX5_feed_X2_add : GoodIn wsX5_feed wsX2_add := goodIn_r _ [13, 14, 15, 25, 26] (by decide +kernel) (by decide +kernel)
set_option maxRecDepth 20000 in
theorem gX5_feed_X2_add : GoodIn wsX5_feed (wsV RX5 74 RX2 yX2_add wsX2_add) := goodIn_app (goodIn_of _ (by decide +kernel)) ggX5_feed_X2_add
theorem dX5_feed_0 : decode cX5_feed 0 = .ok (.iload_n 1, 1) := by decide +kernel
theorem dX5_feed_1 : decode cX5_feed 1 = .ok (.invokestatic 67, 3) := by decide +kernel
theorem dX5_feed_4 : decode cX5_feed 4 = .ok (.ifCond .eq 27, 3) := by decide +kernel
theorem dX5_feed_7 : decode cX5_feed 7 = .ok (.iload_n 2, 1) := by decide +kernel
theorem dX5_feed_8 : decode cX5_feed 8 = .ok (.invokestatic 71, 3) := by decide +kernel
theorem dX5_feed_11 : decode cX5_feed 11 = .ok (.ifCond .eq 20, 3) := by decide +kernel
theorem dX5_feed_14 : decode cX5_feed 14 = .ok (.aload_n 0, 1) := by decide +kernel
theorem dX5_feed_15 : decode cX5_feed 15 = .ok (.getfield 24, 3) := by decide +kernel
theorem dX5_feed_18 : decode cX5_feed 18 = .ok (.iload_n 1, 1) := by decide +kernel
theorem dX5_feed_19 : decode cX5_feed 19 = .ok (.aaload, 1) := by decide +kernel
theorem dX5_feed_20 : decode cX5_feed 20 = .ok (.iload_n 2, 1) := by decide +kernel
theorem dX5_feed_21 : decode cX5_feed 21 = .ok (.invokevirtual 74, 3) := by decide +kernel
theorem dX5_feed_24 : decode cX5_feed 24 = .ok (.ifCond .eq 7, 3) := by decide +kernel
theorem dX5_feed_27 : decode cX5_feed 27 = .ok (.iconst 1, 1) := by decide +kernel
theorem dX5_feed_28 : decode cX5_feed 28 = .ok (.goto 4, 3) := by decide +kernel
theorem dX5_feed_31 : decode cX5_feed 31 = .ok (.iconst 0, 1) := by decide +kernel
theorem dX5_feed_32 : decode cX5_feed 32 = .ok (.ireturn, 1) := by decide +kernel
set_option maxRecDepth 20000 in
theorem ggX5_clear_X5_isRow : GoodIn wsX5_clear wsX5_isRow := goodIn_r _ [5] (by decide +kernel) (by decide +kernel)
set_option maxRecDepth 20000 in
theorem gX5_clear_X5_isRow : GoodIn wsX5_clear (va_wsS RX5 67 yX5_isRow wsX5_isRow) := goodIn_app (goodIn_of _ (by decide +kernel)) ggX5_clear_X5_isRow
set_option maxRecDepth 20000 in
theorem ggX5_clear_X2_empty : GoodIn wsX5_clear wsX2_empty := goodIn_r _ [10, 11, 21, 22] (by decide +kernel) (by decide +kernel)
set_option maxRecDepth 20000 in
theorem gX5_clear_X2_empty : GoodIn wsX5_clear (wsV RX5 77 RX2 yX2_empty wsX2_empty) := goodIn_app (goodIn_of _ (by decide +kernel)) ggX5_clear_X2_empty
theorem dX5_clear_0 : decode cX5_clear 0 = .ok (.iload_n 1, 1) := by decide +kernel
theorem dX5_clear_1 : decode cX5_clear 1 = .ok (.invokestatic 67, 3) := by decide +kernel
theorem dX5_clear_4 : decode cX5_clear 4 = .ok (.ifCond .ne 5, 3) := by decide +kernel
theorem dX5_clear_7 : decode cX5_clear 7 = .ok (.iconst 0, 1) := by decide +kernel
theorem dX5_clear_8 : decode cX5_clear 8 = .ok (.ireturn, 1) := by decide +kernel
theorem dX5_clear_9 : decode cX5_clear 9 = .ok (.aload_n 0, 1) := by decide +kernel
theorem dX5_clear_10 : decode cX5_clear 10 = .ok (.getfield 24, 3) := by decide +kernel
theorem dX5_clear_13 : decode cX5_clear 13 = .ok (.iload_n 1, 1) := by decide +kernel
theorem dX5_clear_14 : decode cX5_clear 14 = .ok (.aaload, 1) := by decide +kernel
theorem dX5_clear_15 : decode cX5_clear 15 = .ok (.invokevirtual 77, 3) := by decide +kernel
theorem dX5_clear_18 : decode cX5_clear 18 = .ok (.iconst 1, 1) := by decide +kernel
theorem dX5_clear_19 : decode cX5_clear 19 = .ok (.ireturn, 1) := by decide +kernel
set_option maxRecDepth 20000 in
theorem ggX5_size_X5_isRow : GoodIn wsX5_size wsX5_isRow := goodIn_r _ [5] (by decide +kernel) (by decide +kernel)
set_option maxRecDepth 20000 in
theorem gX5_size_X5_isRow : GoodIn wsX5_size (va_wsS RX5 67 yX5_isRow wsX5_isRow) := goodIn_app (goodIn_of _ (by decide +kernel)) ggX5_size_X5_isRow
theorem dX5_size_0 : decode cX5_size 0 = .ok (.iload_n 1, 1) := by decide +kernel
theorem dX5_size_1 : decode cX5_size 1 = .ok (.invokestatic 67, 3) := by decide +kernel
theorem dX5_size_4 : decode cX5_size 4 = .ok (.ifCond .eq 15, 3) := by decide +kernel
theorem dX5_size_7 : decode cX5_size 7 = .ok (.aload_n 0, 1) := by decide +kernel
theorem dX5_size_8 : decode cX5_size 8 = .ok (.getfield 24, 3) := by decide +kernel
theorem dX5_size_11 : decode cX5_size 11 = .ok (.iload_n 1, 1) := by decide +kernel
theorem dX5_size_12 : decode cX5_size 12 = .ok (.aaload, 1) := by decide +kernel
theorem dX5_size_13 : decode cX5_size 13 = .ok (.getfield 80, 3) := by decide +kernel
theorem dX5_size_16 : decode cX5_size 16 = .ok (.goto 4, 3) := by decide +kernel
theorem dX5_size_19 : decode cX5_size 19 = .ok (.iconst (-1), 1) := by decide +kernel
theorem dX5_size_20 : decode cX5_size 20 = .ok (.ireturn, 1) := by decide +kernel
set_option maxRecDepth 20000 in
theorem ggX5_symbol_X5_isRow : GoodIn wsX5_symbol wsX5_isRow := goodIn_r _ [5] (by decide +kernel) (by decide +kernel)
set_option maxRecDepth 20000 in
theorem gX5_symbol_X5_isRow : GoodIn wsX5_symbol (va_wsS RX5 67 yX5_isRow wsX5_isRow) := goodIn_app (goodIn_of _ (by decide +kernel)) ggX5_symbol_X5_isRow
set_option maxRecDepth 20000 in
theorem ggX5_symbol_X2_at : GoodIn wsX5_symbol wsX2_at := goodIn_r _ [10, 11, 12, 22, 23] (by decide +kernel) (by decide +kernel)
set_option maxRecDepth 20000 in
theorem gX5_symbol_X2_at : GoodIn wsX5_symbol (wsV RX5 83 RX2 yX2_at wsX2_at) := goodIn_app (goodIn_of _ (by decide +kernel)) ggX5_symbol_X2_at
theorem dX5_symbol_0 : decode cX5_symbol 0 = .ok (.iload_n 1, 1) := by decide +kernel
theorem dX5_symbol_1 : decode cX5_symbol 1 = .ok (.invokestatic 67, 3) := by decide +kernel
theorem dX5_symbol_4 : decode cX5_symbol 4 = .ok (.ifCond .eq 18, 3) := by decide +kernel
theorem dX5_symbol_7 : decode cX5_symbol 7 = .ok (.aload_n 0, 1) := by decide +kernel
theorem dX5_symbol_8 : decode cX5_symbol 8 = .ok (.getfield 24, 3) := by decide +kernel
theorem dX5_symbol_11 : decode cX5_symbol 11 = .ok (.iload_n 1, 1) := by decide +kernel
theorem dX5_symbol_12 : decode cX5_symbol 12 = .ok (.aaload, 1) := by decide +kernel
theorem dX5_symbol_13 : decode cX5_symbol 13 = .ok (.iload_n 2, 1) := by decide +kernel
theorem dX5_symbol_14 : decode cX5_symbol 14 = .ok (.iconst (-1), 1) := by decide +kernel
theorem dX5_symbol_15 : decode cX5_symbol 15 = .ok (.invokevirtual 83, 3) := by decide +kernel
theorem dX5_symbol_18 : decode cX5_symbol 18 = .ok (.i2s, 1) := by decide +kernel
theorem dX5_symbol_19 : decode cX5_symbol 19 = .ok (.goto 4, 3) := by decide +kernel
theorem dX5_symbol_22 : decode cX5_symbol 22 = .ok (.iconst (-1), 1) := by decide +kernel
theorem dX5_symbol_23 : decode cX5_symbol 23 = .ok (.ireturn, 1) := by decide +kernel
set_option maxRecDepth 20000 in
theorem ggX5_diff_X5_isRow : GoodIn wsX5_diff wsX5_isRow := goodIn_r _ [14] (by decide +kernel) (by decide +kernel)
set_option maxRecDepth 20000 in
theorem gX5_diff_X5_isRow : GoodIn wsX5_diff (va_wsS RX5 67 yX5_isRow wsX5_isRow) := goodIn_app (goodIn_of _ (by decide +kernel)) ggX5_diff_X5_isRow
set_option maxRecDepth 20000 in
theorem ggX5_diff_X0_compare : GoodIn wsX5_diff wsX0_compare := goodIn_r _ [19, 20, 21, 22, 23, 24, 25, 18, 26, 27, 28, 29, 30, 31, 32, 33, 34, 82, 83, 84, 76, 77] (by decide +kernel) (by decide +kernel)
set_option maxRecDepth 20000 in
theorem gX5_diff_X0_compare : GoodIn wsX5_diff (wsV RX5 93 RX0 yX0_compare wsX0_compare) := goodIn_app (goodIn_of _ (by decide +kernel)) ggX5_diff_X0_compare
set_option maxRecDepth 20000 in
theorem ggX5_diff_X0_operations : GoodIn wsX5_diff wsX0_operations := goodIn_r _ [38, 22, 82, 83, 84] (by decide +kernel) (by decide +kernel)
set_option maxRecDepth 20000 in
theorem gX5_diff_X0_operations : GoodIn wsX5_diff (wsV RX5 97 RX0 yX0_operations wsX0_operations) := goodIn_app (goodIn_of _ (by decide +kernel)) ggX5_diff_X0_operations
set_option maxRecDepth 20000 in
theorem ggX5_diff_X0_writeTo : GoodIn wsX5_diff wsX0_writeTo := goodIn_r _ [42, 20, 21, 43, 44, 45, 46, 47, 48, 49, 50, 51, 18, 52, 22, 31, 32, 33, 34, 53, 54, 55, 56, 57, 58, 59, 60, 61, 62, 63, 64, 65, 66, 82, 83, 84, 76, 77, 78, 79, 80, 81] (by decide +kernel) (by decide +kernel)
set_option maxRecDepth 20000 in
theorem gX5_diff_X0_writeTo : GoodIn wsX5_diff (wsV RX5 106 RX0 yX0_writeTo wsX0_writeTo) := goodIn_app (goodIn_of _ (by decide +kernel)) ggX5_diff_X0_writeTo
theorem dX5_diff_0 : decode cX5_diff 0 = .ok (.iload_n 1, 1) := by decide +kernel
theorem dX5_diff_1 : decode cX5_diff 1 = .ok (.invokestatic 67, 3) := by decide +kernel
theorem dX5_diff_4 : decode cX5_diff 4 = .ok (.ifCond .eq 10, 3) := by decide +kernel
theorem dX5_diff_7 : decode cX5_diff 7 = .ok (.iload_n 2, 1) := by decide +kernel
theorem dX5_diff_8 : decode cX5_diff 8 = .ok (.invokestatic 67, 3) := by decide +kernel
theorem dX5_diff_11 : decode cX5_diff 11 = .ok (.ifCond .ne 13, 3) := by decide +kernel
theorem dX5_diff_14 : decode cX5_diff 14 = .ok (.new 86, 3) := by decide +kernel
theorem dX5_diff_17 : decode cX5_diff 17 = .ok (.dup, 1) := by decide +kernel
theorem dX5_diff_18 : decode cX5_diff 18 = .ok (.ldc 88, 2) := by decide +kernel
theorem dX5_diff_20 : decode cX5_diff 20 = .ok (.invokespecial 90, 3) := by decide +kernel
theorem dX5_diff_23 : decode cX5_diff 23 = .ok (.athrow, 1) := by decide +kernel
theorem dX5_diff_24 : decode cX5_diff 24 = .ok (.aload_n 0, 1) := by decide +kernel
theorem dX5_diff_25 : decode cX5_diff 25 = .ok (.getfield 47, 3) := by decide +kernel
theorem dX5_diff_28 : decode cX5_diff 28 = .ok (.aload_n 0, 1) := by decide +kernel
theorem dX5_diff_29 : decode cX5_diff 29 = .ok (.getfield 24, 3) := by decide +kernel
theorem dX5_diff_32 : decode cX5_diff 32 = .ok (.iload_n 1, 1) := by decide +kernel
theorem dX5_diff_33 : decode cX5_diff 33 = .ok (.aaload, 1) := by decide +kernel
theorem dX5_diff_34 : decode cX5_diff 34 = .ok (.aload_n 0, 1) := by decide +kernel
theorem dX5_diff_35 : decode cX5_diff 35 = .ok (.getfield 24, 3) := by decide +kernel
theorem dX5_diff_38 : decode cX5_diff 38 = .ok (.iload_n 2, 1) := by decide +kernel
theorem dX5_diff_39 : decode cX5_diff 39 = .ok (.aaload, 1) := by decide +kernel
theorem dX5_diff_40 : decode cX5_diff 40 = .ok (.invokevirtual 93, 3) := by decide +kernel
theorem dX5_diff_43 : decode cX5_diff 43 = .ok (.aload_n 0, 1) := by decide +kernel
theorem dX5_diff_44 : decode cX5_diff 44 = .ok (.getfield 47, 3) := by decide +kernel
theorem dX5_diff_47 : decode cX5_diff 47 = .ok (.invokevirtual 97, 3) := by decide +kernel
theorem dX5_diff_50 : decode cX5_diff 50 = .ok (.aload_n 0, 1) := by decide +kernel
theorem dX5_diff_51 : decode cX5_diff 51 = .ok (.getfield 18, 3) := by decide +kernel
theorem dX5_diff_54 : decode cX5_diff 54 = .ok (.if_icmp .le 13, 3) := by decide +kernel
theorem dX5_diff_57 : decode cX5_diff 57 = .ok (.new 101, 3) := by decide +kernel
theorem dX5_diff_60 : decode cX5_diff 60 = .ok (.dup, 1) := by decide +kernel
theorem dX5_diff_61 : decode cX5_diff 61 = .ok (.ldc 103, 2) := by decide +kernel
theorem dX5_diff_63 : decode cX5_diff 63 = .ok (.invokespecial 105, 3) := by decide +kernel
theorem dX5_diff_66 : decode cX5_diff 66 = .ok (.athrow, 1) := by decide +kernel
theorem dX5_diff_67 : decode cX5_diff 67 = .ok (.aload_n 0, 1) := by decide +kernel
theorem dX5_diff_68 : decode cX5_diff 68 = .ok (.getfield 47, 3) := by decide +kernel
theorem dX5_diff_71 : decode cX5_diff 71 = .ok (.aload_n 0, 1) := by decide +kernel
theorem dX5_diff_72 : decode cX5_diff 72 = .ok (.getfield 34, 3) := by decide +kernel
theorem dX5_diff_75 : decode cX5_diff 75 = .ok (.invokevirtual 106, 3) := by decide +kernel
theorem dX5_diff_78 : decode cX5_diff 78 = .ok (.aload_n 0, 1) := by decide +kernel
theorem dX5_diff_79 : decode cX5_diff 79 = .ok (.getfield 47, 3) := by decide +kernel
theorem dX5_diff_82 : decode cX5_diff 82 = .ok (.aload_n 0, 1) := by decide +kernel
theorem dX5_diff_83 : decode cX5_diff 83 = .ok (.getfield 38, 3) := by decide +kernel
theorem dX5_diff_86 : decode cX5_diff 86 = .ok (.invokevirtual 106, 3) := by decide +kernel
theorem dX5_diff_89 : decode cX5_diff 89 = .ok (.aload_n 0, 1) := by decide +kernel
theorem dX5_diff_90 : decode cX5_diff 90 = .ok (.aload_n 0, 1) := by decide +kernel
theorem dX5_diff_91 : decode cX5_diff 91 = .ok (.getfield 24, 3) := by decide +kernel
theorem dX5_diff_94 : decode cX5_diff 94 = .ok (.iload_n 1, 1) := by decide +kernel
theorem dX5_diff_95 : decode cX5_diff 95 = .ok (.aaload, 1) := by decide +kernel
theorem dX5_diff_96 : decode cX5_diff 96 = .ok (.getfield 80, 3) := by decide +kernel
theorem dX5_diff_99 : decode cX5_diff 99 = .ok (.putfield 41, 3) := by decide +kernel
theorem dX5_diff_102 : decode cX5_diff 102 = .ok (.aload_n 0, 1) := by decide +kernel
theorem dX5_diff_103 : decode cX5_diff 103 = .ok (.getfield 34, 3) := by decide +kernel
theorem dX5_diff_106 : decode cX5_diff 106 = .ok (.getfield 110, 3) := by decide +kernel
theorem dX5_diff_109 : decode cX5_diff 109 = .ok (.ireturn, 1) := by decide +kernel
set_option maxRecDepth 20000 in
theorem ggX5_operation_X3_has : GoodIn wsX5_operation wsX3_has := goodIn_r _ [6, 7, 17, 18, 19, 20] (by decide +kernel) (by decide +kernel)
set_option maxRecDepth 20000 in
theorem gX5_operation_X3_has : GoodIn wsX5_operation (wsV RX5 111 RX3 yX3_has wsX3_has) := goodIn_app (goodIn_of _ (by decide +kernel)) ggX5_operation_X3_has
theorem dX5_operation_0 : decode cX5_operation 0 = .ok (.aload_n 0, 1) := by decide +kernel
theorem dX5_operation_1 : decode cX5_operation 1 = .ok (.getfield 34, 3) := by decide +kernel
theorem dX5_operation_4 : decode cX5_operation 4 = .ok (.iload_n 1, 1) := by decide +kernel
theorem dX5_operation_5 : decode cX5_operation 5 = .ok (.invokevirtual 111, 3) := by decide +kernel
theorem dX5_operation_8 : decode cX5_operation 8 = .ok (.ifCond .ne 5, 3) := by decide +kernel
theorem dX5_operation_11 : decode cX5_operation 11 = .ok (.iconst (-1), 1) := by decide +kernel
theorem dX5_operation_12 : decode cX5_operation 12 = .ok (.ireturn, 1) := by decide +kernel
theorem dX5_operation_13 : decode cX5_operation 13 = .ok (.iload_n 2, 1) := by decide +kernel
theorem dX5_operation_14 : decode cX5_operation 14 = .ok (.tableswitch 56 0 2 #[26, 36, 46], 26) := by decide +kernel
theorem dX5_operation_40 : decode cX5_operation 40 = .ok (.aload_n 0, 1) := by decide +kernel
theorem dX5_operation_41 : decode cX5_operation 41 = .ok (.getfield 34, 3) := by decide +kernel
theorem dX5_operation_44 : decode cX5_operation 44 = .ok (.getfield 114, 3) := by decide +kernel
theorem dX5_operation_47 : decode cX5_operation 47 = .ok (.iload_n 1, 1) := by decide +kernel
theorem dX5_operation_48 : decode cX5_operation 48 = .ok (.iaload, 1) := by decide +kernel
theorem dX5_operation_49 : decode cX5_operation 49 = .ok (.ireturn, 1) := by decide +kernel
theorem dX5_operation_50 : decode cX5_operation 50 = .ok (.aload_n 0, 1) := by decide +kernel
theorem dX5_operation_51 : decode cX5_operation 51 = .ok (.getfield 34, 3) := by decide +kernel
theorem dX5_operation_54 : decode cX5_operation 54 = .ok (.getfield 118, 3) := by decide +kernel
theorem dX5_operation_57 : decode cX5_operation 57 = .ok (.iload_n 1, 1) := by decide +kernel
theorem dX5_operation_58 : decode cX5_operation 58 = .ok (.iaload, 1) := by decide +kernel
theorem dX5_operation_59 : decode cX5_operation 59 = .ok (.ireturn, 1) := by decide +kernel
theorem dX5_operation_60 : decode cX5_operation 60 = .ok (.aload_n 0, 1) := by decide +kernel
theorem dX5_operation_61 : decode cX5_operation 61 = .ok (.getfield 34, 3) := by decide +kernel
theorem dX5_operation_64 : decode cX5_operation 64 = .ok (.getfield 121, 3) := by decide +kernel
theorem dX5_operation_67 : decode cX5_operation 67 = .ok (.iload_n 1, 1) := by decide +kernel
theorem dX5_operation_68 : decode cX5_operation 68 = .ok (.iaload, 1) := by decide +kernel
theorem dX5_operation_69 : decode cX5_operation 69 = .ok (.ireturn, 1) := by decide +kernel
theorem dX5_operation_70 : decode cX5_operation 70 = .ok (.iconst (-1), 1) := by decide +kernel
theorem dX5_operation_71 : decode cX5_operation 71 = .ok (.ireturn, 1) := by decide +kernel
set_option maxRecDepth 20000 in
theorem ggX5_forget_X3_empty : GoodIn wsX5_forget wsX3_empty := goodIn_r _ [6, 7, 17, 18, 19, 20] (by decide +kernel) (by decide +kernel)
set_option maxRecDepth 20000 in
theorem gX5_forget_X3_empty : GoodIn wsX5_forget (wsV RX5 124 RX3 yX3_empty wsX3_empty) := goodIn_app (goodIn_of _ (by decide +kernel)) ggX5_forget_X3_empty
theorem dX5_forget_0 : decode cX5_forget 0 = .ok (.aload_n 0, 1) := by decide +kernel
theorem dX5_forget_1 : decode cX5_forget 1 = .ok (.getfield 34, 3) := by decide +kernel
theorem dX5_forget_4 : decode cX5_forget 4 = .ok (.invokevirtual 124, 3) := by decide +kernel
theorem dX5_forget_7 : decode cX5_forget 7 = .ok (.return_, 1) := by decide +kernel
set_option maxRecDepth 20000 in
theorem ggX5_load_X3_add : GoodIn wsX5_load wsX3_add := goodIn_r _ [6, 7, 8, 9, 10, 20, 21, 22, 23] (by decide +kernel) (by decide +kernel)
set_option maxRecDepth 20000 in
theorem gX5_load_X3_add : GoodIn wsX5_load (wsV RX5 125 RX3 yX3_add wsX3_add) := goodIn_app (goodIn_of _ (by decide +kernel)) ggX5_load_X3_add
theorem dX5_load_0 : decode cX5_load 0 = .ok (.aload_n 0, 1) := by decide +kernel
theorem dX5_load_1 : decode cX5_load 1 = .ok (.getfield 34, 3) := by decide +kernel
theorem dX5_load_4 : decode cX5_load 4 = .ok (.iload_n 1, 1) := by decide +kernel
theorem dX5_load_5 : decode cX5_load 5 = .ok (.iload_n 2, 1) := by decide +kernel
theorem dX5_load_6 : decode cX5_load 6 = .ok (.iload_n 3, 1) := by decide +kernel
theorem dX5_load_7 : decode cX5_load 7 = .ok (.invokevirtual 125, 3) := by decide +kernel
theorem dX5_load_10 : decode cX5_load 10 = .ok (.ireturn, 1) := by decide +kernel
set_option maxRecDepth 20000 in
theorem ggX5_patch_X5_isRow : GoodIn wsX5_patch wsX5_isRow := goodIn_r _ [10] (by decide +kernel) (by decide +kernel)
set_option maxRecDepth 20000 in
theorem gX5_patch_X5_isRow : GoodIn wsX5_patch (va_wsS RX5 67 yX5_isRow wsX5_isRow) := goodIn_app (goodIn_of _ (by decide +kernel)) ggX5_patch_X5_isRow
set_option maxRecDepth 20000 in
theorem ggX5_patch_X2_empty : GoodIn wsX5_patch wsX2_empty := goodIn_r _ [15, 16, 78, 79] (by decide +kernel) (by decide +kernel)
set_option maxRecDepth 20000 in
theorem gX5_patch_X2_empty : GoodIn wsX5_patch (wsV RX5 77 RX2 yX2_empty wsX2_empty) := goodIn_app (goodIn_of _ (by decide +kernel)) ggX5_patch_X2_empty
set_option maxRecDepth 20000 in
theorem ggX5_patch_X5_checkOperation : GoodIn wsX5_patch wsX5_checkOperation := goodIn_ca (goodIn_ca (goodIn_ca (goodIn_r _ [20, 1, 2, 21, 22, 23, 24, 5, 25, 26, 9, 27, 28, 29, 30, 31, 32, 33, 34, 35, 36, 37, 38, 39, 40, 41, 42, 14, 43, 16, 44, 65, 66, 67, 68, 69, 70, 71, 72, 73, 74, 75, 76, 77, 78, 79] (by decide +kernel) (by decide +kernel)) (goodIn_sub (fun _ h => List.mem_cons_of_mem _ (List.mem_append_left _ (List.mem_append_left _ (List.mem_append_left _ (List.mem_append_right _ h))))) (by decide +kernel))) (goodIn_sub (fun _ h => List.mem_cons_of_mem _ (List.mem_append_left _ (List.mem_append_left _ (List.mem_append_right _ h)))) (by decide +kernel))) (goodIn_sub (fun _ h => List.mem_cons_of_mem _ (List.mem_append_left _ (List.mem_append_right _ h))) (by decide +kernel))
set_option maxRecDepth 20000 in
theorem gX5_patch_X5_checkOperation : GoodIn wsX5_patch (wsV RX5 128 RX5 yX5_checkOperation wsX5_checkOperation) := goodIn_app (goodIn_of _ (by decide +kernel)) ggX5_patch_X5_checkOperation
set_option maxRecDepth 20000 in
theorem ggX5_patch_X5_checkRoom : GoodIn wsX5_patch wsX5_checkRoom := goodIn_ca (goodIn_r _ [48, 49, 50, 4, 65, 66, 67, 68, 69, 70, 71, 72, 73, 78, 79] (by decide +kernel) (by decide +kernel)) (goodIn_sub (fun _ h => List.mem_cons_of_mem _ (List.mem_append_right _ h)) (by decide +kernel))
set_option maxRecDepth 20000 in
theorem gX5_patch_X5_checkRoom : GoodIn wsX5_patch (wsV RX5 132 RX5 yX5_checkRoom wsX5_checkRoom) := goodIn_app (goodIn_of _ (by decide +kernel)) ggX5_patch_X5_checkRoom
set_option maxRecDepth 20000 in
theorem ggX5_patch_X2_addAll : GoodIn wsX5_patch wsX2_addAll := goodIn_r _ [54, 55, 41, 42, 14, 43, 16, 44, 56, 57, 58, 59, 78, 79] (by decide +kernel) (by decide +kernel)
set_option maxRecDepth 20000 in
theorem gX5_patch_X2_addAll : GoodIn wsX5_patch (wsV RX5 135 RX2 yX2_addAll wsX2_addAll) := goodIn_app (goodIn_of _ (by decide +kernel)) ggX5_patch_X2_addAll
set_option maxRecDepth 20000 in
theorem ggX5_patch_X3_behind : GoodIn wsX5_patch wsX3_behind := goodIn_r _ [32, 33, 34, 35, 36, 37, 31, 38, 39, 74, 75, 76, 77] (by decide +kernel) (by decide +kernel)
set_option maxRecDepth 20000 in
theorem gX5_patch_X3_behind : GoodIn wsX5_patch (wsV RX5 139 RX3 yX3_behind wsX3_behind) := goodIn_app (goodIn_of _ (by decide +kernel)) ggX5_patch_X3_behind
set_option maxRecDepth 20000 in
theorem ggX5_patch_X2_add : GoodIn wsX5_patch wsX2_add := goodIn_r _ [59, 16, 44, 78, 79] (by decide +kernel) (by decide +kernel)
set_option maxRecDepth 20000 in
theorem gX5_patch_X2_add : GoodIn wsX5_patch (wsV RX5 74 RX2 yX2_add wsX2_add) := goodIn_app (goodIn_of _ (by decide +kernel)) ggX5_patch_X2_add
set_option maxRecDepth 20000 in
theorem ggX5_patch_X5_swapResultAndDraft : GoodIn wsX5_patch wsX5_swapResultAndDraft := goodIn_r _ [64, 6, 4, 65, 66, 67, 68, 69, 70, 71, 72, 73] (by decide +kernel) (by decide +kernel)
set_option maxRecDepth 20000 in
theorem gX5_patch_X5_swapResultAndDraft : GoodIn wsX5_patch (wsV RX5 143 RX5 yX5_swapResultAndDraft wsX5_swapResultAndDraft) := goodIn_app (goodIn_of _ (by decide +kernel)) ggX5_patch_X5_swapResultAndDraft
theorem dX5_patch_0 : decode cX5_patch 0 = .ok (.iload_n 1, 1) := by decide +kernel
theorem dX5_patch_1 : decode cX5_patch 1 = .ok (.invokestatic 67, 3) := by decide +kernel
theorem dX5_patch_4 : decode cX5_patch 4 = .ok (.ifCond .ne 13, 3) := by decide +kernel
theorem dX5_patch_7 : decode cX5_patch 7 = .ok (.new 86, 3) := by decide +kernel
theorem dX5_patch_10 : decode cX5_patch 10 = .ok (.dup, 1) := by decide +kernel
theorem dX5_patch_11 : decode cX5_patch 11 = .ok (.ldc 88, 2) := by decide +kernel
theorem dX5_patch_13 : decode cX5_patch 13 = .ok (.invokespecial 90, 3) := by decide +kernel
theorem dX5_patch_16 : decode cX5_patch 16 = .ok (.athrow, 1) := by decide +kernel
theorem dX5_patch_17 : decode cX5_patch 17 = .ok (.aload_n 0, 1) := by decide +kernel
theorem dX5_patch_18 : decode cX5_patch 18 = .ok (.getfield 24, 3) := by decide +kernel
theorem dX5_patch_21 : decode cX5_patch 21 = .ok (.iload_n 1, 1) := by decide +kernel
theorem dX5_patch_22 : decode cX5_patch 22 = .ok (.aaload, 1) := by decide +kernel
theorem dX5_patch_23 : decode cX5_patch 23 = .ok (.astore_n 2, 1) := by decide +kernel
theorem dX5_patch_24 : decode cX5_patch 24 = .ok (.aload_n 0, 1) := by decide +kernel
theorem dX5_patch_25 : decode cX5_patch 25 = .ok (.getfield 64, 3) := by decide +kernel
theorem dX5_patch_28 : decode cX5_patch 28 = .ok (.invokevirtual 77, 3) := by decide +kernel
theorem dX5_patch_31 : decode cX5_patch 31 = .ok (.iconst 0, 1) := by decide +kernel
theorem dX5_patch_32 : decode cX5_patch 32 = .ok (.istore_n 3, 1) := by decide +kernel
theorem dX5_patch_33 : decode cX5_patch 33 = .ok (.iconst 0, 1) := by decide +kernel
theorem dX5_patch_34 : decode cX5_patch 34 = .ok (.istore 4, 2) := by decide +kernel
theorem dX5_patch_36 : decode cX5_patch 36 = .ok (.iload 4, 2) := by decide +kernel
theorem dX5_patch_38 : decode cX5_patch 38 = .ok (.aload_n 0, 1) := by decide +kernel
theorem dX5_patch_39 : decode cX5_patch 39 = .ok (.getfield 34, 3) := by decide +kernel
theorem dX5_patch_42 : decode cX5_patch 42 = .ok (.getfield 110, 3) := by decide +kernel
theorem dX5_patch_45 : decode cX5_patch 45 = .ok (.if_icmp .ge 112, 3) := by decide +kernel
theorem dX5_patch_48 : decode cX5_patch 48 = .ok (.aload_n 0, 1) := by decide +kernel
theorem dX5_patch_49 : decode cX5_patch 49 = .ok (.aload_n 2, 1) := by decide +kernel
theorem dX5_patch_50 : decode cX5_patch 50 = .ok (.iload 4, 2) := by decide +kernel
theorem dX5_patch_52 : decode cX5_patch 52 = .ok (.invokevirtual 128, 3) := by decide +kernel
theorem dX5_patch_55 : decode cX5_patch 55 = .ok (.aload_n 0, 1) := by decide +kernel
theorem dX5_patch_56 : decode cX5_patch 56 = .ok (.getfield 34, 3) := by decide +kernel
theorem dX5_patch_59 : decode cX5_patch 59 = .ok (.getfield 118, 3) := by decide +kernel
theorem dX5_patch_62 : decode cX5_patch 62 = .ok (.iload 4, 2) := by decide +kernel
theorem dX5_patch_64 : decode cX5_patch 64 = .ok (.iaload, 1) := by decide +kernel
theorem dX5_patch_65 : decode cX5_patch 65 = .ok (.istore 5, 2) := by decide +kernel
theorem dX5_patch_67 : decode cX5_patch 67 = .ok (.aload_n 0, 1) := by decide +kernel
theorem dX5_patch_68 : decode cX5_patch 68 = .ok (.getfield 34, 3) := by decide +kernel
theorem dX5_patch_71 : decode cX5_patch 71 = .ok (.getfield 114, 3) := by decide +kernel
theorem dX5_patch_74 : decode cX5_patch 74 = .ok (.iload 4, 2) := by decide +kernel
theorem dX5_patch_76 : decode cX5_patch 76 = .ok (.iaload, 1) := by decide +kernel
theorem dX5_patch_77 : decode cX5_patch 77 = .ok (.iconst 1, 1) := by decide +kernel
theorem dX5_patch_78 : decode cX5_patch 78 = .ok (.if_icmp .ne 7, 3) := by decide +kernel
theorem dX5_patch_81 : decode cX5_patch 81 = .ok (.iconst 1, 1) := by decide +kernel
theorem dX5_patch_82 : decode cX5_patch 82 = .ok (.goto 4, 3) := by decide +kernel
theorem dX5_patch_85 : decode cX5_patch 85 = .ok (.iconst 0, 1) := by decide +kernel
theorem dX5_patch_86 : decode cX5_patch 86 = .ok (.istore 6, 2) := by decide +kernel
theorem dX5_patch_88 : decode cX5_patch 88 = .ok (.aload_n 0, 1) := by decide +kernel
theorem dX5_patch_89 : decode cX5_patch 89 = .ok (.iload 5, 2) := by decide +kernel
theorem dX5_patch_91 : decode cX5_patch 91 = .ok (.iload_n 3, 1) := by decide +kernel
theorem dX5_patch_92 : decode cX5_patch 92 = .ok (.isub, 1) := by decide +kernel
theorem dX5_patch_93 : decode cX5_patch 93 = .ok (.iload 6, 2) := by decide +kernel
theorem dX5_patch_95 : decode cX5_patch 95 = .ok (.ifCond .eq 7, 3) := by decide +kernel
theorem dX5_patch_98 : decode cX5_patch 98 = .ok (.iconst 1, 1) := by decide +kernel
theorem dX5_patch_99 : decode cX5_patch 99 = .ok (.goto 4, 3) := by decide +kernel
theorem dX5_patch_102 : decode cX5_patch 102 = .ok (.iconst 0, 1) := by decide +kernel
theorem dX5_patch_103 : decode cX5_patch 103 = .ok (.iadd, 1) := by decide +kernel
theorem dX5_patch_104 : decode cX5_patch 104 = .ok (.invokevirtual 132, 3) := by decide +kernel
theorem dX5_patch_107 : decode cX5_patch 107 = .ok (.aload_n 0, 1) := by decide +kernel
theorem dX5_patch_108 : decode cX5_patch 108 = .ok (.getfield 64, 3) := by decide +kernel
theorem dX5_patch_111 : decode cX5_patch 111 = .ok (.aload_n 2, 1) := by decide +kernel
theorem dX5_patch_112 : decode cX5_patch 112 = .ok (.iload_n 3, 1) := by decide +kernel
theorem dX5_patch_113 : decode cX5_patch 113 = .ok (.iload 5, 2) := by decide +kernel
theorem dX5_patch_115 : decode cX5_patch 115 = .ok (.invokevirtual 135, 3) := by decide +kernel
theorem dX5_patch_118 : decode cX5_patch 118 = .ok (.aload_n 0, 1) := by decide +kernel
theorem dX5_patch_119 : decode cX5_patch 119 = .ok (.getfield 34, 3) := by decide +kernel
theorem dX5_patch_122 : decode cX5_patch 122 = .ok (.iload 4, 2) := by decide +kernel
theorem dX5_patch_124 : decode cX5_patch 124 = .ok (.invokevirtual 139, 3) := by decide +kernel
theorem dX5_patch_127 : decode cX5_patch 127 = .ok (.istore_n 3, 1) := by decide +kernel
theorem dX5_patch_128 : decode cX5_patch 128 = .ok (.iload 6, 2) := by decide +kernel
theorem dX5_patch_130 : decode cX5_patch 130 = .ok (.ifCond .eq 21, 3) := by decide +kernel
theorem dX5_patch_133 : decode cX5_patch 133 = .ok (.aload_n 0, 1) := by decide +kernel
theorem dX5_patch_134 : decode cX5_patch 134 = .ok (.getfield 64, 3) := by decide +kernel
theorem dX5_patch_137 : decode cX5_patch 137 = .ok (.aload_n 0, 1) := by decide +kernel
theorem dX5_patch_138 : decode cX5_patch 138 = .ok (.getfield 34, 3) := by decide +kernel
theorem dX5_patch_141 : decode cX5_patch 141 = .ok (.getfield 121, 3) := by decide +kernel
theorem dX5_patch_144 : decode cX5_patch 144 = .ok (.iload 4, 2) := by decide +kernel
theorem dX5_patch_146 : decode cX5_patch 146 = .ok (.iaload, 1) := by decide +kernel
theorem dX5_patch_147 : decode cX5_patch 147 = .ok (.invokevirtual 74, 3) := by decide +kernel
theorem dX5_patch_150 : decode cX5_patch 150 = .ok (.pop, 1) := by decide +kernel
theorem dX5_patch_151 : decode cX5_patch 151 = .ok (.iinc 4 1, 3) := by decide +kernel
theorem dX5_patch_154 : decode cX5_patch 154 = .ok (.goto (-118), 3) := by decide +kernel
theorem dX5_patch_157 : decode cX5_patch 157 = .ok (.aload_n 0, 1) := by decide +kernel
theorem dX5_patch_158 : decode cX5_patch 158 = .ok (.aload_n 2, 1) := by decide +kernel
theorem dX5_patch_159 : decode cX5_patch 159 = .ok (.getfield 80, 3) := by decide +kernel
theorem dX5_patch_162 : decode cX5_patch 162 = .ok (.iload_n 3, 1) := by decide +kernel
theorem dX5_patch_163 : decode cX5_patch 163 = .ok (.isub, 1) := by decide +kernel
theorem dX5_patch_164 : decode cX5_patch 164 = .ok (.invokevirtual 132, 3) := by decide +kernel
theorem dX5_patch_167 : decode cX5_patch 167 = .ok (.aload_n 0, 1) := by decide +kernel
theorem dX5_patch_168 : decode cX5_patch 168 = .ok (.getfield 64, 3) := by decide +kernel
theorem dX5_patch_171 : decode cX5_patch 171 = .ok (.aload_n 2, 1) := by decide +kernel
theorem dX5_patch_172 : decode cX5_patch 172 = .ok (.iload_n 3, 1) := by decide +kernel
theorem dX5_patch_173 : decode cX5_patch 173 = .ok (.aload_n 2, 1) := by decide +kernel
theorem dX5_patch_174 : decode cX5_patch 174 = .ok (.getfield 80, 3) := by decide +kernel
theorem dX5_patch_177 : decode cX5_patch 177 = .ok (.invokevirtual 135, 3) := by decide +kernel
theorem dX5_patch_180 : decode cX5_patch 180 = .ok (.aload_n 0, 1) := by decide +kernel
theorem dX5_patch_181 : decode cX5_patch 181 = .ok (.invokevirtual 143, 3) := by decide +kernel
theorem dX5_patch_184 : decode cX5_patch 184 = .ok (.aload_n 0, 1) := by decide +kernel
theorem dX5_patch_185 : decode cX5_patch 185 = .ok (.getfield 60, 3) := by decide +kernel
theorem dX5_patch_188 : decode cX5_patch 188 = .ok (.getfield 80, 3) := by decide +kernel
theorem dX5_patch_191 : decode cX5_patch 191 = .ok (.ireturn, 1) := by decide +kernel
set_option maxRecDepth 20000 in
theorem ggX5_merge_X2_empty : GoodIn wsX5_merge wsX2_empty := goodIn_r _ [8, 9, 118, 119] (by decide +kernel) (by decide +kernel)
set_option maxRecDepth 20000 in
theorem gX5_merge_X2_empty : GoodIn wsX5_merge (wsV RX5 77 RX2 yX2_empty wsX2_empty) := goodIn_app (goodIn_of _ (by decide +kernel)) ggX5_merge_X2_empty
set_option maxRecDepth 20000 in
theorem ggX5_merge_X1_mergeTo : GoodIn wsX5_merge wsX1_mergeTo := goodIn_r _ [14, 15, 16, 17, 18, 19, 20, 21, 22, 23, 24, 25, 26, 27, 28, 29, 30, 31, 32, 33, 34, 35, 36, 37, 38, 39, 40, 41, 42, 43, 44, 45, 46, 47, 5, 6, 7, 8, 9, 48, 49, 50, 51, 52, 53, 54, 55, 56, 57, 58, 59, 60, 61, 62, 63, 64, 65, 66, 13, 67, 68, 69, 70, 71, 72, 73, 74, 75, 76, 77, 78, 79, 80, 81, 82, 83, 84, 85, 86, 87, 88, 89, 90, 91, 92, 93, 94, 95, 96, 97, 98, 99, 100, 101, 102, 103, 104, 105, 106, 107, 108, 120, 121, 122, 123, 124, 125, 126, 127, 118, 119, 128, 129, 130, 131, 132, 133] (by decide +kernel) (by decide +kernel)
set_option maxRecDepth 20000 in
theorem gX5_merge_X1_mergeTo : GoodIn wsX5_merge (wsV RX5 146 RX1 yX1_mergeTo wsX1_mergeTo) := goodIn_app (goodIn_of _ (by decide +kernel)) ggX5_merge_X1_mergeTo
theorem dX5_merge_0 : decode cX5_merge 0 = .ok (.aload_n 0, 1) := by decide +kernel
theorem dX5_merge_1 : decode cX5_merge 1 = .ok (.getfield 60, 3) := by decide +kernel
theorem dX5_merge_4 : decode cX5_merge 4 = .ok (.invokevirtual 77, 3) := by decide +kernel
theorem dX5_merge_7 : decode cX5_merge 7 = .ok (.aload_n 0, 1) := by decide +kernel
theorem dX5_merge_8 : decode cX5_merge 8 = .ok (.getfield 56, 3) := by decide +kernel
theorem dX5_merge_11 : decode cX5_merge 11 = .ok (.aload_n 0, 1) := by decide +kernel
theorem dX5_merge_12 : decode cX5_merge 12 = .ok (.getfield 60, 3) := by decide +kernel
theorem dX5_merge_15 : decode cX5_merge 15 = .ok (.aload_n 0, 1) := by decide +kernel
theorem dX5_merge_16 : decode cX5_merge 16 = .ok (.getfield 47, 3) := by decide +kernel
theorem dX5_merge_19 : decode cX5_merge 19 = .ok (.invokevirtual 146, 3) := by decide +kernel
theorem dX5_merge_22 : decode cX5_merge 22 = .ok (.ireturn, 1) := by decide +kernel
end
section
set_option maxRecDepth 20000 in
theorem ggX5_result_X2_at : GoodIn wsX5_result wsX2_at := goodIn_r _ [6, 7, 8, 18, 19] (by decide +kernel) (by decide +kernel)
set_option maxRecDepth 20000 in
theorem gX5_result_X2_at : GoodIn wsX5_result (wsV RX5 83 RX2 yX2_at wsX2_at) := goodIn_app (goodIn_of _ (by decide +kernel)) ggX5_result_X2_at
theorem dX5_result_0 : decode cX5_result 0 = .ok (.aload_n 0, 1) := by decide +kernel
theorem dX5_result_1 : decode cX5_result 1 = .ok (.getfield 60, 3) := by decide +kernel
theorem dX5_result_4 : decode cX5_result 4 = .ok (.iload_n 1, 1) := by decide +kernel
theorem dX5_result_5 : decode cX5_result 5 = .ok (.bipush (-40), 2) := by decide +kernel
theorem dX5_result_7 : decode cX5_result 7 = .ok (.invokevirtual 83, 3) := by decide +kernel
theorem dX5_result_10 : decode cX5_result 10 = .ok (.ireturn, 1) := by decide +kernel
theorem dX5_results_0 : decode cX5_results 0 = .ok (.aload_n 0, 1) := by decide +kernel
theorem dX5_results_1 : decode cX5_results 1 = .ok (.getfield 60, 3) := by decide +kernel
theorem dX5_results_4 : decode cX5_results 4 = .ok (.getfield 80, 3) := by decide +kernel
theorem dX5_results_7 : decode cX5_results 7 = .ok (.ireturn, 1) := by decide +kernel
set_option maxRecDepth 20000 in
theorem ggX5_hunks_X5_isAround : GoodIn wsX5_hunks wsX5_isAround := goodIn_r _ [5] (by decide +kernel) (by decide +kernel)
set_option maxRecDepth 20000 in
theorem gX5_hunks_X5_isAround : GoodIn wsX5_hunks (va_wsS RX5 150 yX5_isAround wsX5_isAround) := goodIn_app (goodIn_of _ (by decide +kernel)) ggX5_hunks_X5_isAround
set_option maxRecDepth 20000 in
theorem ggX5_hunks_X3_beginsHunk : GoodIn wsX5_hunks wsX3_beginsHunk := goodIn_r _ [10, 11, 12, 13, 9, 14, 15, 16, 17, 18, 19, 20, 21, 22, 23, 24, 25, 35, 36, 37, 38] (by decide +kernel) (by decide +kernel)
set_option maxRecDepth 20000 in
theorem gX5_hunks_X3_beginsHunk : GoodIn wsX5_hunks (wsV RX5 153 RX3 yX3_beginsHunk wsX3_beginsHunk) := goodIn_app (goodIn_of _ (by decide +kernel)) ggX5_hunks_X3_beginsHunk
theorem dX5_hunks_0 : decode cX5_hunks 0 = .ok (.iload_n 1, 1) := by decide +kernel
theorem dX5_hunks_1 : decode cX5_hunks 1 = .ok (.invokestatic 150, 3) := by decide +kernel
theorem dX5_hunks_4 : decode cX5_hunks 4 = .ok (.ifCond .ne 5, 3) := by decide +kernel
theorem dX5_hunks_7 : decode cX5_hunks 7 = .ok (.iconst 0, 1) := by decide +kernel
theorem dX5_hunks_8 : decode cX5_hunks 8 = .ok (.ireturn, 1) := by decide +kernel
theorem dX5_hunks_9 : decode cX5_hunks 9 = .ok (.iconst 0, 1) := by decide +kernel
theorem dX5_hunks_10 : decode cX5_hunks 10 = .ok (.istore_n 2, 1) := by decide +kernel
theorem dX5_hunks_11 : decode cX5_hunks 11 = .ok (.iconst 0, 1) := by decide +kernel
theorem dX5_hunks_12 : decode cX5_hunks 12 = .ok (.istore_n 3, 1) := by decide +kernel
theorem dX5_hunks_13 : decode cX5_hunks 13 = .ok (.iload_n 3, 1) := by decide +kernel
theorem dX5_hunks_14 : decode cX5_hunks 14 = .ok (.aload_n 0, 1) := by decide +kernel
theorem dX5_hunks_15 : decode cX5_hunks 15 = .ok (.getfield 38, 3) := by decide +kernel
theorem dX5_hunks_18 : decode cX5_hunks 18 = .ok (.getfield 110, 3) := by decide +kernel
theorem dX5_hunks_21 : decode cX5_hunks 21 = .ok (.if_icmp .ge 24, 3) := by decide +kernel
theorem dX5_hunks_24 : decode cX5_hunks 24 = .ok (.aload_n 0, 1) := by decide +kernel
theorem dX5_hunks_25 : decode cX5_hunks 25 = .ok (.getfield 38, 3) := by decide +kernel
theorem dX5_hunks_28 : decode cX5_hunks 28 = .ok (.iload_n 3, 1) := by decide +kernel
theorem dX5_hunks_29 : decode cX5_hunks 29 = .ok (.iload_n 1, 1) := by decide +kernel
theorem dX5_hunks_30 : decode cX5_hunks 30 = .ok (.invokevirtual 153, 3) := by decide +kernel
theorem dX5_hunks_33 : decode cX5_hunks 33 = .ok (.ifCond .eq 6, 3) := by decide +kernel
theorem dX5_hunks_36 : decode cX5_hunks 36 = .ok (.iinc 2 1, 3) := by decide +kernel
theorem dX5_hunks_39 : decode cX5_hunks 39 = .ok (.iinc 3 1, 3) := by decide +kernel
theorem dX5_hunks_42 : decode cX5_hunks 42 = .ok (.goto (-29), 3) := by decide +kernel
theorem dX5_hunks_45 : decode cX5_hunks 45 = .ok (.iload_n 2, 1) := by decide +kernel
theorem dX5_hunks_46 : decode cX5_hunks 46 = .ok (.ireturn, 1) := by decide +kernel
set_option maxRecDepth 20000 in
theorem ggX5_hunk_X5_hunks : GoodIn wsX5_hunk wsX5_hunks := goodIn_r _ [14, 1, 15, 16, 13, 17, 18, 19, 20, 21, 22, 23, 24, 25, 26, 27, 28, 29, 30, 31, 32, 33, 34, 35, 36, 37, 53, 54, 55, 56, 57, 58, 59, 60, 61, 62, 63, 64, 65] (by decide +kernel) (by decide +kernel)
set_option maxRecDepth 20000 in
theorem gX5_hunk_X5_hunks : GoodIn wsX5_hunk (wsV RX5 157 RX5 yX5_hunks wsX5_hunks) := goodIn_app (goodIn_of _ (by decide +kernel)) ggX5_hunk_X5_hunks
set_option maxRecDepth 20000 in
theorem ggX5_hunk_X3_firstOfHunk : GoodIn wsX5_hunk wsX3_firstOfHunk := goodIn_r _ [41, 32, 42, 19, 20, 21, 22, 23, 24, 25, 26, 27, 28, 29, 30, 31, 33, 34, 35, 36, 37, 62, 63, 64, 65] (by decide +kernel) (by decide +kernel)
set_option maxRecDepth 20000 in
theorem gX5_hunk_X3_firstOfHunk : GoodIn wsX5_hunk (wsV RX5 160 RX3 yX3_firstOfHunk wsX3_firstOfHunk) := goodIn_app (goodIn_of _ (by decide +kernel)) ggX5_hunk_X3_firstOfHunk
set_option maxRecDepth 20000 in
theorem ggX5_hunk_X3_lastOfHunk : GoodIn wsX5_hunk wsX3_lastOfHunk := goodIn_r _ [46, 32, 42, 19, 20, 21, 22, 23, 24, 25, 26, 27, 28, 29, 30, 31, 33, 34, 35, 36, 37, 62, 63, 64, 65] (by decide +kernel) (by decide +kernel)
set_option maxRecDepth 20000 in
theorem gX5_hunk_X3_lastOfHunk : GoodIn wsX5_hunk (wsV RX5 163 RX3 yX3_lastOfHunk wsX3_lastOfHunk) := goodIn_app (goodIn_of _ (by decide +kernel)) ggX5_hunk_X3_lastOfHunk
set_option maxRecDepth 20000 in
theorem ggX5_hunk_X3_placeOf : GoodIn wsX5_hunk wsX3_placeOf := goodIn_r _ [26, 27, 28, 29, 30, 21, 31, 32, 62, 63, 64, 65] (by decide +kernel) (by decide +kernel)
set_option maxRecDepth 20000 in
theorem gX5_hunk_X3_placeOf : GoodIn wsX5_hunk (wsV RX5 166 RX3 yX3_placeOf wsX3_placeOf) := goodIn_app (goodIn_of _ (by decide +kernel)) ggX5_hunk_X3_placeOf
set_option maxRecDepth 20000 in
theorem ggX5_hunk_X3_behind : GoodIn wsX5_hunk wsX3_behind := goodIn_r _ [36, 37, 27, 28, 29, 30, 21, 31, 32, 62, 63, 64, 65] (by decide +kernel) (by decide +kernel)
set_option maxRecDepth 20000 in
theorem gX5_hunk_X3_behind : GoodIn wsX5_hunk (wsV RX5 139 RX3 yX3_behind wsX3_behind) := goodIn_app (goodIn_of _ (by decide +kernel)) ggX5_hunk_X3_behind
set_option maxRecDepth 20000 in
theorem ggX5_hunk_X3_countKind : GoodIn wsX5_hunk wsX3_countKind := goodIn_r _ [52, 37, 28, 29, 30, 21, 31, 32, 62, 63, 64, 65] (by decide +kernel) (by decide +kernel)
set_option maxRecDepth 20000 in
theorem gX5_hunk_X3_countKind : GoodIn wsX5_hunk (wsV RX5 169 RX3 yX3_countKind wsX3_countKind) := goodIn_app (goodIn_of _ (by decide +kernel)) ggX5_hunk_X3_countKind
theorem dX5_hunk_0 : decode cX5_hunk 0 = .ok (.iload_n 2, 1) := by decide +kernel
theorem dX5_hunk_1 : decode cX5_hunk 1 = .ok (.ifCond .lt 12, 3) := by decide +kernel
theorem dX5_hunk_4 : decode cX5_hunk 4 = .ok (.iload_n 2, 1) := by decide +kernel
theorem dX5_hunk_5 : decode cX5_hunk 5 = .ok (.aload_n 0, 1) := by decide +kernel
theorem dX5_hunk_6 : decode cX5_hunk 6 = .ok (.iload_n 1, 1) := by decide +kernel
theorem dX5_hunk_7 : decode cX5_hunk 7 = .ok (.invokevirtual 157, 3) := by decide +kernel
theorem dX5_hunk_10 : decode cX5_hunk 10 = .ok (.if_icmp .lt 5, 3) := by decide +kernel
theorem dX5_hunk_13 : decode cX5_hunk 13 = .ok (.iconst (-1), 1) := by decide +kernel
theorem dX5_hunk_14 : decode cX5_hunk 14 = .ok (.ireturn, 1) := by decide +kernel
theorem dX5_hunk_15 : decode cX5_hunk 15 = .ok (.aload_n 0, 1) := by decide +kernel
theorem dX5_hunk_16 : decode cX5_hunk 16 = .ok (.getfield 38, 3) := by decide +kernel
theorem dX5_hunk_19 : decode cX5_hunk 19 = .ok (.iload_n 2, 1) := by decide +kernel
theorem dX5_hunk_20 : decode cX5_hunk 20 = .ok (.iload_n 1, 1) := by decide +kernel
theorem dX5_hunk_21 : decode cX5_hunk 21 = .ok (.invokevirtual 160, 3) := by decide +kernel
theorem dX5_hunk_24 : decode cX5_hunk 24 = .ok (.istore 4, 2) := by decide +kernel
theorem dX5_hunk_26 : decode cX5_hunk 26 = .ok (.aload_n 0, 1) := by decide +kernel
theorem dX5_hunk_27 : decode cX5_hunk 27 = .ok (.getfield 38, 3) := by decide +kernel
theorem dX5_hunk_30 : decode cX5_hunk 30 = .ok (.iload 4, 2) := by decide +kernel
theorem dX5_hunk_32 : decode cX5_hunk 32 = .ok (.iload_n 1, 1) := by decide +kernel
theorem dX5_hunk_33 : decode cX5_hunk 33 = .ok (.invokevirtual 163, 3) := by decide +kernel
theorem dX5_hunk_36 : decode cX5_hunk 36 = .ok (.istore 5, 2) := by decide +kernel
theorem dX5_hunk_38 : decode cX5_hunk 38 = .ok (.iconst 0, 1) := by decide +kernel
theorem dX5_hunk_39 : decode cX5_hunk 39 = .ok (.aload_n 0, 1) := by decide +kernel
theorem dX5_hunk_40 : decode cX5_hunk 40 = .ok (.getfield 38, 3) := by decide +kernel
theorem dX5_hunk_43 : decode cX5_hunk 43 = .ok (.iload 4, 2) := by decide +kernel
theorem dX5_hunk_45 : decode cX5_hunk 45 = .ok (.invokevirtual 166, 3) := by decide +kernel
theorem dX5_hunk_48 : decode cX5_hunk 48 = .ok (.iload_n 1, 1) := by decide +kernel
theorem dX5_hunk_49 : decode cX5_hunk 49 = .ok (.isub, 1) := by decide +kernel
theorem dX5_hunk_50 : decode cX5_hunk 50 = .ok (.invokestatic 15, 3) := by decide +kernel
theorem dX5_hunk_53 : decode cX5_hunk 53 = .ok (.istore 6, 2) := by decide +kernel
theorem dX5_hunk_55 : decode cX5_hunk 55 = .ok (.iload_n 3, 1) := by decide +kernel
theorem dX5_hunk_56 : decode cX5_hunk 56 = .ok (.tableswitch 83 0 3 #[32, 35, 57, 70], 32) := by decide +kernel
theorem dX5_hunk_88 : decode cX5_hunk 88 = .ok (.iload 6, 2) := by decide +kernel
theorem dX5_hunk_90 : decode cX5_hunk 90 = .ok (.ireturn, 1) := by decide +kernel
theorem dX5_hunk_91 : decode cX5_hunk 91 = .ok (.aload_n 0, 1) := by decide +kernel
theorem dX5_hunk_92 : decode cX5_hunk 92 = .ok (.getfield 41, 3) := by decide +kernel
theorem dX5_hunk_95 : decode cX5_hunk 95 = .ok (.aload_n 0, 1) := by decide +kernel
theorem dX5_hunk_96 : decode cX5_hunk 96 = .ok (.getfield 38, 3) := by decide +kernel
theorem dX5_hunk_99 : decode cX5_hunk 99 = .ok (.iload 5, 2) := by decide +kernel
theorem dX5_hunk_101 : decode cX5_hunk 101 = .ok (.invokevirtual 139, 3) := by decide +kernel
theorem dX5_hunk_104 : decode cX5_hunk 104 = .ok (.iload_n 1, 1) := by decide +kernel
theorem dX5_hunk_105 : decode cX5_hunk 105 = .ok (.iadd, 1) := by decide +kernel
theorem dX5_hunk_106 : decode cX5_hunk 106 = .ok (.invokestatic 9, 3) := by decide +kernel
theorem dX5_hunk_109 : decode cX5_hunk 109 = .ok (.iload 6, 2) := by decide +kernel
theorem dX5_hunk_111 : decode cX5_hunk 111 = .ok (.isub, 1) := by decide +kernel
theorem dX5_hunk_112 : decode cX5_hunk 112 = .ok (.ireturn, 1) := by decide +kernel
theorem dX5_hunk_113 : decode cX5_hunk 113 = .ok (.aload_n 0, 1) := by decide +kernel
theorem dX5_hunk_114 : decode cX5_hunk 114 = .ok (.getfield 38, 3) := by decide +kernel
theorem dX5_hunk_117 : decode cX5_hunk 117 = .ok (.iconst 1, 1) := by decide +kernel
theorem dX5_hunk_118 : decode cX5_hunk 118 = .ok (.iload 4, 2) := by decide +kernel
theorem dX5_hunk_120 : decode cX5_hunk 120 = .ok (.iload 5, 2) := by decide +kernel
theorem dX5_hunk_122 : decode cX5_hunk 122 = .ok (.invokevirtual 169, 3) := by decide +kernel
theorem dX5_hunk_125 : decode cX5_hunk 125 = .ok (.ireturn, 1) := by decide +kernel
theorem dX5_hunk_126 : decode cX5_hunk 126 = .ok (.aload_n 0, 1) := by decide +kernel
theorem dX5_hunk_127 : decode cX5_hunk 127 = .ok (.getfield 38, 3) := by decide +kernel
theorem dX5_hunk_130 : decode cX5_hunk 130 = .ok (.iconst 0, 1) := by decide +kernel
theorem dX5_hunk_131 : decode cX5_hunk 131 = .ok (.iload 4, 2) := by decide +kernel
theorem dX5_hunk_133 : decode cX5_hunk 133 = .ok (.iload 5, 2) := by decide +kernel
theorem dX5_hunk_135 : decode cX5_hunk 135 = .ok (.invokevirtual 169, 3) := by decide +kernel
theorem dX5_hunk_138 : decode cX5_hunk 138 = .ok (.ireturn, 1) := by decide +kernel
theorem dX5_hunk_139 : decode cX5_hunk 139 = .ok (.iconst (-1), 1) := by decide +kernel
theorem dX5_hunk_140 : decode cX5_hunk 140 = .ok (.ireturn, 1) := by decide +kernel
set_option maxRecDepth 20000 in
theorem ggX5_alike_X5_isRow : GoodIn wsX5_alike wsX5_isRow := goodIn_r _ [7] (by decide +kernel) (by decide +kernel)
set_option maxRecDepth 20000 in
theorem gX5_alike_X5_isRow : GoodIn wsX5_alike (va_wsS RX5 67 yX5_isRow wsX5_isRow) := goodIn_app (goodIn_of _ (by decide +kernel)) ggX5_alike_X5_isRow
set_option maxRecDepth 20000 in
theorem ggX5_alike_X0_compare : GoodIn wsX5_alike wsX0_compare := goodIn_r _ [12, 13, 14, 15, 16, 17, 18, 11, 19, 20, 21, 22, 23, 24, 25, 26, 27, 43, 44, 45, 41, 42] (by decide +kernel) (by decide +kernel)
set_option maxRecDepth 20000 in
theorem gX5_alike_X0_compare : GoodIn wsX5_alike (wsV RX5 93 RX0 yX0_compare wsX0_compare) := goodIn_app (goodIn_of _ (by decide +kernel)) ggX5_alike_X0_compare
set_option maxRecDepth 20000 in
theorem ggX5_alike_X0_operations : GoodIn wsX5_alike wsX0_operations := goodIn_r _ [31, 15, 43, 44, 45] (by decide +kernel) (by decide +kernel)
set_option maxRecDepth 20000 in
theorem gX5_alike_X0_operations : GoodIn wsX5_alike (wsV RX5 97 RX0 yX0_operations wsX0_operations) := goodIn_app (goodIn_of _ (by decide +kernel)) ggX5_alike_X0_operations
theorem dX5_alike_0 : decode cX5_alike 0 = .ok (.iload_n 1, 1) := by decide +kernel
theorem dX5_alike_1 : decode cX5_alike 1 = .ok (.invokestatic 67, 3) := by decide +kernel
theorem dX5_alike_4 : decode cX5_alike 4 = .ok (.ifCond .eq 10, 3) := by decide +kernel
theorem dX5_alike_7 : decode cX5_alike 7 = .ok (.iload_n 2, 1) := by decide +kernel
theorem dX5_alike_8 : decode cX5_alike 8 = .ok (.invokestatic 67, 3) := by decide +kernel
theorem dX5_alike_11 : decode cX5_alike 11 = .ok (.ifCond .ne 6, 3) := by decide +kernel
theorem dX5_alike_14 : decode cX5_alike 14 = .ok (.ldc 173, 2) := by decide +kernel
theorem dX5_alike_16 : decode cX5_alike 16 = .ok (.freturn, 1) := by decide +kernel
theorem dX5_alike_17 : decode cX5_alike 17 = .ok (.aload_n 0, 1) := by decide +kernel
theorem dX5_alike_18 : decode cX5_alike 18 = .ok (.getfield 24, 3) := by decide +kernel
theorem dX5_alike_21 : decode cX5_alike 21 = .ok (.iload_n 1, 1) := by decide +kernel
theorem dX5_alike_22 : decode cX5_alike 22 = .ok (.aaload, 1) := by decide +kernel
theorem dX5_alike_23 : decode cX5_alike 23 = .ok (.getfield 80, 3) := by decide +kernel
theorem dX5_alike_26 : decode cX5_alike 26 = .ok (.aload_n 0, 1) := by decide +kernel
theorem dX5_alike_27 : decode cX5_alike 27 = .ok (.getfield 24, 3) := by decide +kernel
theorem dX5_alike_30 : decode cX5_alike 30 = .ok (.iload_n 2, 1) := by decide +kernel
theorem dX5_alike_31 : decode cX5_alike 31 = .ok (.aaload, 1) := by decide +kernel
theorem dX5_alike_32 : decode cX5_alike 32 = .ok (.getfield 80, 3) := by decide +kernel
theorem dX5_alike_35 : decode cX5_alike 35 = .ok (.iadd, 1) := by decide +kernel
theorem dX5_alike_36 : decode cX5_alike 36 = .ok (.istore_n 3, 1) := by decide +kernel
theorem dX5_alike_37 : decode cX5_alike 37 = .ok (.iload_n 3, 1) := by decide +kernel
theorem dX5_alike_38 : decode cX5_alike 38 = .ok (.ifCond .ne 5, 3) := by decide +kernel
theorem dX5_alike_41 : decode cX5_alike 41 = .ok (.fconst 1, 1) := by decide +kernel
theorem dX5_alike_42 : decode cX5_alike 42 = .ok (.freturn, 1) := by decide +kernel
theorem dX5_alike_43 : decode cX5_alike 43 = .ok (.aload_n 0, 1) := by decide +kernel
theorem dX5_alike_44 : decode cX5_alike 44 = .ok (.getfield 47, 3) := by decide +kernel
theorem dX5_alike_47 : decode cX5_alike 47 = .ok (.aload_n 0, 1) := by decide +kernel
theorem dX5_alike_48 : decode cX5_alike 48 = .ok (.getfield 24, 3) := by decide +kernel
theorem dX5_alike_51 : decode cX5_alike 51 = .ok (.iload_n 1, 1) := by decide +kernel
theorem dX5_alike_52 : decode cX5_alike 52 = .ok (.aaload, 1) := by decide +kernel
theorem dX5_alike_53 : decode cX5_alike 53 = .ok (.aload_n 0, 1) := by decide +kernel
theorem dX5_alike_54 : decode cX5_alike 54 = .ok (.getfield 24, 3) := by decide +kernel
theorem dX5_alike_57 : decode cX5_alike 57 = .ok (.iload_n 2, 1) := by decide +kernel
theorem dX5_alike_58 : decode cX5_alike 58 = .ok (.aaload, 1) := by decide +kernel
theorem dX5_alike_59 : decode cX5_alike 59 = .ok (.invokevirtual 93, 3) := by decide +kernel
theorem dX5_alike_62 : decode cX5_alike 62 = .ok (.iload_n 3, 1) := by decide +kernel
theorem dX5_alike_63 : decode cX5_alike 63 = .ok (.aload_n 0, 1) := by decide +kernel
theorem dX5_alike_64 : decode cX5_alike 64 = .ok (.getfield 47, 3) := by decide +kernel
theorem dX5_alike_67 : decode cX5_alike 67 = .ok (.invokevirtual 97, 3) := by decide +kernel
theorem dX5_alike_70 : decode cX5_alike 70 = .ok (.isub, 1) := by decide +kernel
theorem dX5_alike_71 : decode cX5_alike 71 = .ok (.istore 4, 2) := by decide +kernel
theorem dX5_alike_73 : decode cX5_alike 73 = .ok (.iload 4, 2) := by decide +kernel
theorem dX5_alike_75 : decode cX5_alike 75 = .ok (.i2f, 1) := by decide +kernel
theorem dX5_alike_76 : decode cX5_alike 76 = .ok (.iload_n 3, 1) := by decide +kernel
theorem dX5_alike_77 : decode cX5_alike 77 = .ok (.i2f, 1) := by decide +kernel
theorem dX5_alike_78 : decode cX5_alike 78 = .ok (.fdiv, 1) := by decide +kernel
theorem dX5_alike_79 : decode cX5_alike 79 = .ok (.freturn, 1) := by decide +kernel
theorem dX5_isRow_0 : decode cX5_isRow 0 = .ok (.iload_n 0, 1) := by decide +kernel
theorem dX5_isRow_1 : decode cX5_isRow 1 = .ok (.ifCond .lt 12, 3) := by decide +kernel
theorem dX5_isRow_4 : decode cX5_isRow 4 = .ok (.iload_n 0, 1) := by decide +kernel
theorem dX5_isRow_5 : decode cX5_isRow 5 = .ok (.iconst 3, 1) := by decide +kernel
theorem dX5_isRow_6 : decode cX5_isRow 6 = .ok (.if_icmp .ge 7, 3) := by decide +kernel
theorem dX5_isRow_9 : decode cX5_isRow 9 = .ok (.iconst 1, 1) := by decide +kernel
theorem dX5_isRow_10 : decode cX5_isRow 10 = .ok (.goto 4, 3) := by decide +kernel
theorem dX5_isRow_13 : decode cX5_isRow 13 = .ok (.iconst 0, 1) := by decide +kernel
theorem dX5_isRow_14 : decode cX5_isRow 14 = .ok (.ireturn, 1) := by decide +kernel
theorem dX5_isSymbol_0 : decode cX5_isSymbol 0 = .ok (.iload_n 0, 1) := by decide +kernel
theorem dX5_isSymbol_1 : decode cX5_isSymbol 1 = .ok (.ifCond .lt 14, 3) := by decide +kernel
theorem dX5_isSymbol_4 : decode cX5_isSymbol 4 = .ok (.iload_n 0, 1) := by decide +kernel
theorem dX5_isSymbol_5 : decode cX5_isSymbol 5 = .ok (.sipush 30000, 3) := by decide +kernel
theorem dX5_isSymbol_8 : decode cX5_isSymbol 8 = .ok (.if_icmp .gt 7, 3) := by decide +kernel
theorem dX5_isSymbol_11 : decode cX5_isSymbol 11 = .ok (.iconst 1, 1) := by decide +kernel
theorem dX5_isSymbol_12 : decode cX5_isSymbol 12 = .ok (.goto 4, 3) := by decide +kernel
theorem dX5_isSymbol_15 : decode cX5_isSymbol 15 = .ok (.iconst 0, 1) := by decide +kernel
theorem dX5_isSymbol_16 : decode cX5_isSymbol 16 = .ok (.ireturn, 1) := by decide +kernel
theorem dX5_isAround_0 : decode cX5_isAround 0 = .ok (.iload_n 0, 1) := by decide +kernel
theorem dX5_isAround_1 : decode cX5_isAround 1 = .ok (.ifCond .lt 13, 3) := by decide +kernel
theorem dX5_isAround_4 : decode cX5_isAround 4 = .ok (.iload_n 0, 1) := by decide +kernel
theorem dX5_isAround_5 : decode cX5_isAround 5 = .ok (.bipush 9, 2) := by decide +kernel
theorem dX5_isAround_7 : decode cX5_isAround 7 = .ok (.if_icmp .gt 7, 3) := by decide +kernel
theorem dX5_isAround_10 : decode cX5_isAround 10 = .ok (.iconst 1, 1) := by decide +kernel
theorem dX5_isAround_11 : decode cX5_isAround 11 = .ok (.goto 4, 3) := by decide +kernel
theorem dX5_isAround_14 : decode cX5_isAround 14 = .ok (.iconst 0, 1) := by decide +kernel
theorem dX5_isAround_15 : decode cX5_isAround 15 = .ok (.ireturn, 1) := by decide +kernel
set_option maxRecDepth 20000 in
theorem ggX5_checkOperation_X5_isSymbol : GoodIn wsX5_checkOperation wsX5_isSymbol := goodIn_r _ [11] (by decide +kernel) (by decide +kernel)
set_option maxRecDepth 20000 in
theorem gX5_checkOperation_X5_isSymbol : GoodIn wsX5_checkOperation (va_wsS RX5 71 yX5_isSymbol wsX5_isSymbol) := goodIn_app (goodIn_of _ (by decide +kernel)) ggX5_checkOperation_X5_isSymbol
set_option maxRecDepth 20000 in
theorem ggX5_checkOperation_X3_behind : GoodIn wsX5_checkOperation wsX3_behind := goodIn_r _ [16, 17, 18, 19, 20, 21, 15, 22, 23, 40, 41, 42, 43] (by decide +kernel) (by decide +kernel)
set_option maxRecDepth 20000 in
theorem gX5_checkOperation_X3_behind : GoodIn wsX5_checkOperation (wsV RX5 139 RX3 yX3_behind wsX3_behind) := goodIn_app (goodIn_of _ (by decide +kernel)) ggX5_checkOperation_X3_behind
set_option maxRecDepth 20000 in
theorem ggX5_checkOperation_X2_at : GoodIn wsX5_checkOperation wsX2_at := goodIn_r _ [28, 29, 30, 44, 45] (by decide +kernel) (by decide +kernel)
set_option maxRecDepth 20000 in
theorem gX5_checkOperation_X2_at : GoodIn wsX5_checkOperation (wsV RX5 83 RX2 yX2_at wsX2_at) := goodIn_app (goodIn_of _ (by decide +kernel)) ggX5_checkOperation_X2_at
theorem dX5_checkOperation_0 : decode cX5_checkOperation 0 = .ok (.aload_n 0, 1) := by decide +kernel
theorem dX5_checkOperation_1 : decode cX5_checkOperation 1 = .ok (.getfield 34, 3) := by decide +kernel
theorem dX5_checkOperation_4 : decode cX5_checkOperation 4 = .ok (.getfield 114, 3) := by decide +kernel
theorem dX5_checkOperation_7 : decode cX5_checkOperation 7 = .ok (.iload_n 2, 1) := by decide +kernel
theorem dX5_checkOperation_8 : decode cX5_checkOperation 8 = .ok (.iaload, 1) := by decide +kernel
theorem dX5_checkOperation_9 : decode cX5_checkOperation 9 = .ok (.istore_n 3, 1) := by decide +kernel
theorem dX5_checkOperation_10 : decode cX5_checkOperation 10 = .ok (.aload_n 0, 1) := by decide +kernel
theorem dX5_checkOperation_11 : decode cX5_checkOperation 11 = .ok (.getfield 34, 3) := by decide +kernel
theorem dX5_checkOperation_14 : decode cX5_checkOperation 14 = .ok (.getfield 118, 3) := by decide +kernel
theorem dX5_checkOperation_17 : decode cX5_checkOperation 17 = .ok (.iload_n 2, 1) := by decide +kernel
theorem dX5_checkOperation_18 : decode cX5_checkOperation 18 = .ok (.iaload, 1) := by decide +kernel
theorem dX5_checkOperation_19 : decode cX5_checkOperation 19 = .ok (.istore 4, 2) := by decide +kernel
theorem dX5_checkOperation_21 : decode cX5_checkOperation 21 = .ok (.iload_n 3, 1) := by decide +kernel
theorem dX5_checkOperation_22 : decode cX5_checkOperation 22 = .ok (.ifCond .eq 8, 3) := by decide +kernel
theorem dX5_checkOperation_25 : decode cX5_checkOperation 25 = .ok (.iload_n 3, 1) := by decide +kernel
theorem dX5_checkOperation_26 : decode cX5_checkOperation 26 = .ok (.iconst 1, 1) := by decide +kernel
theorem dX5_checkOperation_27 : decode cX5_checkOperation 27 = .ok (.if_icmp .ne 18, 3) := by decide +kernel
theorem dX5_checkOperation_30 : decode cX5_checkOperation 30 = .ok (.aload_n 0, 1) := by decide +kernel
theorem dX5_checkOperation_31 : decode cX5_checkOperation 31 = .ok (.getfield 34, 3) := by decide +kernel
theorem dX5_checkOperation_34 : decode cX5_checkOperation 34 = .ok (.getfield 121, 3) := by decide +kernel
theorem dX5_checkOperation_37 : decode cX5_checkOperation 37 = .ok (.iload_n 2, 1) := by decide +kernel
theorem dX5_checkOperation_38 : decode cX5_checkOperation 38 = .ok (.iaload, 1) := by decide +kernel
theorem dX5_checkOperation_39 : decode cX5_checkOperation 39 = .ok (.invokestatic 71, 3) := by decide +kernel
theorem dX5_checkOperation_42 : decode cX5_checkOperation 42 = .ok (.ifCond .ne 13, 3) := by decide +kernel
theorem dX5_checkOperation_45 : decode cX5_checkOperation 45 = .ok (.new 86, 3) := by decide +kernel
theorem dX5_checkOperation_48 : decode cX5_checkOperation 48 = .ok (.dup, 1) := by decide +kernel
theorem dX5_checkOperation_49 : decode cX5_checkOperation 49 = .ok (.ldc 174, 2) := by decide +kernel
theorem dX5_checkOperation_51 : decode cX5_checkOperation 51 = .ok (.invokespecial 90, 3) := by decide +kernel
theorem dX5_checkOperation_54 : decode cX5_checkOperation 54 = .ok (.athrow, 1) := by decide +kernel
theorem dX5_checkOperation_55 : decode cX5_checkOperation 55 = .ok (.iload_n 3, 1) := by decide +kernel
theorem dX5_checkOperation_56 : decode cX5_checkOperation 56 = .ok (.iconst 1, 1) := by decide +kernel
theorem dX5_checkOperation_57 : decode cX5_checkOperation 57 = .ok (.if_icmp .ne 10, 3) := by decide +kernel
theorem dX5_checkOperation_60 : decode cX5_checkOperation 60 = .ok (.aload_n 1, 1) := by decide +kernel
theorem dX5_checkOperation_61 : decode cX5_checkOperation 61 = .ok (.getfield 80, 3) := by decide +kernel
theorem dX5_checkOperation_64 : decode cX5_checkOperation 64 = .ok (.goto 9, 3) := by decide +kernel
theorem dX5_checkOperation_67 : decode cX5_checkOperation 67 = .ok (.aload_n 1, 1) := by decide +kernel
theorem dX5_checkOperation_68 : decode cX5_checkOperation 68 = .ok (.getfield 80, 3) := by decide +kernel
theorem dX5_checkOperation_71 : decode cX5_checkOperation 71 = .ok (.iconst 1, 1) := by decide +kernel
theorem dX5_checkOperation_72 : decode cX5_checkOperation 72 = .ok (.isub, 1) := by decide +kernel
theorem dX5_checkOperation_73 : decode cX5_checkOperation 73 = .ok (.istore 5, 2) := by decide +kernel
theorem dX5_checkOperation_75 : decode cX5_checkOperation 75 = .ok (.iload_n 2, 1) := by decide +kernel
theorem dX5_checkOperation_76 : decode cX5_checkOperation 76 = .ok (.ifCond .le 16, 3) := by decide +kernel
theorem dX5_checkOperation_79 : decode cX5_checkOperation 79 = .ok (.aload_n 0, 1) := by decide +kernel
theorem dX5_checkOperation_80 : decode cX5_checkOperation 80 = .ok (.getfield 34, 3) := by decide +kernel
theorem dX5_checkOperation_83 : decode cX5_checkOperation 83 = .ok (.iload_n 2, 1) := by decide +kernel
theorem dX5_checkOperation_84 : decode cX5_checkOperation 84 = .ok (.iconst 1, 1) := by decide +kernel
theorem dX5_checkOperation_85 : decode cX5_checkOperation 85 = .ok (.isub, 1) := by decide +kernel
theorem dX5_checkOperation_86 : decode cX5_checkOperation 86 = .ok (.invokevirtual 139, 3) := by decide +kernel
theorem dX5_checkOperation_89 : decode cX5_checkOperation 89 = .ok (.goto 4, 3) := by decide +kernel
theorem dX5_checkOperation_92 : decode cX5_checkOperation 92 = .ok (.iconst 0, 1) := by decide +kernel
theorem dX5_checkOperation_93 : decode cX5_checkOperation 93 = .ok (.istore 6, 2) := by decide +kernel
theorem dX5_checkOperation_95 : decode cX5_checkOperation 95 = .ok (.iload 4, 2) := by decide +kernel
theorem dX5_checkOperation_97 : decode cX5_checkOperation 97 = .ok (.iload 6, 2) := by decide +kernel
theorem dX5_checkOperation_99 : decode cX5_checkOperation 99 = .ok (.if_icmp .lt 10, 3) := by decide +kernel
theorem dX5_checkOperation_102 : decode cX5_checkOperation 102 = .ok (.iload 4, 2) := by decide +kernel
theorem dX5_checkOperation_104 : decode cX5_checkOperation 104 = .ok (.iload 5, 2) := by decide +kernel
theorem dX5_checkOperation_106 : decode cX5_checkOperation 106 = .ok (.if_icmp .le 13, 3) := by decide +kernel
theorem dX5_checkOperation_109 : decode cX5_checkOperation 109 = .ok (.new 176, 3) := by decide +kernel
theorem dX5_checkOperation_112 : decode cX5_checkOperation 112 = .ok (.dup, 1) := by decide +kernel
theorem dX5_checkOperation_113 : decode cX5_checkOperation 113 = .ok (.ldc 178, 2) := by decide +kernel
theorem dX5_checkOperation_115 : decode cX5_checkOperation 115 = .ok (.invokespecial 180, 3) := by decide +kernel
theorem dX5_checkOperation_118 : decode cX5_checkOperation 118 = .ok (.athrow, 1) := by decide +kernel
theorem dX5_checkOperation_119 : decode cX5_checkOperation 119 = .ok (.iload_n 3, 1) := by decide +kernel
theorem dX5_checkOperation_120 : decode cX5_checkOperation 120 = .ok (.ifCond .ne 32, 3) := by decide +kernel
theorem dX5_checkOperation_123 : decode cX5_checkOperation 123 = .ok (.aload_n 1, 1) := by decide +kernel
theorem dX5_checkOperation_124 : decode cX5_checkOperation 124 = .ok (.iload 4, 2) := by decide +kernel
theorem dX5_checkOperation_126 : decode cX5_checkOperation 126 = .ok (.iconst (-1), 1) := by decide +kernel
theorem dX5_checkOperation_127 : decode cX5_checkOperation 127 = .ok (.invokevirtual 83, 3) := by decide +kernel
theorem dX5_checkOperation_130 : decode cX5_checkOperation 130 = .ok (.aload_n 0, 1) := by decide +kernel
theorem dX5_checkOperation_131 : decode cX5_checkOperation 131 = .ok (.getfield 34, 3) := by decide +kernel
theorem dX5_checkOperation_134 : decode cX5_checkOperation 134 = .ok (.getfield 121, 3) := by decide +kernel
theorem dX5_checkOperation_137 : decode cX5_checkOperation 137 = .ok (.iload_n 2, 1) := by decide +kernel
theorem dX5_checkOperation_138 : decode cX5_checkOperation 138 = .ok (.iaload, 1) := by decide +kernel
theorem dX5_checkOperation_139 : decode cX5_checkOperation 139 = .ok (.if_icmp .eq 13, 3) := by decide +kernel
theorem dX5_checkOperation_142 : decode cX5_checkOperation 142 = .ok (.new 101, 3) := by decide +kernel
theorem dX5_checkOperation_145 : decode cX5_checkOperation 145 = .ok (.dup, 1) := by decide +kernel
theorem dX5_checkOperation_146 : decode cX5_checkOperation 146 = .ok (.ldc 181, 2) := by decide +kernel
theorem dX5_checkOperation_148 : decode cX5_checkOperation 148 = .ok (.invokespecial 105, 3) := by decide +kernel
theorem dX5_checkOperation_151 : decode cX5_checkOperation 151 = .ok (.athrow, 1) := by decide +kernel
theorem dX5_checkOperation_152 : decode cX5_checkOperation 152 = .ok (.return_, 1) := by decide +kernel
theorem dX5_checkRoom_0 : decode cX5_checkRoom 0 = .ok (.aload_n 0, 1) := by decide +kernel
theorem dX5_checkRoom_1 : decode cX5_checkRoom 1 = .ok (.getfield 64, 3) := by decide +kernel
theorem dX5_checkRoom_4 : decode cX5_checkRoom 4 = .ok (.getfield 80, 3) := by decide +kernel
theorem dX5_checkRoom_7 : decode cX5_checkRoom 7 = .ok (.iload_n 1, 1) := by decide +kernel
theorem dX5_checkRoom_8 : decode cX5_checkRoom 8 = .ok (.iadd, 1) := by decide +kernel
theorem dX5_checkRoom_9 : decode cX5_checkRoom 9 = .ok (.bipush 60, 2) := by decide +kernel
theorem dX5_checkRoom_11 : decode cX5_checkRoom 11 = .ok (.if_icmp .le 13, 3) := by decide +kernel
theorem dX5_checkRoom_14 : decode cX5_checkRoom 14 = .ok (.new 183, 3) := by decide +kernel
theorem dX5_checkRoom_17 : decode cX5_checkRoom 17 = .ok (.dup, 1) := by decide +kernel
theorem dX5_checkRoom_18 : decode cX5_checkRoom 18 = .ok (.ldc 185, 2) := by decide +kernel
theorem dX5_checkRoom_20 : decode cX5_checkRoom 20 = .ok (.invokespecial 187, 3) := by decide +kernel
theorem dX5_checkRoom_23 : decode cX5_checkRoom 23 = .ok (.athrow, 1) := by decide +kernel
theorem dX5_checkRoom_24 : decode cX5_checkRoom 24 = .ok (.return_, 1) := by decide +kernel
theorem dX5_swapResultAndDraft_0 : decode cX5_swapResultAndDraft 0 = .ok (.aload_n 0, 1) := by decide +kernel
theorem dX5_swapResultAndDraft_1 : decode cX5_swapResultAndDraft 1 = .ok (.getfield 60, 3) := by decide +kernel
theorem dX5_swapResultAndDraft_4 : decode cX5_swapResultAndDraft 4 = .ok (.astore_n 1, 1) := by decide +kernel
theorem dX5_swapResultAndDraft_5 : decode cX5_swapResultAndDraft 5 = .ok (.aload_n 0, 1) := by decide +kernel
theorem dX5_swapResultAndDraft_6 : decode cX5_swapResultAndDraft 6 = .ok (.aload_n 0, 1) := by decide +kernel
theorem dX5_swapResultAndDraft_7 : decode cX5_swapResultAndDraft 7 = .ok (.getfield 64, 3) := by decide +kernel
theorem dX5_swapResultAndDraft_10 : decode cX5_swapResultAndDraft 10 = .ok (.putfield 60, 3) := by decide +kernel
theorem dX5_swapResultAndDraft_13 : decode cX5_swapResultAndDraft 13 = .ok (.aload_n 0, 1) := by decide +kernel
theorem dX5_swapResultAndDraft_14 : decode cX5_swapResultAndDraft 14 = .ok (.aload_n 1, 1) := by decide +kernel
theorem dX5_swapResultAndDraft_15 : decode cX5_swapResultAndDraft 15 = .ok (.putfield 64, 3) := by decide +kernel
theorem dX5_swapResultAndDraft_18 : decode cX5_swapResultAndDraft 18 = .ok (.return_, 1) := by decide +kernel
theorem dX6_init_0 : decode cX6_init 0 = .ok (.aload_n 0, 1) := by decide +kernel
theorem dX6_init_1 : decode cX6_init 1 = .ok (.invokespecial 1, 3) := by decide +kernel
theorem dX6_init_4 : decode cX6_init 4 = .ok (.aload_n 0, 1) := by decide +kernel
theorem dX6_init_5 : decode cX6_init 5 = .ok (.iconst 3, 1) := by decide +kernel
theorem dX6_init_6 : decode cX6_init 6 = .ok (.newarray .int, 2) := by decide +kernel
theorem dX6_init_8 : decode cX6_init 8 = .ok (.putfield 7, 3) := by decide +kernel
theorem dX6_init_11 : decode cX6_init 11 = .ok (.aload_n 0, 1) := by decide +kernel
theorem dX6_init_12 : decode cX6_init 12 = .ok (.bipush 60, 2) := by decide +kernel
theorem dX6_init_14 : decode cX6_init 14 = .ok (.newarray .int, 2) := by decide +kernel
theorem dX6_init_16 : decode cX6_init 16 = .ok (.putfield 13, 3) := by decide +kernel
theorem dX6_init_19 : decode cX6_init 19 = .ok (.aload_n 0, 1) := by decide +kernel
theorem dX6_init_20 : decode cX6_init 20 = .ok (.bipush 60, 2) := by decide +kernel
theorem dX6_init_22 : decode cX6_init 22 = .ok (.newarray .int, 2) := by decide +kernel
theorem dX6_init_24 : decode cX6_init 24 = .ok (.putfield 16, 3) := by decide +kernel
theorem dX6_init_27 : decode cX6_init 27 = .ok (.aload_n 0, 1) := by decide +kernel
theorem dX6_init_28 : decode cX6_init 28 = .ok (.bipush 60, 2) := by decide +kernel
theorem dX6_init_30 : decode cX6_init 30 = .ok (.newarray .int, 2) := by decide +kernel
theorem dX6_init_32 : decode cX6_init 32 = .ok (.putfield 19, 3) := by decide +kernel
theorem dX6_init_35 : decode cX6_init 35 = .ok (.aload_n 0, 1) := by decide +kernel
theorem dX6_init_36 : decode cX6_init 36 = .ok (.bipush 60, 2) := by decide +kernel
theorem dX6_init_38 : decode cX6_init 38 = .ok (.newarray .int, 2) := by decide +kernel
theorem dX6_init_40 : decode cX6_init 40 = .ok (.putfield 22, 3) := by decide +kernel
theorem dX6_init_43 : decode cX6_init 43 = .ok (.aload_n 0, 1) := by decide +kernel
theorem dX6_init_44 : decode cX6_init 44 = .ok (.bipush 60, 2) := by decide +kernel
theorem dX6_init_46 : decode cX6_init 46 = .ok (.newarray .int, 2) := by decide +kernel
theorem dX6_init_48 : decode cX6_init 48 = .ok (.putfield 25, 3) := by decide +kernel
theorem dX6_init_51 : decode cX6_init 51 = .ok (.aload_n 0, 1) := by decide +kernel
theorem dX6_init_52 : decode cX6_init 52 = .ok (.bipush 60, 2) := by decide +kernel
theorem dX6_init_54 : decode cX6_init 54 = .ok (.newarray .int, 2) := by decide +kernel
theorem dX6_init_56 : decode cX6_init 56 = .ok (.putfield 28, 3) := by decide +kernel
theorem dX6_init_59 : decode cX6_init 59 = .ok (.aload_n 0, 1) := by decide +kernel
theorem dX6_init_60 : decode cX6_init 60 = .ok (.sipush 128, 3) := by decide +kernel
theorem dX6_init_63 : decode cX6_init 63 = .ok (.newarray .int, 2) := by decide +kernel
theorem dX6_init_65 : decode cX6_init 65 = .ok (.putfield 31, 3) := by decide +kernel
theorem dX6_init_68 : decode cX6_init 68 = .ok (.aload_n 0, 1) := by decide +kernel
theorem dX6_init_69 : decode cX6_init 69 = .ok (.sipush 441, 3) := by decide +kernel
theorem dX6_init_72 : decode cX6_init 72 = .ok (.newarray .int, 2) := by decide +kernel
theorem dX6_init_74 : decode cX6_init 74 = .ok (.putfield 34, 3) := by decide +kernel
theorem dX6_init_77 : decode cX6_init 77 = .ok (.aload_n 0, 1) := by decide +kernel
theorem dX6_init_78 : decode cX6_init 78 = .ok (.bipush 20, 2) := by decide +kernel
theorem dX6_init_80 : decode cX6_init 80 = .ok (.newarray .int, 2) := by decide +kernel
theorem dX6_init_82 : decode cX6_init 82 = .ok (.putfield 37, 3) := by decide +kernel
theorem dX6_init_85 : decode cX6_init 85 = .ok (.aload_n 0, 1) := by decide +kernel
theorem dX6_init_86 : decode cX6_init 86 = .ok (.bipush 20, 2) := by decide +kernel
theorem dX6_init_88 : decode cX6_init 88 = .ok (.newarray .int, 2) := by decide +kernel
theorem dX6_init_90 : decode cX6_init 90 = .ok (.putfield 40, 3) := by decide +kernel
theorem dX6_init_93 : decode cX6_init 93 = .ok (.aload_n 0, 1) := by decide +kernel
theorem dX6_init_94 : decode cX6_init 94 = .ok (.iconst 4, 1) := by decide +kernel
theorem dX6_init_95 : decode cX6_init 95 = .ok (.newarray .int, 2) := by decide +kernel
theorem dX6_init_97 : decode cX6_init 97 = .ok (.putfield 43, 3) := by decide +kernel
theorem dX6_init_100 : decode cX6_init 100 = .ok (.aload_n 0, 1) := by decide +kernel
theorem dX6_init_101 : decode cX6_init 101 = .ok (.iload_n 1, 1) := by decide +kernel
theorem dX6_init_102 : decode cX6_init 102 = .ok (.ifCond .ge 7, 3) := by decide +kernel
theorem dX6_init_105 : decode cX6_init 105 = .ok (.iconst 0, 1) := by decide +kernel
theorem dX6_init_106 : decode cX6_init 106 = .ok (.goto 15, 3) := by decide +kernel
theorem dX6_init_109 : decode cX6_init 109 = .ok (.iload_n 1, 1) := by decide +kernel
theorem dX6_init_110 : decode cX6_init 110 = .ok (.bipush 40, 2) := by decide +kernel
theorem dX6_init_112 : decode cX6_init 112 = .ok (.if_icmp .le 8, 3) := by decide +kernel
theorem dX6_init_115 : decode cX6_init 115 = .ok (.bipush 40, 2) := by decide +kernel
theorem dX6_init_117 : decode cX6_init 117 = .ok (.goto 4, 3) := by decide +kernel
theorem dX6_init_120 : decode cX6_init 120 = .ok (.iload_n 1, 1) := by decide +kernel
theorem dX6_init_121 : decode cX6_init 121 = .ok (.putfield 46, 3) := by decide +kernel
theorem dX6_init_124 : decode cX6_init 124 = .ok (.return_, 1) := by decide +kernel
theorem dX6_thrown_0 : decode cX6_thrown 0 = .ok (.aload_n 0, 1) := by decide +kernel
theorem dX6_thrown_1 : decode cX6_thrown 1 = .ok (.getfield 50, 3) := by decide +kernel
theorem dX6_thrown_4 : decode cX6_thrown 4 = .ok (.ireturn, 1) := by decide +kernel
theorem dX6_isRow_0 : decode cX6_isRow 0 = .ok (.iload_n 0, 1) := by decide +kernel
theorem dX6_isRow_1 : decode cX6_isRow 1 = .ok (.ifCond .lt 12, 3) := by decide +kernel
theorem dX6_isRow_4 : decode cX6_isRow 4 = .ok (.iload_n 0, 1) := by decide +kernel
theorem dX6_isRow_5 : decode cX6_isRow 5 = .ok (.iconst 2, 1) := by decide +kernel
theorem dX6_isRow_6 : decode cX6_isRow 6 = .ok (.if_icmp .gt 7, 3) := by decide +kernel
theorem dX6_isRow_9 : decode cX6_isRow 9 = .ok (.iconst 1, 1) := by decide +kernel
theorem dX6_isRow_10 : decode cX6_isRow 10 = .ok (.goto 4, 3) := by decide +kernel
theorem dX6_isRow_13 : decode cX6_isRow 13 = .ok (.iconst 0, 1) := by decide +kernel
theorem dX6_isRow_14 : decode cX6_isRow 14 = .ok (.ireturn, 1) := by decide +kernel
set_option maxRecDepth 20000 in
theorem ggX6_feed_X6_isRow : GoodIn wsX6_feed wsX6_isRow := goodIn_r _ [7] (by decide +kernel) (by decide +kernel)
set_option maxRecDepth 20000 in
theorem gX6_feed_X6_isRow : GoodIn wsX6_feed (va_wsS RX6 53 yX6_isRow wsX6_isRow) := goodIn_app (goodIn_of _ (by decide +kernel)) ggX6_feed_X6_isRow
theorem dX6_feed_0 : decode cX6_feed 0 = .ok (.aload_n 0, 1) := by decide +kernel
theorem dX6_feed_1 : decode cX6_feed 1 = .ok (.iconst 0, 1) := by decide +kernel
theorem dX6_feed_2 : decode cX6_feed 2 = .ok (.putfield 50, 3) := by decide +kernel
theorem dX6_feed_5 : decode cX6_feed 5 = .ok (.iload_n 1, 1) := by decide +kernel
theorem dX6_feed_6 : decode cX6_feed 6 = .ok (.invokestatic 53, 3) := by decide +kernel
theorem dX6_feed_9 : decode cX6_feed 9 = .ok (.ifCond .eq 25, 3) := by decide +kernel
theorem dX6_feed_12 : decode cX6_feed 12 = .ok (.iload_n 2, 1) := by decide +kernel
theorem dX6_feed_13 : decode cX6_feed 13 = .ok (.ifCond .lt 21, 3) := by decide +kernel
theorem dX6_feed_16 : decode cX6_feed 16 = .ok (.iload_n 2, 1) := by decide +kernel
theorem dX6_feed_17 : decode cX6_feed 17 = .ok (.sipush 30000, 3) := by decide +kernel
theorem dX6_feed_20 : decode cX6_feed 20 = .ok (.if_icmp .gt 14, 3) := by decide +kernel
theorem dX6_feed_23 : decode cX6_feed 23 = .ok (.aload_n 0, 1) := by decide +kernel
theorem dX6_feed_24 : decode cX6_feed 24 = .ok (.getfield 7, 3) := by decide +kernel
theorem dX6_feed_27 : decode cX6_feed 27 = .ok (.iload_n 1, 1) := by decide +kernel
theorem dX6_feed_28 : decode cX6_feed 28 = .ok (.iaload, 1) := by decide +kernel
theorem dX6_feed_29 : decode cX6_feed 29 = .ok (.bipush 20, 2) := by decide +kernel
theorem dX6_feed_31 : decode cX6_feed 31 = .ok (.if_icmp .ne 5, 3) := by decide +kernel
theorem dX6_feed_34 : decode cX6_feed 34 = .ok (.iconst 0, 1) := by decide +kernel
theorem dX6_feed_35 : decode cX6_feed 35 = .ok (.ireturn, 1) := by decide +kernel
theorem dX6_feed_36 : decode cX6_feed 36 = .ok (.aload_n 0, 1) := by decide +kernel
theorem dX6_feed_37 : decode cX6_feed 37 = .ok (.getfield 13, 3) := by decide +kernel
theorem dX6_feed_40 : decode cX6_feed 40 = .ok (.bipush 20, 2) := by decide +kernel
theorem dX6_feed_42 : decode cX6_feed 42 = .ok (.iload_n 1, 1) := by decide +kernel
theorem dX6_feed_43 : decode cX6_feed 43 = .ok (.imul, 1) := by decide +kernel
theorem dX6_feed_44 : decode cX6_feed 44 = .ok (.aload_n 0, 1) := by decide +kernel
theorem dX6_feed_45 : decode cX6_feed 45 = .ok (.getfield 7, 3) := by decide +kernel
theorem dX6_feed_48 : decode cX6_feed 48 = .ok (.iload_n 1, 1) := by decide +kernel
theorem dX6_feed_49 : decode cX6_feed 49 = .ok (.iaload, 1) := by decide +kernel
theorem dX6_feed_50 : decode cX6_feed 50 = .ok (.iadd, 1) := by decide +kernel
theorem dX6_feed_51 : decode cX6_feed 51 = .ok (.iload_n 2, 1) := by decide +kernel
theorem dX6_feed_52 : decode cX6_feed 52 = .ok (.iastore, 1) := by decide +kernel
theorem dX6_feed_53 : decode cX6_feed 53 = .ok (.aload_n 0, 1) := by decide +kernel
theorem dX6_feed_54 : decode cX6_feed 54 = .ok (.getfield 7, 3) := by decide +kernel
theorem dX6_feed_57 : decode cX6_feed 57 = .ok (.iload_n 1, 1) := by decide +kernel
theorem dX6_feed_58 : decode cX6_feed 58 = .ok (.dup2, 1) := by decide +kernel
theorem dX6_feed_59 : decode cX6_feed 59 = .ok (.iaload, 1) := by decide +kernel
theorem dX6_feed_60 : decode cX6_feed 60 = .ok (.iconst 1, 1) := by decide +kernel
theorem dX6_feed_61 : decode cX6_feed 61 = .ok (.iadd, 1) := by decide +kernel
theorem dX6_feed_62 : decode cX6_feed 62 = .ok (.iastore, 1) := by decide +kernel
theorem dX6_feed_63 : decode cX6_feed 63 = .ok (.iconst 1, 1) := by decide +kernel
theorem dX6_feed_64 : decode cX6_feed 64 = .ok (.ireturn, 1) := by decide +kernel
end
section
set_option maxRecDepth 20000 in
theorem ggX6_clear_X6_isRow : GoodIn wsX6_clear wsX6_isRow := goodIn_r _ [6] (by decide +kernel) (by decide +kernel)
set_option maxRecDepth 20000 in
theorem gX6_clear_X6_isRow : GoodIn wsX6_clear (va_wsS RX6 53 yX6_isRow wsX6_isRow) := goodIn_app (goodIn_of _ (by decide +kernel)) ggX6_clear_X6_isRow
theorem dX6_clear_0 : decode cX6_clear 0 = .ok (.aload_n 0, 1) := by decide +kernel
theorem dX6_clear_1 : decode cX6_clear 1 = .ok (.iconst 0, 1) := by decide +kernel
theorem dX6_clear_2 : decode cX6_clear 2 = .ok (.putfield 50, 3) := by decide +kernel
theorem dX6_clear_5 : decode cX6_clear 5 = .ok (.iload_n 1, 1) := by decide +kernel
theorem dX6_clear_6 : decode cX6_clear 6 = .ok (.invokestatic 53, 3) := by decide +kernel
theorem dX6_clear_9 : decode cX6_clear 9 = .ok (.ifCond .ne 5, 3) := by decide +kernel
theorem dX6_clear_12 : decode cX6_clear 12 = .ok (.iconst 0, 1) := by decide +kernel
theorem dX6_clear_13 : decode cX6_clear 13 = .ok (.ireturn, 1) := by decide +kernel
theorem dX6_clear_14 : decode cX6_clear 14 = .ok (.aload_n 0, 1) := by decide +kernel
theorem dX6_clear_15 : decode cX6_clear 15 = .ok (.getfield 7, 3) := by decide +kernel
theorem dX6_clear_18 : decode cX6_clear 18 = .ok (.iload_n 1, 1) := by decide +kernel
theorem dX6_clear_19 : decode cX6_clear 19 = .ok (.iconst 0, 1) := by decide +kernel
theorem dX6_clear_20 : decode cX6_clear 20 = .ok (.iastore, 1) := by decide +kernel
theorem dX6_clear_21 : decode cX6_clear 21 = .ok (.iconst 1, 1) := by decide +kernel
theorem dX6_clear_22 : decode cX6_clear 22 = .ok (.ireturn, 1) := by decide +kernel
set_option maxRecDepth 20000 in
theorem ggX6_size_X6_isRow : GoodIn wsX6_size wsX6_isRow := goodIn_r _ [6] (by decide +kernel) (by decide +kernel)
set_option maxRecDepth 20000 in
theorem gX6_size_X6_isRow : GoodIn wsX6_size (va_wsS RX6 53 yX6_isRow wsX6_isRow) := goodIn_app (goodIn_of _ (by decide +kernel)) ggX6_size_X6_isRow
theorem dX6_size_0 : decode cX6_size 0 = .ok (.aload_n 0, 1) := by decide +kernel
theorem dX6_size_1 : decode cX6_size 1 = .ok (.iconst 0, 1) := by decide +kernel
theorem dX6_size_2 : decode cX6_size 2 = .ok (.putfield 50, 3) := by decide +kernel
theorem dX6_size_5 : decode cX6_size 5 = .ok (.iload_n 1, 1) := by decide +kernel
theorem dX6_size_6 : decode cX6_size 6 = .ok (.invokestatic 53, 3) := by decide +kernel
theorem dX6_size_9 : decode cX6_size 9 = .ok (.ifCond .eq 12, 3) := by decide +kernel
theorem dX6_size_12 : decode cX6_size 12 = .ok (.aload_n 0, 1) := by decide +kernel
theorem dX6_size_13 : decode cX6_size 13 = .ok (.getfield 7, 3) := by decide +kernel
theorem dX6_size_16 : decode cX6_size 16 = .ok (.iload_n 1, 1) := by decide +kernel
theorem dX6_size_17 : decode cX6_size 17 = .ok (.iaload, 1) := by decide +kernel
theorem dX6_size_18 : decode cX6_size 18 = .ok (.goto 4, 3) := by decide +kernel
theorem dX6_size_21 : decode cX6_size 21 = .ok (.iconst (-1), 1) := by decide +kernel
theorem dX6_size_22 : decode cX6_size 22 = .ok (.ireturn, 1) := by decide +kernel
set_option maxRecDepth 20000 in
theorem ggX6_symbol_X6_isRow : GoodIn wsX6_symbol wsX6_isRow := goodIn_r _ [7] (by decide +kernel) (by decide +kernel)
set_option maxRecDepth 20000 in
theorem gX6_symbol_X6_isRow : GoodIn wsX6_symbol (va_wsS RX6 53 yX6_isRow wsX6_isRow) := goodIn_app (goodIn_of _ (by decide +kernel)) ggX6_symbol_X6_isRow
theorem dX6_symbol_0 : decode cX6_symbol 0 = .ok (.aload_n 0, 1) := by decide +kernel
theorem dX6_symbol_1 : decode cX6_symbol 1 = .ok (.iconst 0, 1) := by decide +kernel
theorem dX6_symbol_2 : decode cX6_symbol 2 = .ok (.putfield 50, 3) := by decide +kernel
theorem dX6_symbol_5 : decode cX6_symbol 5 = .ok (.iload_n 1, 1) := by decide +kernel
theorem dX6_symbol_6 : decode cX6_symbol 6 = .ok (.invokestatic 53, 3) := by decide +kernel
theorem dX6_symbol_9 : decode cX6_symbol 9 = .ok (.ifCond .eq 31, 3) := by decide +kernel
theorem dX6_symbol_12 : decode cX6_symbol 12 = .ok (.iload_n 2, 1) := by decide +kernel
theorem dX6_symbol_13 : decode cX6_symbol 13 = .ok (.ifCond .lt 27, 3) := by decide +kernel
theorem dX6_symbol_16 : decode cX6_symbol 16 = .ok (.iload_n 2, 1) := by decide +kernel
theorem dX6_symbol_17 : decode cX6_symbol 17 = .ok (.aload_n 0, 1) := by decide +kernel
theorem dX6_symbol_18 : decode cX6_symbol 18 = .ok (.getfield 7, 3) := by decide +kernel
theorem dX6_symbol_21 : decode cX6_symbol 21 = .ok (.iload_n 1, 1) := by decide +kernel
theorem dX6_symbol_22 : decode cX6_symbol 22 = .ok (.iaload, 1) := by decide +kernel
theorem dX6_symbol_23 : decode cX6_symbol 23 = .ok (.if_icmp .ge 17, 3) := by decide +kernel
theorem dX6_symbol_26 : decode cX6_symbol 26 = .ok (.aload_n 0, 1) := by decide +kernel
theorem dX6_symbol_27 : decode cX6_symbol 27 = .ok (.getfield 13, 3) := by decide +kernel
theorem dX6_symbol_30 : decode cX6_symbol 30 = .ok (.bipush 20, 2) := by decide +kernel
theorem dX6_symbol_32 : decode cX6_symbol 32 = .ok (.iload_n 1, 1) := by decide +kernel
theorem dX6_symbol_33 : decode cX6_symbol 33 = .ok (.imul, 1) := by decide +kernel
theorem dX6_symbol_34 : decode cX6_symbol 34 = .ok (.iload_n 2, 1) := by decide +kernel
theorem dX6_symbol_35 : decode cX6_symbol 35 = .ok (.iadd, 1) := by decide +kernel
theorem dX6_symbol_36 : decode cX6_symbol 36 = .ok (.iaload, 1) := by decide +kernel
theorem dX6_symbol_37 : decode cX6_symbol 37 = .ok (.goto 4, 3) := by decide +kernel
theorem dX6_symbol_40 : decode cX6_symbol 40 = .ok (.iconst (-1), 1) := by decide +kernel
theorem dX6_symbol_41 : decode cX6_symbol 41 = .ok (.i2s, 1) := by decide +kernel
theorem dX6_symbol_42 : decode cX6_symbol 42 = .ok (.ireturn, 1) := by decide +kernel
theorem dX6_same_0 : decode cX6_same 0 = .ok (.aload_n 0, 1) := by decide +kernel
theorem dX6_same_1 : decode cX6_same 1 = .ok (.getfield 13, 3) := by decide +kernel
theorem dX6_same_4 : decode cX6_same 4 = .ok (.bipush 20, 2) := by decide +kernel
theorem dX6_same_6 : decode cX6_same 6 = .ok (.iload_n 1, 1) := by decide +kernel
theorem dX6_same_7 : decode cX6_same 7 = .ok (.imul, 1) := by decide +kernel
theorem dX6_same_8 : decode cX6_same 8 = .ok (.iload_n 2, 1) := by decide +kernel
theorem dX6_same_9 : decode cX6_same 9 = .ok (.iadd, 1) := by decide +kernel
theorem dX6_same_10 : decode cX6_same 10 = .ok (.iaload, 1) := by decide +kernel
theorem dX6_same_11 : decode cX6_same 11 = .ok (.aload_n 0, 1) := by decide +kernel
theorem dX6_same_12 : decode cX6_same 12 = .ok (.getfield 13, 3) := by decide +kernel
theorem dX6_same_15 : decode cX6_same 15 = .ok (.bipush 20, 2) := by decide +kernel
theorem dX6_same_17 : decode cX6_same 17 = .ok (.iload_n 3, 1) := by decide +kernel
theorem dX6_same_18 : decode cX6_same 18 = .ok (.imul, 1) := by decide +kernel
theorem dX6_same_19 : decode cX6_same 19 = .ok (.iload 4, 2) := by decide +kernel
theorem dX6_same_21 : decode cX6_same 21 = .ok (.iadd, 1) := by decide +kernel
theorem dX6_same_22 : decode cX6_same 22 = .ok (.iaload, 1) := by decide +kernel
theorem dX6_same_23 : decode cX6_same 23 = .ok (.if_icmp .ne 7, 3) := by decide +kernel
theorem dX6_same_26 : decode cX6_same 26 = .ok (.iconst 1, 1) := by decide +kernel
theorem dX6_same_27 : decode cX6_same 27 = .ok (.goto 4, 3) := by decide +kernel
theorem dX6_same_30 : decode cX6_same 30 = .ok (.iconst 0, 1) := by decide +kernel
theorem dX6_same_31 : decode cX6_same 31 = .ok (.ireturn, 1) := by decide +kernel
set_option maxRecDepth 20000 in
theorem ggX6_fill_X6_same : GoodIn wsX6_fill wsX6_same := goodIn_r _ [7, 8, 9, 10, 11, 12, 13, 14, 15, 16, 17, 18, 19, 20, 21, 22, 23, 24, 25, 26, 27] (by decide +kernel) (by decide +kernel)
set_option maxRecDepth 20000 in
theorem gX6_fill_X6_same : GoodIn wsX6_fill (wsV RX6 57 RX6 yX6_same wsX6_same) := goodIn_app (goodIn_of _ (by decide +kernel)) ggX6_fill_X6_same
theorem dX6_fill_0 : decode cX6_fill 0 = .ok (.aload_n 0, 1) := by decide +kernel
theorem dX6_fill_1 : decode cX6_fill 1 = .ok (.getfield 7, 3) := by decide +kernel
theorem dX6_fill_4 : decode cX6_fill 4 = .ok (.iload_n 1, 1) := by decide +kernel
theorem dX6_fill_5 : decode cX6_fill 5 = .ok (.iaload, 1) := by decide +kernel
theorem dX6_fill_6 : decode cX6_fill 6 = .ok (.istore_n 3, 1) := by decide +kernel
theorem dX6_fill_7 : decode cX6_fill 7 = .ok (.aload_n 0, 1) := by decide +kernel
theorem dX6_fill_8 : decode cX6_fill 8 = .ok (.getfield 7, 3) := by decide +kernel
theorem dX6_fill_11 : decode cX6_fill 11 = .ok (.iload_n 2, 1) := by decide +kernel
theorem dX6_fill_12 : decode cX6_fill 12 = .ok (.iaload, 1) := by decide +kernel
theorem dX6_fill_13 : decode cX6_fill 13 = .ok (.istore 4, 2) := by decide +kernel
theorem dX6_fill_15 : decode cX6_fill 15 = .ok (.iload_n 3, 1) := by decide +kernel
theorem dX6_fill_16 : decode cX6_fill 16 = .ok (.istore 5, 2) := by decide +kernel
theorem dX6_fill_18 : decode cX6_fill 18 = .ok (.iload 5, 2) := by decide +kernel
theorem dX6_fill_20 : decode cX6_fill 20 = .ok (.ifCond .lt 164, 3) := by decide +kernel
theorem dX6_fill_23 : decode cX6_fill 23 = .ok (.iload 4, 2) := by decide +kernel
theorem dX6_fill_25 : decode cX6_fill 25 = .ok (.istore 6, 2) := by decide +kernel
theorem dX6_fill_27 : decode cX6_fill 27 = .ok (.iload 6, 2) := by decide +kernel
theorem dX6_fill_29 : decode cX6_fill 29 = .ok (.ifCond .lt 149, 3) := by decide +kernel
theorem dX6_fill_32 : decode cX6_fill 32 = .ok (.iload_n 3, 1) := by decide +kernel
theorem dX6_fill_33 : decode cX6_fill 33 = .ok (.iload 5, 2) := by decide +kernel
theorem dX6_fill_35 : decode cX6_fill 35 = .ok (.isub, 1) := by decide +kernel
theorem dX6_fill_36 : decode cX6_fill 36 = .ok (.iload 4, 2) := by decide +kernel
theorem dX6_fill_38 : decode cX6_fill 38 = .ok (.iadd, 1) := by decide +kernel
theorem dX6_fill_39 : decode cX6_fill 39 = .ok (.iload 6, 2) := by decide +kernel
theorem dX6_fill_41 : decode cX6_fill 41 = .ok (.isub, 1) := by decide +kernel
theorem dX6_fill_42 : decode cX6_fill 42 = .ok (.istore 7, 2) := by decide +kernel
theorem dX6_fill_44 : decode cX6_fill 44 = .ok (.iload 5, 2) := by decide +kernel
theorem dX6_fill_46 : decode cX6_fill 46 = .ok (.iload_n 3, 1) := by decide +kernel
theorem dX6_fill_47 : decode cX6_fill 47 = .ok (.if_icmp .ge 45, 3) := by decide +kernel
theorem dX6_fill_50 : decode cX6_fill 50 = .ok (.iload 6, 2) := by decide +kernel
theorem dX6_fill_52 : decode cX6_fill 52 = .ok (.iload 4, 2) := by decide +kernel
theorem dX6_fill_54 : decode cX6_fill 54 = .ok (.if_icmp .ge 38, 3) := by decide +kernel
theorem dX6_fill_57 : decode cX6_fill 57 = .ok (.aload_n 0, 1) := by decide +kernel
theorem dX6_fill_58 : decode cX6_fill 58 = .ok (.iload_n 1, 1) := by decide +kernel
theorem dX6_fill_59 : decode cX6_fill 59 = .ok (.iload 5, 2) := by decide +kernel
theorem dX6_fill_61 : decode cX6_fill 61 = .ok (.iload_n 2, 1) := by decide +kernel
theorem dX6_fill_62 : decode cX6_fill 62 = .ok (.iload 6, 2) := by decide +kernel
theorem dX6_fill_64 : decode cX6_fill 64 = .ok (.invokevirtual 57, 3) := by decide +kernel
theorem dX6_fill_67 : decode cX6_fill 67 = .ok (.ifCond .eq 25, 3) := by decide +kernel
theorem dX6_fill_70 : decode cX6_fill 70 = .ok (.aload_n 0, 1) := by decide +kernel
theorem dX6_fill_71 : decode cX6_fill 71 = .ok (.getfield 34, 3) := by decide +kernel
theorem dX6_fill_74 : decode cX6_fill 74 = .ok (.bipush 21, 2) := by decide +kernel
theorem dX6_fill_76 : decode cX6_fill 76 = .ok (.iload 5, 2) := by decide +kernel
theorem dX6_fill_78 : decode cX6_fill 78 = .ok (.iconst 1, 1) := by decide +kernel
theorem dX6_fill_79 : decode cX6_fill 79 = .ok (.iadd, 1) := by decide +kernel
theorem dX6_fill_80 : decode cX6_fill 80 = .ok (.imul, 1) := by decide +kernel
theorem dX6_fill_81 : decode cX6_fill 81 = .ok (.iload 6, 2) := by decide +kernel
theorem dX6_fill_83 : decode cX6_fill 83 = .ok (.iadd, 1) := by decide +kernel
theorem dX6_fill_84 : decode cX6_fill 84 = .ok (.iconst 1, 1) := by decide +kernel
theorem dX6_fill_85 : decode cX6_fill 85 = .ok (.iadd, 1) := by decide +kernel
theorem dX6_fill_86 : decode cX6_fill 86 = .ok (.iaload, 1) := by decide +kernel
theorem dX6_fill_87 : decode cX6_fill 87 = .ok (.istore 7, 2) := by decide +kernel
theorem dX6_fill_89 : decode cX6_fill 89 = .ok (.goto 68, 3) := by decide +kernel
theorem dX6_fill_92 : decode cX6_fill 92 = .ok (.iload 5, 2) := by decide +kernel
theorem dX6_fill_94 : decode cX6_fill 94 = .ok (.iload_n 3, 1) := by decide +kernel
theorem dX6_fill_95 : decode cX6_fill 95 = .ok (.if_icmp .ge 62, 3) := by decide +kernel
theorem dX6_fill_98 : decode cX6_fill 98 = .ok (.iload 6, 2) := by decide +kernel
theorem dX6_fill_100 : decode cX6_fill 100 = .ok (.iload 4, 2) := by decide +kernel
theorem dX6_fill_102 : decode cX6_fill 102 = .ok (.if_icmp .ge 55, 3) := by decide +kernel
theorem dX6_fill_105 : decode cX6_fill 105 = .ok (.aload_n 0, 1) := by decide +kernel
theorem dX6_fill_106 : decode cX6_fill 106 = .ok (.getfield 34, 3) := by decide +kernel
theorem dX6_fill_109 : decode cX6_fill 109 = .ok (.bipush 21, 2) := by decide +kernel
theorem dX6_fill_111 : decode cX6_fill 111 = .ok (.iload 5, 2) := by decide +kernel
theorem dX6_fill_113 : decode cX6_fill 113 = .ok (.iconst 1, 1) := by decide +kernel
theorem dX6_fill_114 : decode cX6_fill 114 = .ok (.iadd, 1) := by decide +kernel
theorem dX6_fill_115 : decode cX6_fill 115 = .ok (.imul, 1) := by decide +kernel
theorem dX6_fill_116 : decode cX6_fill 116 = .ok (.iload 6, 2) := by decide +kernel
theorem dX6_fill_118 : decode cX6_fill 118 = .ok (.iadd, 1) := by decide +kernel
theorem dX6_fill_119 : decode cX6_fill 119 = .ok (.iaload, 1) := by decide +kernel
theorem dX6_fill_120 : decode cX6_fill 120 = .ok (.istore 8, 2) := by decide +kernel
theorem dX6_fill_122 : decode cX6_fill 122 = .ok (.aload_n 0, 1) := by decide +kernel
theorem dX6_fill_123 : decode cX6_fill 123 = .ok (.getfield 34, 3) := by decide +kernel
theorem dX6_fill_126 : decode cX6_fill 126 = .ok (.bipush 21, 2) := by decide +kernel
theorem dX6_fill_128 : decode cX6_fill 128 = .ok (.iload 5, 2) := by decide +kernel
theorem dX6_fill_130 : decode cX6_fill 130 = .ok (.imul, 1) := by decide +kernel
theorem dX6_fill_131 : decode cX6_fill 131 = .ok (.iload 6, 2) := by decide +kernel
theorem dX6_fill_133 : decode cX6_fill 133 = .ok (.iadd, 1) := by decide +kernel
theorem dX6_fill_134 : decode cX6_fill 134 = .ok (.iconst 1, 1) := by decide +kernel
theorem dX6_fill_135 : decode cX6_fill 135 = .ok (.iadd, 1) := by decide +kernel
theorem dX6_fill_136 : decode cX6_fill 136 = .ok (.iaload, 1) := by decide +kernel
theorem dX6_fill_137 : decode cX6_fill 137 = .ok (.istore 9, 2) := by decide +kernel
theorem dX6_fill_139 : decode cX6_fill 139 = .ok (.iconst 1, 1) := by decide +kernel
theorem dX6_fill_140 : decode cX6_fill 140 = .ok (.iload 8, 2) := by decide +kernel
theorem dX6_fill_142 : decode cX6_fill 142 = .ok (.iload 9, 2) := by decide +kernel
theorem dX6_fill_144 : decode cX6_fill 144 = .ok (.if_icmp .ge 8, 3) := by decide +kernel
theorem dX6_fill_147 : decode cX6_fill 147 = .ok (.iload 8, 2) := by decide +kernel
theorem dX6_fill_149 : decode cX6_fill 149 = .ok (.goto 5, 3) := by decide +kernel
theorem dX6_fill_152 : decode cX6_fill 152 = .ok (.iload 9, 2) := by decide +kernel
theorem dX6_fill_154 : decode cX6_fill 154 = .ok (.iadd, 1) := by decide +kernel
theorem dX6_fill_155 : decode cX6_fill 155 = .ok (.istore 7, 2) := by decide +kernel
theorem dX6_fill_157 : decode cX6_fill 157 = .ok (.aload_n 0, 1) := by decide +kernel
theorem dX6_fill_158 : decode cX6_fill 158 = .ok (.getfield 34, 3) := by decide +kernel
theorem dX6_fill_161 : decode cX6_fill 161 = .ok (.bipush 21, 2) := by decide +kernel
theorem dX6_fill_163 : decode cX6_fill 163 = .ok (.iload 5, 2) := by decide +kernel
theorem dX6_fill_165 : decode cX6_fill 165 = .ok (.imul, 1) := by decide +kernel
theorem dX6_fill_166 : decode cX6_fill 166 = .ok (.iload 6, 2) := by decide +kernel
theorem dX6_fill_168 : decode cX6_fill 168 = .ok (.iadd, 1) := by decide +kernel
theorem dX6_fill_169 : decode cX6_fill 169 = .ok (.iload 7, 2) := by decide +kernel
theorem dX6_fill_171 : decode cX6_fill 171 = .ok (.iastore, 1) := by decide +kernel
theorem dX6_fill_172 : decode cX6_fill 172 = .ok (.iinc 6 (-1), 3) := by decide +kernel
theorem dX6_fill_175 : decode cX6_fill 175 = .ok (.goto (-148), 3) := by decide +kernel
theorem dX6_fill_178 : decode cX6_fill 178 = .ok (.iinc 5 (-1), 3) := by decide +kernel
theorem dX6_fill_181 : decode cX6_fill 181 = .ok (.goto (-163), 3) := by decide +kernel
theorem dX6_fill_184 : decode cX6_fill 184 = .ok (.return_, 1) := by decide +kernel
theorem dX6_deletes_0 : decode cX6_deletes 0 = .ok (.iload_n 2, 1) := by decide +kernel
theorem dX6_deletes_1 : decode cX6_deletes 1 = .ok (.aload_n 0, 1) := by decide +kernel
theorem dX6_deletes_2 : decode cX6_deletes 2 = .ok (.getfield 7, 3) := by decide +kernel
theorem dX6_deletes_5 : decode cX6_deletes 5 = .ok (.iload_n 1, 1) := by decide +kernel
theorem dX6_deletes_6 : decode cX6_deletes 6 = .ok (.iaload, 1) := by decide +kernel
theorem dX6_deletes_7 : decode cX6_deletes 7 = .ok (.if_icmp .ge 34, 3) := by decide +kernel
theorem dX6_deletes_10 : decode cX6_deletes 10 = .ok (.aload_n 0, 1) := by decide +kernel
theorem dX6_deletes_11 : decode cX6_deletes 11 = .ok (.getfield 34, 3) := by decide +kernel
theorem dX6_deletes_14 : decode cX6_deletes 14 = .ok (.bipush 21, 2) := by decide +kernel
theorem dX6_deletes_16 : decode cX6_deletes 16 = .ok (.iload_n 2, 1) := by decide +kernel
theorem dX6_deletes_17 : decode cX6_deletes 17 = .ok (.iconst 1, 1) := by decide +kernel
theorem dX6_deletes_18 : decode cX6_deletes 18 = .ok (.iadd, 1) := by decide +kernel
theorem dX6_deletes_19 : decode cX6_deletes 19 = .ok (.imul, 1) := by decide +kernel
theorem dX6_deletes_20 : decode cX6_deletes 20 = .ok (.iload_n 3, 1) := by decide +kernel
theorem dX6_deletes_21 : decode cX6_deletes 21 = .ok (.iadd, 1) := by decide +kernel
theorem dX6_deletes_22 : decode cX6_deletes 22 = .ok (.iaload, 1) := by decide +kernel
theorem dX6_deletes_23 : decode cX6_deletes 23 = .ok (.aload_n 0, 1) := by decide +kernel
theorem dX6_deletes_24 : decode cX6_deletes 24 = .ok (.getfield 34, 3) := by decide +kernel
theorem dX6_deletes_27 : decode cX6_deletes 27 = .ok (.bipush 21, 2) := by decide +kernel
theorem dX6_deletes_29 : decode cX6_deletes 29 = .ok (.iload_n 2, 1) := by decide +kernel
theorem dX6_deletes_30 : decode cX6_deletes 30 = .ok (.imul, 1) := by decide +kernel
theorem dX6_deletes_31 : decode cX6_deletes 31 = .ok (.iload_n 3, 1) := by decide +kernel
theorem dX6_deletes_32 : decode cX6_deletes 32 = .ok (.iadd, 1) := by decide +kernel
theorem dX6_deletes_33 : decode cX6_deletes 33 = .ok (.iaload, 1) := by decide +kernel
theorem dX6_deletes_34 : decode cX6_deletes 34 = .ok (.if_icmp .ge 7, 3) := by decide +kernel
theorem dX6_deletes_37 : decode cX6_deletes 37 = .ok (.iconst 1, 1) := by decide +kernel
theorem dX6_deletes_38 : decode cX6_deletes 38 = .ok (.goto 4, 3) := by decide +kernel
theorem dX6_deletes_41 : decode cX6_deletes 41 = .ok (.iconst 0, 1) := by decide +kernel
theorem dX6_deletes_42 : decode cX6_deletes 42 = .ok (.ireturn, 1) := by decide +kernel
set_option maxRecDepth 20000 in
theorem ggX6_diff_X6_isRow : GoodIn wsX6_diff wsX6_isRow := goodIn_r _ [17] (by decide +kernel) (by decide +kernel)
set_option maxRecDepth 20000 in
theorem gX6_diff_X6_isRow : GoodIn wsX6_diff (va_wsS RX6 53 yX6_isRow wsX6_isRow) := goodIn_app (goodIn_of _ (by decide +kernel)) ggX6_diff_X6_isRow
set_option maxRecDepth 20000 in
theorem ggX6_diff_X6_fill : GoodIn wsX6_diff wsX6_fill := goodIn_r _ [21, 5, 1, 22, 23, 24, 16, 25, 6, 35, 36, 37, 38, 39, 40, 41, 42, 43, 44, 45, 46, 47, 48, 49, 50, 51, 52, 53] (by decide +kernel) (by decide +kernel)
set_option maxRecDepth 20000 in
theorem gX6_diff_X6_fill : GoodIn wsX6_diff (wsV RX6 61 RX6 yX6_fill wsX6_fill) := goodIn_app (goodIn_of _ (by decide +kernel)) ggX6_diff_X6_fill
set_option maxRecDepth 20000 in
theorem ggX6_diff_X6_same : GoodIn wsX6_diff wsX6_same := goodIn_r _ [25, 6, 35, 36, 37, 38, 39, 40, 41, 42, 43, 44, 45, 46, 47, 48, 49, 50, 51, 52, 53] (by decide +kernel) (by decide +kernel)
set_option maxRecDepth 20000 in
theorem gX6_diff_X6_same : GoodIn wsX6_diff (wsV RX6 57 RX6 yX6_same wsX6_same) := goodIn_app (goodIn_of _ (by decide +kernel)) ggX6_diff_X6_same
set_option maxRecDepth 20000 in
theorem ggX6_diff_X6_deletes : GoodIn wsX6_diff wsX6_deletes := goodIn_r _ [29, 5, 1, 35, 36, 37, 38, 39, 40, 41, 42, 43, 44, 45, 46, 47, 48, 49, 50, 51, 52, 53] (by decide +kernel) (by decide +kernel)
set_option maxRecDepth 20000 in
theorem gX6_diff_X6_deletes : GoodIn wsX6_diff (wsV RX6 68 RX6 yX6_deletes wsX6_deletes) := goodIn_app (goodIn_of _ (by decide +kernel)) ggX6_diff_X6_deletes
set_option maxRecDepth 20000 in
theorem ggX6_diff_X6_put : GoodIn wsX6_diff wsX6_put := goodIn_r _ [33, 11, 4, 13, 34, 35, 36, 37, 38, 39, 40, 41, 42, 43, 44, 45, 46, 47, 48, 49, 50, 51, 52, 53] (by decide +kernel) (by decide +kernel)
set_option maxRecDepth 20000 in
theorem gX6_diff_X6_put : GoodIn wsX6_diff (wsV RX6 72 RX6 yX6_put wsX6_put) := goodIn_app (goodIn_of _ (by decide +kernel)) ggX6_diff_X6_put
theorem dX6_diff_0 : decode cX6_diff 0 = .ok (.iload_n 1, 1) := by decide +kernel
theorem dX6_diff_1 : decode cX6_diff 1 = .ok (.invokestatic 53, 3) := by decide +kernel
theorem dX6_diff_4 : decode cX6_diff 4 = .ok (.ifCond .eq 14, 3) := by decide +kernel
theorem dX6_diff_7 : decode cX6_diff 7 = .ok (.iload_n 2, 1) := by decide +kernel
theorem dX6_diff_8 : decode cX6_diff 8 = .ok (.invokestatic 53, 3) := by decide +kernel
theorem dX6_diff_11 : decode cX6_diff 11 = .ok (.ifCond .eq 7, 3) := by decide +kernel
theorem dX6_diff_14 : decode cX6_diff 14 = .ok (.iconst 1, 1) := by decide +kernel
theorem dX6_diff_15 : decode cX6_diff 15 = .ok (.goto 4, 3) := by decide +kernel
theorem dX6_diff_18 : decode cX6_diff 18 = .ok (.iconst 0, 1) := by decide +kernel
theorem dX6_diff_19 : decode cX6_diff 19 = .ok (.istore_n 3, 1) := by decide +kernel
theorem dX6_diff_20 : decode cX6_diff 20 = .ok (.iload_n 3, 1) := by decide +kernel
theorem dX6_diff_21 : decode cX6_diff 21 = .ok (.ifCond .eq 9, 3) := by decide +kernel
theorem dX6_diff_24 : decode cX6_diff 24 = .ok (.aload_n 0, 1) := by decide +kernel
theorem dX6_diff_25 : decode cX6_diff 25 = .ok (.iload_n 1, 1) := by decide +kernel
theorem dX6_diff_26 : decode cX6_diff 26 = .ok (.iload_n 2, 1) := by decide +kernel
theorem dX6_diff_27 : decode cX6_diff 27 = .ok (.invokevirtual 61, 3) := by decide +kernel
theorem dX6_diff_30 : decode cX6_diff 30 = .ok (.aload_n 0, 1) := by decide +kernel
theorem dX6_diff_31 : decode cX6_diff 31 = .ok (.iload_n 3, 1) := by decide +kernel
theorem dX6_diff_32 : decode cX6_diff 32 = .ok (.ifCond .ne 7, 3) := by decide +kernel
theorem dX6_diff_35 : decode cX6_diff 35 = .ok (.iconst 1, 1) := by decide +kernel
theorem dX6_diff_36 : decode cX6_diff 36 = .ok (.goto 21, 3) := by decide +kernel
theorem dX6_diff_39 : decode cX6_diff 39 = .ok (.aload_n 0, 1) := by decide +kernel
theorem dX6_diff_40 : decode cX6_diff 40 = .ok (.getfield 34, 3) := by decide +kernel
theorem dX6_diff_43 : decode cX6_diff 43 = .ok (.iconst 0, 1) := by decide +kernel
theorem dX6_diff_44 : decode cX6_diff 44 = .ok (.iaload, 1) := by decide +kernel
theorem dX6_diff_45 : decode cX6_diff 45 = .ok (.aload_n 0, 1) := by decide +kernel
theorem dX6_diff_46 : decode cX6_diff 46 = .ok (.getfield 46, 3) := by decide +kernel
theorem dX6_diff_49 : decode cX6_diff 49 = .ok (.if_icmp .le 7, 3) := by decide +kernel
theorem dX6_diff_52 : decode cX6_diff 52 = .ok (.iconst 2, 1) := by decide +kernel
theorem dX6_diff_53 : decode cX6_diff 53 = .ok (.goto 4, 3) := by decide +kernel
theorem dX6_diff_56 : decode cX6_diff 56 = .ok (.iconst 0, 1) := by decide +kernel
theorem dX6_diff_57 : decode cX6_diff 57 = .ok (.putfield 50, 3) := by decide +kernel
theorem dX6_diff_60 : decode cX6_diff 60 = .ok (.aload_n 0, 1) := by decide +kernel
theorem dX6_diff_61 : decode cX6_diff 61 = .ok (.getfield 50, 3) := by decide +kernel
theorem dX6_diff_64 : decode cX6_diff 64 = .ok (.ifCond .le 5, 3) := by decide +kernel
theorem dX6_diff_67 : decode cX6_diff 67 = .ok (.iconst 0, 1) := by decide +kernel
theorem dX6_diff_68 : decode cX6_diff 68 = .ok (.ireturn, 1) := by decide +kernel
theorem dX6_diff_69 : decode cX6_diff 69 = .ok (.aload_n 0, 1) := by decide +kernel
theorem dX6_diff_70 : decode cX6_diff 70 = .ok (.iconst 0, 1) := by decide +kernel
theorem dX6_diff_71 : decode cX6_diff 71 = .ok (.putfield 65, 3) := by decide +kernel
theorem dX6_diff_74 : decode cX6_diff 74 = .ok (.iconst 0, 1) := by decide +kernel
theorem dX6_diff_75 : decode cX6_diff 75 = .ok (.istore 4, 2) := by decide +kernel
theorem dX6_diff_77 : decode cX6_diff 77 = .ok (.iconst 0, 1) := by decide +kernel
theorem dX6_diff_78 : decode cX6_diff 78 = .ok (.istore 5, 2) := by decide +kernel
theorem dX6_diff_80 : decode cX6_diff 80 = .ok (.iload 4, 2) := by decide +kernel
theorem dX6_diff_82 : decode cX6_diff 82 = .ok (.aload_n 0, 1) := by decide +kernel
theorem dX6_diff_83 : decode cX6_diff 83 = .ok (.getfield 7, 3) := by decide +kernel
theorem dX6_diff_86 : decode cX6_diff 86 = .ok (.iload_n 1, 1) := by decide +kernel
theorem dX6_diff_87 : decode cX6_diff 87 = .ok (.iaload, 1) := by decide +kernel
theorem dX6_diff_88 : decode cX6_diff 88 = .ok (.if_icmp .lt 14, 3) := by decide +kernel
theorem dX6_diff_91 : decode cX6_diff 91 = .ok (.iload 5, 2) := by decide +kernel
theorem dX6_diff_93 : decode cX6_diff 93 = .ok (.aload_n 0, 1) := by decide +kernel
theorem dX6_diff_94 : decode cX6_diff 94 = .ok (.getfield 7, 3) := by decide +kernel
theorem dX6_diff_97 : decode cX6_diff 97 = .ok (.iload_n 2, 1) := by decide +kernel
theorem dX6_diff_98 : decode cX6_diff 98 = .ok (.iaload, 1) := by decide +kernel
theorem dX6_diff_99 : decode cX6_diff 99 = .ok (.if_icmp .ge 109, 3) := by decide +kernel
theorem dX6_diff_102 : decode cX6_diff 102 = .ok (.iload 4, 2) := by decide +kernel
theorem dX6_diff_104 : decode cX6_diff 104 = .ok (.aload_n 0, 1) := by decide +kernel
theorem dX6_diff_105 : decode cX6_diff 105 = .ok (.getfield 7, 3) := by decide +kernel
theorem dX6_diff_108 : decode cX6_diff 108 = .ok (.iload_n 1, 1) := by decide +kernel
theorem dX6_diff_109 : decode cX6_diff 109 = .ok (.iaload, 1) := by decide +kernel
theorem dX6_diff_110 : decode cX6_diff 110 = .ok (.if_icmp .ge 36, 3) := by decide +kernel
theorem dX6_diff_113 : decode cX6_diff 113 = .ok (.iload 5, 2) := by decide +kernel
theorem dX6_diff_115 : decode cX6_diff 115 = .ok (.aload_n 0, 1) := by decide +kernel
theorem dX6_diff_116 : decode cX6_diff 116 = .ok (.getfield 7, 3) := by decide +kernel
theorem dX6_diff_119 : decode cX6_diff 119 = .ok (.iload_n 2, 1) := by decide +kernel
theorem dX6_diff_120 : decode cX6_diff 120 = .ok (.iaload, 1) := by decide +kernel
theorem dX6_diff_121 : decode cX6_diff 121 = .ok (.if_icmp .ge 25, 3) := by decide +kernel
theorem dX6_diff_124 : decode cX6_diff 124 = .ok (.aload_n 0, 1) := by decide +kernel
theorem dX6_diff_125 : decode cX6_diff 125 = .ok (.iload_n 1, 1) := by decide +kernel
theorem dX6_diff_126 : decode cX6_diff 126 = .ok (.iload 4, 2) := by decide +kernel
theorem dX6_diff_128 : decode cX6_diff 128 = .ok (.iload_n 2, 1) := by decide +kernel
theorem dX6_diff_129 : decode cX6_diff 129 = .ok (.iload 5, 2) := by decide +kernel
theorem dX6_diff_131 : decode cX6_diff 131 = .ok (.invokevirtual 57, 3) := by decide +kernel
theorem dX6_diff_134 : decode cX6_diff 134 = .ok (.ifCond .eq 12, 3) := by decide +kernel
theorem dX6_diff_137 : decode cX6_diff 137 = .ok (.iinc 4 1, 3) := by decide +kernel
theorem dX6_diff_140 : decode cX6_diff 140 = .ok (.iinc 5 1, 3) := by decide +kernel
theorem dX6_diff_143 : decode cX6_diff 143 = .ok (.goto (-63), 3) := by decide +kernel
theorem dX6_diff_146 : decode cX6_diff 146 = .ok (.aload_n 0, 1) := by decide +kernel
theorem dX6_diff_147 : decode cX6_diff 147 = .ok (.iload_n 1, 1) := by decide +kernel
theorem dX6_diff_148 : decode cX6_diff 148 = .ok (.iload 4, 2) := by decide +kernel
theorem dX6_diff_150 : decode cX6_diff 150 = .ok (.iload 5, 2) := by decide +kernel
theorem dX6_diff_152 : decode cX6_diff 152 = .ok (.invokevirtual 68, 3) := by decide +kernel
theorem dX6_diff_155 : decode cX6_diff 155 = .ok (.ifCond .eq 28, 3) := by decide +kernel
theorem dX6_diff_158 : decode cX6_diff 158 = .ok (.aload_n 0, 1) := by decide +kernel
theorem dX6_diff_159 : decode cX6_diff 159 = .ok (.iconst 0, 1) := by decide +kernel
theorem dX6_diff_160 : decode cX6_diff 160 = .ok (.iload 4, 2) := by decide +kernel
theorem dX6_diff_162 : decode cX6_diff 162 = .ok (.aload_n 0, 1) := by decide +kernel
theorem dX6_diff_163 : decode cX6_diff 163 = .ok (.getfield 13, 3) := by decide +kernel
theorem dX6_diff_166 : decode cX6_diff 166 = .ok (.bipush 20, 2) := by decide +kernel
theorem dX6_diff_168 : decode cX6_diff 168 = .ok (.iload_n 1, 1) := by decide +kernel
theorem dX6_diff_169 : decode cX6_diff 169 = .ok (.imul, 1) := by decide +kernel
theorem dX6_diff_170 : decode cX6_diff 170 = .ok (.iload 4, 2) := by decide +kernel
theorem dX6_diff_172 : decode cX6_diff 172 = .ok (.iadd, 1) := by decide +kernel
theorem dX6_diff_173 : decode cX6_diff 173 = .ok (.iaload, 1) := by decide +kernel
theorem dX6_diff_174 : decode cX6_diff 174 = .ok (.invokevirtual 72, 3) := by decide +kernel
theorem dX6_diff_177 : decode cX6_diff 177 = .ok (.iinc 4 1, 3) := by decide +kernel
theorem dX6_diff_180 : decode cX6_diff 180 = .ok (.goto (-100), 3) := by decide +kernel
theorem dX6_diff_183 : decode cX6_diff 183 = .ok (.aload_n 0, 1) := by decide +kernel
theorem dX6_diff_184 : decode cX6_diff 184 = .ok (.iconst 1, 1) := by decide +kernel
theorem dX6_diff_185 : decode cX6_diff 185 = .ok (.iload 4, 2) := by decide +kernel
theorem dX6_diff_187 : decode cX6_diff 187 = .ok (.aload_n 0, 1) := by decide +kernel
theorem dX6_diff_188 : decode cX6_diff 188 = .ok (.getfield 13, 3) := by decide +kernel
theorem dX6_diff_191 : decode cX6_diff 191 = .ok (.bipush 20, 2) := by decide +kernel
theorem dX6_diff_193 : decode cX6_diff 193 = .ok (.iload_n 2, 1) := by decide +kernel
theorem dX6_diff_194 : decode cX6_diff 194 = .ok (.imul, 1) := by decide +kernel
theorem dX6_diff_195 : decode cX6_diff 195 = .ok (.iload 5, 2) := by decide +kernel
theorem dX6_diff_197 : decode cX6_diff 197 = .ok (.iadd, 1) := by decide +kernel
theorem dX6_diff_198 : decode cX6_diff 198 = .ok (.iaload, 1) := by decide +kernel
theorem dX6_diff_199 : decode cX6_diff 199 = .ok (.invokevirtual 72, 3) := by decide +kernel
theorem dX6_diff_202 : decode cX6_diff 202 = .ok (.iinc 5 1, 3) := by decide +kernel
theorem dX6_diff_205 : decode cX6_diff 205 = .ok (.goto (-125), 3) := by decide +kernel
theorem dX6_diff_208 : decode cX6_diff 208 = .ok (.aload_n 0, 1) := by decide +kernel
theorem dX6_diff_209 : decode cX6_diff 209 = .ok (.iconst 1, 1) := by decide +kernel
theorem dX6_diff_210 : decode cX6_diff 210 = .ok (.putfield 76, 3) := by decide +kernel
theorem dX6_diff_213 : decode cX6_diff 213 = .ok (.aload_n 0, 1) := by decide +kernel
theorem dX6_diff_214 : decode cX6_diff 214 = .ok (.aload_n 0, 1) := by decide +kernel
theorem dX6_diff_215 : decode cX6_diff 215 = .ok (.getfield 65, 3) := by decide +kernel
theorem dX6_diff_218 : decode cX6_diff 218 = .ok (.putfield 80, 3) := by decide +kernel
theorem dX6_diff_221 : decode cX6_diff 221 = .ok (.aload_n 0, 1) := by decide +kernel
theorem dX6_diff_222 : decode cX6_diff 222 = .ok (.aload_n 0, 1) := by decide +kernel
theorem dX6_diff_223 : decode cX6_diff 223 = .ok (.getfield 7, 3) := by decide +kernel
theorem dX6_diff_226 : decode cX6_diff 226 = .ok (.iload_n 1, 1) := by decide +kernel
theorem dX6_diff_227 : decode cX6_diff 227 = .ok (.iaload, 1) := by decide +kernel
theorem dX6_diff_228 : decode cX6_diff 228 = .ok (.putfield 83, 3) := by decide +kernel
theorem dX6_diff_231 : decode cX6_diff 231 = .ok (.iconst 0, 1) := by decide +kernel
theorem dX6_diff_232 : decode cX6_diff 232 = .ok (.istore 6, 2) := by decide +kernel
theorem dX6_diff_234 : decode cX6_diff 234 = .ok (.iload 6, 2) := by decide +kernel
theorem dX6_diff_236 : decode cX6_diff 236 = .ok (.aload_n 0, 1) := by decide +kernel
theorem dX6_diff_237 : decode cX6_diff 237 = .ok (.getfield 80, 3) := by decide +kernel
theorem dX6_diff_240 : decode cX6_diff 240 = .ok (.if_icmp .ge 37, 3) := by decide +kernel
theorem dX6_diff_243 : decode cX6_diff 243 = .ok (.aload_n 0, 1) := by decide +kernel
theorem dX6_diff_244 : decode cX6_diff 244 = .ok (.getfield 25, 3) := by decide +kernel
theorem dX6_diff_247 : decode cX6_diff 247 = .ok (.iload 6, 2) := by decide +kernel
theorem dX6_diff_249 : decode cX6_diff 249 = .ok (.aload_n 0, 1) := by decide +kernel
theorem dX6_diff_250 : decode cX6_diff 250 = .ok (.getfield 16, 3) := by decide +kernel
theorem dX6_diff_253 : decode cX6_diff 253 = .ok (.iload 6, 2) := by decide +kernel
theorem dX6_diff_255 : decode cX6_diff 255 = .ok (.iaload, 1) := by decide +kernel
theorem dX6_diff_256 : decode cX6_diff 256 = .ok (.iastore, 1) := by decide +kernel
theorem dX6_diff_257 : decode cX6_diff 257 = .ok (.aload_n 0, 1) := by decide +kernel
theorem dX6_diff_258 : decode cX6_diff 258 = .ok (.getfield 28, 3) := by decide +kernel
theorem dX6_diff_261 : decode cX6_diff 261 = .ok (.iload 6, 2) := by decide +kernel
theorem dX6_diff_263 : decode cX6_diff 263 = .ok (.aload_n 0, 1) := by decide +kernel
theorem dX6_diff_264 : decode cX6_diff 264 = .ok (.getfield 19, 3) := by decide +kernel
theorem dX6_diff_267 : decode cX6_diff 267 = .ok (.iload 6, 2) := by decide +kernel
theorem dX6_diff_269 : decode cX6_diff 269 = .ok (.iaload, 1) := by decide +kernel
theorem dX6_diff_270 : decode cX6_diff 270 = .ok (.iastore, 1) := by decide +kernel
theorem dX6_diff_271 : decode cX6_diff 271 = .ok (.iinc 6 1, 3) := by decide +kernel
theorem dX6_diff_274 : decode cX6_diff 274 = .ok (.goto (-40), 3) := by decide +kernel
theorem dX6_diff_277 : decode cX6_diff 277 = .ok (.aload_n 0, 1) := by decide +kernel
theorem dX6_diff_278 : decode cX6_diff 278 = .ok (.getfield 65, 3) := by decide +kernel
theorem dX6_diff_281 : decode cX6_diff 281 = .ok (.ireturn, 1) := by decide +kernel
theorem dX6_put_0 : decode cX6_put 0 = .ok (.aload_n 0, 1) := by decide +kernel
theorem dX6_put_1 : decode cX6_put 1 = .ok (.getfield 16, 3) := by decide +kernel
theorem dX6_put_4 : decode cX6_put 4 = .ok (.aload_n 0, 1) := by decide +kernel
theorem dX6_put_5 : decode cX6_put 5 = .ok (.getfield 65, 3) := by decide +kernel
theorem dX6_put_8 : decode cX6_put 8 = .ok (.iload_n 1, 1) := by decide +kernel
theorem dX6_put_9 : decode cX6_put 9 = .ok (.iastore, 1) := by decide +kernel
theorem dX6_put_10 : decode cX6_put 10 = .ok (.aload_n 0, 1) := by decide +kernel
theorem dX6_put_11 : decode cX6_put 11 = .ok (.getfield 19, 3) := by decide +kernel
theorem dX6_put_14 : decode cX6_put 14 = .ok (.aload_n 0, 1) := by decide +kernel
theorem dX6_put_15 : decode cX6_put 15 = .ok (.getfield 65, 3) := by decide +kernel
theorem dX6_put_18 : decode cX6_put 18 = .ok (.iload_n 2, 1) := by decide +kernel
theorem dX6_put_19 : decode cX6_put 19 = .ok (.iastore, 1) := by decide +kernel
theorem dX6_put_20 : decode cX6_put 20 = .ok (.aload_n 0, 1) := by decide +kernel
theorem dX6_put_21 : decode cX6_put 21 = .ok (.getfield 22, 3) := by decide +kernel
theorem dX6_put_24 : decode cX6_put 24 = .ok (.aload_n 0, 1) := by decide +kernel
theorem dX6_put_25 : decode cX6_put 25 = .ok (.getfield 65, 3) := by decide +kernel
theorem dX6_put_28 : decode cX6_put 28 = .ok (.iload_n 3, 1) := by decide +kernel
theorem dX6_put_29 : decode cX6_put 29 = .ok (.iastore, 1) := by decide +kernel
theorem dX6_put_30 : decode cX6_put 30 = .ok (.aload_n 0, 1) := by decide +kernel
theorem dX6_put_31 : decode cX6_put 31 = .ok (.dup, 1) := by decide +kernel
theorem dX6_put_32 : decode cX6_put 32 = .ok (.getfield 65, 3) := by decide +kernel
theorem dX6_put_35 : decode cX6_put 35 = .ok (.iconst 1, 1) := by decide +kernel
theorem dX6_put_36 : decode cX6_put 36 = .ok (.iadd, 1) := by decide +kernel
theorem dX6_put_37 : decode cX6_put 37 = .ok (.putfield 65, 3) := by decide +kernel
theorem dX6_put_40 : decode cX6_put 40 = .ok (.return_, 1) := by decide +kernel
theorem dX6_operation_0 : decode cX6_operation 0 = .ok (.aload_n 0, 1) := by decide +kernel
theorem dX6_operation_1 : decode cX6_operation 1 = .ok (.iconst 0, 1) := by decide +kernel
theorem dX6_operation_2 : decode cX6_operation 2 = .ok (.putfield 50, 3) := by decide +kernel
theorem dX6_operation_5 : decode cX6_operation 5 = .ok (.iload_n 1, 1) := by decide +kernel
theorem dX6_operation_6 : decode cX6_operation 6 = .ok (.ifCond .lt 20, 3) := by decide +kernel
theorem dX6_operation_9 : decode cX6_operation 9 = .ok (.iload_n 1, 1) := by decide +kernel
theorem dX6_operation_10 : decode cX6_operation 10 = .ok (.aload_n 0, 1) := by decide +kernel
theorem dX6_operation_11 : decode cX6_operation 11 = .ok (.getfield 65, 3) := by decide +kernel
theorem dX6_operation_14 : decode cX6_operation 14 = .ok (.if_icmp .ge 12, 3) := by decide +kernel
theorem dX6_operation_17 : decode cX6_operation 17 = .ok (.iload_n 2, 1) := by decide +kernel
theorem dX6_operation_18 : decode cX6_operation 18 = .ok (.ifCond .lt 8, 3) := by decide +kernel
theorem dX6_operation_21 : decode cX6_operation 21 = .ok (.iload_n 2, 1) := by decide +kernel
theorem dX6_operation_22 : decode cX6_operation 22 = .ok (.iconst 2, 1) := by decide +kernel
theorem dX6_operation_23 : decode cX6_operation 23 = .ok (.if_icmp .le 5, 3) := by decide +kernel
theorem dX6_operation_26 : decode cX6_operation 26 = .ok (.iconst (-1), 1) := by decide +kernel
theorem dX6_operation_27 : decode cX6_operation 27 = .ok (.ireturn, 1) := by decide +kernel
theorem dX6_operation_28 : decode cX6_operation 28 = .ok (.iload_n 2, 1) := by decide +kernel
theorem dX6_operation_29 : decode cX6_operation 29 = .ok (.ifCond .ne 12, 3) := by decide +kernel
theorem dX6_operation_32 : decode cX6_operation 32 = .ok (.aload_n 0, 1) := by decide +kernel
theorem dX6_operation_33 : decode cX6_operation 33 = .ok (.getfield 16, 3) := by decide +kernel
theorem dX6_operation_36 : decode cX6_operation 36 = .ok (.iload_n 1, 1) := by decide +kernel
theorem dX6_operation_37 : decode cX6_operation 37 = .ok (.iaload, 1) := by decide +kernel
theorem dX6_operation_38 : decode cX6_operation 38 = .ok (.goto 23, 3) := by decide +kernel
theorem dX6_operation_41 : decode cX6_operation 41 = .ok (.iload_n 2, 1) := by decide +kernel
theorem dX6_operation_42 : decode cX6_operation 42 = .ok (.iconst 1, 1) := by decide +kernel
theorem dX6_operation_43 : decode cX6_operation 43 = .ok (.if_icmp .ne 12, 3) := by decide +kernel
theorem dX6_operation_46 : decode cX6_operation 46 = .ok (.aload_n 0, 1) := by decide +kernel
theorem dX6_operation_47 : decode cX6_operation 47 = .ok (.getfield 19, 3) := by decide +kernel
theorem dX6_operation_50 : decode cX6_operation 50 = .ok (.iload_n 1, 1) := by decide +kernel
theorem dX6_operation_51 : decode cX6_operation 51 = .ok (.iaload, 1) := by decide +kernel
theorem dX6_operation_52 : decode cX6_operation 52 = .ok (.goto 9, 3) := by decide +kernel
theorem dX6_operation_55 : decode cX6_operation 55 = .ok (.aload_n 0, 1) := by decide +kernel
theorem dX6_operation_56 : decode cX6_operation 56 = .ok (.getfield 22, 3) := by decide +kernel
theorem dX6_operation_59 : decode cX6_operation 59 = .ok (.iload_n 1, 1) := by decide +kernel
theorem dX6_operation_60 : decode cX6_operation 60 = .ok (.iaload, 1) := by decide +kernel
theorem dX6_operation_61 : decode cX6_operation 61 = .ok (.ireturn, 1) := by decide +kernel
theorem dX6_forget_0 : decode cX6_forget 0 = .ok (.aload_n 0, 1) := by decide +kernel
theorem dX6_forget_1 : decode cX6_forget 1 = .ok (.iconst 0, 1) := by decide +kernel
theorem dX6_forget_2 : decode cX6_forget 2 = .ok (.putfield 50, 3) := by decide +kernel
theorem dX6_forget_5 : decode cX6_forget 5 = .ok (.aload_n 0, 1) := by decide +kernel
theorem dX6_forget_6 : decode cX6_forget 6 = .ok (.iconst 0, 1) := by decide +kernel
theorem dX6_forget_7 : decode cX6_forget 7 = .ok (.putfield 65, 3) := by decide +kernel
theorem dX6_forget_10 : decode cX6_forget 10 = .ok (.return_, 1) := by decide +kernel
end
section
set_option maxRecDepth 20000 in
theorem ggX6_load_X6_put : GoodIn wsX6_load wsX6_put := goodIn_r _ [7, 8, 2, 9, 10, 11, 12, 13, 14, 15, 16, 17, 18, 19, 20, 21, 22, 23, 24, 25, 26, 27, 28, 29] (by decide +kernel) (by decide +kernel)
set_option maxRecDepth 20000 in
theorem gX6_load_X6_put : GoodIn wsX6_load (wsV RX6 72 RX6 yX6_put wsX6_put) := goodIn_app (goodIn_of _ (by decide +kernel)) ggX6_load_X6_put
theorem dX6_load_0 : decode cX6_load 0 = .ok (.aload_n 0, 1) := by decide +kernel
theorem dX6_load_1 : decode cX6_load 1 = .ok (.iconst 0, 1) := by decide +kernel
theorem dX6_load_2 : decode cX6_load 2 = .ok (.putfield 50, 3) := by decide +kernel
theorem dX6_load_5 : decode cX6_load 5 = .ok (.aload_n 0, 1) := by decide +kernel
theorem dX6_load_6 : decode cX6_load 6 = .ok (.getfield 65, 3) := by decide +kernel
theorem dX6_load_9 : decode cX6_load 9 = .ok (.bipush 60, 2) := by decide +kernel
theorem dX6_load_11 : decode cX6_load 11 = .ok (.if_icmp .ne 5, 3) := by decide +kernel
theorem dX6_load_14 : decode cX6_load 14 = .ok (.iconst 0, 1) := by decide +kernel
theorem dX6_load_15 : decode cX6_load 15 = .ok (.ireturn, 1) := by decide +kernel
theorem dX6_load_16 : decode cX6_load 16 = .ok (.aload_n 0, 1) := by decide +kernel
theorem dX6_load_17 : decode cX6_load 17 = .ok (.iload_n 1, 1) := by decide +kernel
theorem dX6_load_18 : decode cX6_load 18 = .ok (.iload_n 2, 1) := by decide +kernel
theorem dX6_load_19 : decode cX6_load 19 = .ok (.iload_n 3, 1) := by decide +kernel
theorem dX6_load_20 : decode cX6_load 20 = .ok (.invokevirtual 72, 3) := by decide +kernel
theorem dX6_load_23 : decode cX6_load 23 = .ok (.iconst 1, 1) := by decide +kernel
theorem dX6_load_24 : decode cX6_load 24 = .ok (.ireturn, 1) := by decide +kernel
theorem dX6_trouble_0 : decode cX6_trouble 0 = .ok (.aload_n 0, 1) := by decide +kernel
theorem dX6_trouble_1 : decode cX6_trouble 1 = .ok (.getfield 7, 3) := by decide +kernel
theorem dX6_trouble_4 : decode cX6_trouble 4 = .ok (.iload_n 1, 1) := by decide +kernel
theorem dX6_trouble_5 : decode cX6_trouble 5 = .ok (.iaload, 1) := by decide +kernel
theorem dX6_trouble_6 : decode cX6_trouble 6 = .ok (.istore 5, 2) := by decide +kernel
theorem dX6_trouble_8 : decode cX6_trouble 8 = .ok (.iload_n 2, 1) := by decide +kernel
theorem dX6_trouble_9 : decode cX6_trouble 9 = .ok (.ifCond .ne 7, 3) := by decide +kernel
theorem dX6_trouble_12 : decode cX6_trouble 12 = .ok (.iconst 0, 1) := by decide +kernel
theorem dX6_trouble_13 : decode cX6_trouble 13 = .ok (.goto 35, 3) := by decide +kernel
theorem dX6_trouble_16 : decode cX6_trouble 16 = .ok (.aload_n 0, 1) := by decide +kernel
theorem dX6_trouble_17 : decode cX6_trouble 17 = .ok (.getfield 16, 3) := by decide +kernel
theorem dX6_trouble_20 : decode cX6_trouble 20 = .ok (.iload_n 2, 1) := by decide +kernel
theorem dX6_trouble_21 : decode cX6_trouble 21 = .ok (.iconst 1, 1) := by decide +kernel
theorem dX6_trouble_22 : decode cX6_trouble 22 = .ok (.isub, 1) := by decide +kernel
theorem dX6_trouble_23 : decode cX6_trouble 23 = .ok (.iaload, 1) := by decide +kernel
theorem dX6_trouble_24 : decode cX6_trouble 24 = .ok (.ifCond .ne 16, 3) := by decide +kernel
theorem dX6_trouble_27 : decode cX6_trouble 27 = .ok (.aload_n 0, 1) := by decide +kernel
theorem dX6_trouble_28 : decode cX6_trouble 28 = .ok (.getfield 19, 3) := by decide +kernel
theorem dX6_trouble_31 : decode cX6_trouble 31 = .ok (.iload_n 2, 1) := by decide +kernel
theorem dX6_trouble_32 : decode cX6_trouble 32 = .ok (.iconst 1, 1) := by decide +kernel
theorem dX6_trouble_33 : decode cX6_trouble 33 = .ok (.isub, 1) := by decide +kernel
theorem dX6_trouble_34 : decode cX6_trouble 34 = .ok (.iaload, 1) := by decide +kernel
theorem dX6_trouble_35 : decode cX6_trouble 35 = .ok (.iconst 1, 1) := by decide +kernel
theorem dX6_trouble_36 : decode cX6_trouble 36 = .ok (.iadd, 1) := by decide +kernel
theorem dX6_trouble_37 : decode cX6_trouble 37 = .ok (.goto 11, 3) := by decide +kernel
theorem dX6_trouble_40 : decode cX6_trouble 40 = .ok (.aload_n 0, 1) := by decide +kernel
theorem dX6_trouble_41 : decode cX6_trouble 41 = .ok (.getfield 19, 3) := by decide +kernel
theorem dX6_trouble_44 : decode cX6_trouble 44 = .ok (.iload_n 2, 1) := by decide +kernel
theorem dX6_trouble_45 : decode cX6_trouble 45 = .ok (.iconst 1, 1) := by decide +kernel
theorem dX6_trouble_46 : decode cX6_trouble 46 = .ok (.isub, 1) := by decide +kernel
theorem dX6_trouble_47 : decode cX6_trouble 47 = .ok (.iaload, 1) := by decide +kernel
theorem dX6_trouble_48 : decode cX6_trouble 48 = .ok (.istore 6, 2) := by decide +kernel
theorem dX6_trouble_50 : decode cX6_trouble 50 = .ok (.aload_n 0, 1) := by decide +kernel
theorem dX6_trouble_51 : decode cX6_trouble 51 = .ok (.getfield 16, 3) := by decide +kernel
theorem dX6_trouble_54 : decode cX6_trouble 54 = .ok (.iload_n 2, 1) := by decide +kernel
theorem dX6_trouble_55 : decode cX6_trouble 55 = .ok (.iaload, 1) := by decide +kernel
theorem dX6_trouble_56 : decode cX6_trouble 56 = .ok (.ifCond .lt 34, 3) := by decide +kernel
theorem dX6_trouble_59 : decode cX6_trouble 59 = .ok (.aload_n 0, 1) := by decide +kernel
theorem dX6_trouble_60 : decode cX6_trouble 60 = .ok (.getfield 16, 3) := by decide +kernel
theorem dX6_trouble_63 : decode cX6_trouble 63 = .ok (.iload_n 2, 1) := by decide +kernel
theorem dX6_trouble_64 : decode cX6_trouble 64 = .ok (.iaload, 1) := by decide +kernel
theorem dX6_trouble_65 : decode cX6_trouble 65 = .ok (.iconst 1, 1) := by decide +kernel
theorem dX6_trouble_66 : decode cX6_trouble 66 = .ok (.if_icmp .gt 24, 3) := by decide +kernel
theorem dX6_trouble_69 : decode cX6_trouble 69 = .ok (.aload_n 0, 1) := by decide +kernel
theorem dX6_trouble_70 : decode cX6_trouble 70 = .ok (.getfield 22, 3) := by decide +kernel
theorem dX6_trouble_73 : decode cX6_trouble 73 = .ok (.iload_n 2, 1) := by decide +kernel
theorem dX6_trouble_74 : decode cX6_trouble 74 = .ok (.iaload, 1) := by decide +kernel
theorem dX6_trouble_75 : decode cX6_trouble 75 = .ok (.ifCond .lt 15, 3) := by decide +kernel
theorem dX6_trouble_78 : decode cX6_trouble 78 = .ok (.aload_n 0, 1) := by decide +kernel
theorem dX6_trouble_79 : decode cX6_trouble 79 = .ok (.getfield 22, 3) := by decide +kernel
theorem dX6_trouble_82 : decode cX6_trouble 82 = .ok (.iload_n 2, 1) := by decide +kernel
theorem dX6_trouble_83 : decode cX6_trouble 83 = .ok (.iaload, 1) := by decide +kernel
theorem dX6_trouble_84 : decode cX6_trouble 84 = .ok (.sipush 30000, 3) := by decide +kernel
theorem dX6_trouble_87 : decode cX6_trouble 87 = .ok (.if_icmp .le 5, 3) := by decide +kernel
theorem dX6_trouble_90 : decode cX6_trouble 90 = .ok (.iconst 1, 1) := by decide +kernel
theorem dX6_trouble_91 : decode cX6_trouble 91 = .ok (.ireturn, 1) := by decide +kernel
theorem dX6_trouble_92 : decode cX6_trouble 92 = .ok (.aload_n 0, 1) := by decide +kernel
theorem dX6_trouble_93 : decode cX6_trouble 93 = .ok (.getfield 19, 3) := by decide +kernel
theorem dX6_trouble_96 : decode cX6_trouble 96 = .ok (.iload_n 2, 1) := by decide +kernel
theorem dX6_trouble_97 : decode cX6_trouble 97 = .ok (.iaload, 1) := by decide +kernel
theorem dX6_trouble_98 : decode cX6_trouble 98 = .ok (.ifCond .lt 34, 3) := by decide +kernel
theorem dX6_trouble_101 : decode cX6_trouble 101 = .ok (.aload_n 0, 1) := by decide +kernel
theorem dX6_trouble_102 : decode cX6_trouble 102 = .ok (.getfield 19, 3) := by decide +kernel
theorem dX6_trouble_105 : decode cX6_trouble 105 = .ok (.iload_n 2, 1) := by decide +kernel
theorem dX6_trouble_106 : decode cX6_trouble 106 = .ok (.iaload, 1) := by decide +kernel
theorem dX6_trouble_107 : decode cX6_trouble 107 = .ok (.iload 5, 2) := by decide +kernel
theorem dX6_trouble_109 : decode cX6_trouble 109 = .ok (.iconst 1, 1) := by decide +kernel
theorem dX6_trouble_110 : decode cX6_trouble 110 = .ok (.isub, 1) := by decide +kernel
theorem dX6_trouble_111 : decode cX6_trouble 111 = .ok (.aload_n 0, 1) := by decide +kernel
theorem dX6_trouble_112 : decode cX6_trouble 112 = .ok (.getfield 16, 3) := by decide +kernel
theorem dX6_trouble_115 : decode cX6_trouble 115 = .ok (.iload_n 2, 1) := by decide +kernel
theorem dX6_trouble_116 : decode cX6_trouble 116 = .ok (.iaload, 1) := by decide +kernel
theorem dX6_trouble_117 : decode cX6_trouble 117 = .ok (.iadd, 1) := by decide +kernel
theorem dX6_trouble_118 : decode cX6_trouble 118 = .ok (.if_icmp .gt 14, 3) := by decide +kernel
theorem dX6_trouble_121 : decode cX6_trouble 121 = .ok (.aload_n 0, 1) := by decide +kernel
theorem dX6_trouble_122 : decode cX6_trouble 122 = .ok (.getfield 19, 3) := by decide +kernel
theorem dX6_trouble_125 : decode cX6_trouble 125 = .ok (.iload_n 2, 1) := by decide +kernel
theorem dX6_trouble_126 : decode cX6_trouble 126 = .ok (.iaload, 1) := by decide +kernel
theorem dX6_trouble_127 : decode cX6_trouble 127 = .ok (.iload 6, 2) := by decide +kernel
theorem dX6_trouble_129 : decode cX6_trouble 129 = .ok (.if_icmp .ge 5, 3) := by decide +kernel
theorem dX6_trouble_132 : decode cX6_trouble 132 = .ok (.iconst 2, 1) := by decide +kernel
theorem dX6_trouble_133 : decode cX6_trouble 133 = .ok (.ireturn, 1) := by decide +kernel
theorem dX6_trouble_134 : decode cX6_trouble 134 = .ok (.aload_n 0, 1) := by decide +kernel
theorem dX6_trouble_135 : decode cX6_trouble 135 = .ok (.getfield 16, 3) := by decide +kernel
theorem dX6_trouble_138 : decode cX6_trouble 138 = .ok (.iload_n 2, 1) := by decide +kernel
theorem dX6_trouble_139 : decode cX6_trouble 139 = .ok (.iaload, 1) := by decide +kernel
theorem dX6_trouble_140 : decode cX6_trouble 140 = .ok (.ifCond .ne 30, 3) := by decide +kernel
theorem dX6_trouble_143 : decode cX6_trouble 143 = .ok (.aload_n 0, 1) := by decide +kernel
theorem dX6_trouble_144 : decode cX6_trouble 144 = .ok (.getfield 13, 3) := by decide +kernel
theorem dX6_trouble_147 : decode cX6_trouble 147 = .ok (.bipush 20, 2) := by decide +kernel
theorem dX6_trouble_149 : decode cX6_trouble 149 = .ok (.iload_n 1, 1) := by decide +kernel
theorem dX6_trouble_150 : decode cX6_trouble 150 = .ok (.imul, 1) := by decide +kernel
theorem dX6_trouble_151 : decode cX6_trouble 151 = .ok (.aload_n 0, 1) := by decide +kernel
theorem dX6_trouble_152 : decode cX6_trouble 152 = .ok (.getfield 19, 3) := by decide +kernel
theorem dX6_trouble_155 : decode cX6_trouble 155 = .ok (.iload_n 2, 1) := by decide +kernel
theorem dX6_trouble_156 : decode cX6_trouble 156 = .ok (.iaload, 1) := by decide +kernel
theorem dX6_trouble_157 : decode cX6_trouble 157 = .ok (.iadd, 1) := by decide +kernel
theorem dX6_trouble_158 : decode cX6_trouble 158 = .ok (.iaload, 1) := by decide +kernel
theorem dX6_trouble_159 : decode cX6_trouble 159 = .ok (.aload_n 0, 1) := by decide +kernel
theorem dX6_trouble_160 : decode cX6_trouble 160 = .ok (.getfield 22, 3) := by decide +kernel
theorem dX6_trouble_163 : decode cX6_trouble 163 = .ok (.iload_n 2, 1) := by decide +kernel
theorem dX6_trouble_164 : decode cX6_trouble 164 = .ok (.iaload, 1) := by decide +kernel
theorem dX6_trouble_165 : decode cX6_trouble 165 = .ok (.if_icmp .eq 5, 3) := by decide +kernel
theorem dX6_trouble_168 : decode cX6_trouble 168 = .ok (.iconst 3, 1) := by decide +kernel
theorem dX6_trouble_169 : decode cX6_trouble 169 = .ok (.ireturn, 1) := by decide +kernel
theorem dX6_trouble_170 : decode cX6_trouble 170 = .ok (.iload 4, 2) := by decide +kernel
theorem dX6_trouble_172 : decode cX6_trouble 172 = .ok (.aload_n 0, 1) := by decide +kernel
theorem dX6_trouble_173 : decode cX6_trouble 173 = .ok (.getfield 19, 3) := by decide +kernel
theorem dX6_trouble_176 : decode cX6_trouble 176 = .ok (.iload_n 2, 1) := by decide +kernel
theorem dX6_trouble_177 : decode cX6_trouble 177 = .ok (.iaload, 1) := by decide +kernel
theorem dX6_trouble_178 : decode cX6_trouble 178 = .ok (.iadd, 1) := by decide +kernel
theorem dX6_trouble_179 : decode cX6_trouble 179 = .ok (.iload_n 3, 1) := by decide +kernel
theorem dX6_trouble_180 : decode cX6_trouble 180 = .ok (.isub, 1) := by decide +kernel
theorem dX6_trouble_181 : decode cX6_trouble 181 = .ok (.istore 7, 2) := by decide +kernel
theorem dX6_trouble_183 : decode cX6_trouble 183 = .ok (.iload 7, 2) := by decide +kernel
theorem dX6_trouble_185 : decode cX6_trouble 185 = .ok (.aload_n 0, 1) := by decide +kernel
theorem dX6_trouble_186 : decode cX6_trouble 186 = .ok (.getfield 16, 3) := by decide +kernel
theorem dX6_trouble_189 : decode cX6_trouble 189 = .ok (.iload_n 2, 1) := by decide +kernel
theorem dX6_trouble_190 : decode cX6_trouble 190 = .ok (.iaload, 1) := by decide +kernel
theorem dX6_trouble_191 : decode cX6_trouble 191 = .ok (.iadd, 1) := by decide +kernel
theorem dX6_trouble_192 : decode cX6_trouble 192 = .ok (.bipush 60, 2) := by decide +kernel
theorem dX6_trouble_194 : decode cX6_trouble 194 = .ok (.if_icmp .le 7, 3) := by decide +kernel
theorem dX6_trouble_197 : decode cX6_trouble 197 = .ok (.iconst 4, 1) := by decide +kernel
theorem dX6_trouble_198 : decode cX6_trouble 198 = .ok (.goto 4, 3) := by decide +kernel
theorem dX6_trouble_201 : decode cX6_trouble 201 = .ok (.iconst 0, 1) := by decide +kernel
theorem dX6_trouble_202 : decode cX6_trouble 202 = .ok (.ireturn, 1) := by decide +kernel
set_option maxRecDepth 20000 in
theorem ggX6_wrong_X6_trouble : GoodIn wsX6_wrong wsX6_trouble := goodIn_r _ [9, 4, 3, 2, 10, 11, 12, 13, 14, 15, 16, 17, 18, 19, 20, 21, 22, 23, 24, 25, 26, 27, 28, 29, 30] (by decide +kernel) (by decide +kernel)
set_option maxRecDepth 20000 in
theorem gX6_wrong_X6_trouble : GoodIn wsX6_wrong (wsV RX6 86 RX6 yX6_trouble wsX6_trouble) := goodIn_app (goodIn_of _ (by decide +kernel)) ggX6_wrong_X6_trouble
theorem dX6_wrong_0 : decode cX6_wrong 0 = .ok (.iconst 0, 1) := by decide +kernel
theorem dX6_wrong_1 : decode cX6_wrong 1 = .ok (.istore_n 2, 1) := by decide +kernel
theorem dX6_wrong_2 : decode cX6_wrong 2 = .ok (.iconst 0, 1) := by decide +kernel
theorem dX6_wrong_3 : decode cX6_wrong 3 = .ok (.istore_n 3, 1) := by decide +kernel
theorem dX6_wrong_4 : decode cX6_wrong 4 = .ok (.iconst 0, 1) := by decide +kernel
theorem dX6_wrong_5 : decode cX6_wrong 5 = .ok (.istore 4, 2) := by decide +kernel
theorem dX6_wrong_7 : decode cX6_wrong 7 = .ok (.iload 4, 2) := by decide +kernel
theorem dX6_wrong_9 : decode cX6_wrong 9 = .ok (.aload_n 0, 1) := by decide +kernel
theorem dX6_wrong_10 : decode cX6_wrong 10 = .ok (.getfield 65, 3) := by decide +kernel
theorem dX6_wrong_13 : decode cX6_wrong 13 = .ok (.if_icmp .ge 66, 3) := by decide +kernel
theorem dX6_wrong_16 : decode cX6_wrong 16 = .ok (.aload_n 0, 1) := by decide +kernel
theorem dX6_wrong_17 : decode cX6_wrong 17 = .ok (.iload_n 1, 1) := by decide +kernel
theorem dX6_wrong_18 : decode cX6_wrong 18 = .ok (.iload 4, 2) := by decide +kernel
theorem dX6_wrong_20 : decode cX6_wrong 20 = .ok (.iload_n 2, 1) := by decide +kernel
theorem dX6_wrong_21 : decode cX6_wrong 21 = .ok (.iload_n 3, 1) := by decide +kernel
theorem dX6_wrong_22 : decode cX6_wrong 22 = .ok (.invokevirtual 86, 3) := by decide +kernel
theorem dX6_wrong_25 : decode cX6_wrong 25 = .ok (.istore 5, 2) := by decide +kernel
theorem dX6_wrong_27 : decode cX6_wrong 27 = .ok (.iload 5, 2) := by decide +kernel
theorem dX6_wrong_29 : decode cX6_wrong 29 = .ok (.ifCond .le 6, 3) := by decide +kernel
theorem dX6_wrong_32 : decode cX6_wrong 32 = .ok (.iload 5, 2) := by decide +kernel
theorem dX6_wrong_34 : decode cX6_wrong 34 = .ok (.ireturn, 1) := by decide +kernel
theorem dX6_wrong_35 : decode cX6_wrong 35 = .ok (.iload_n 3, 1) := by decide +kernel
theorem dX6_wrong_36 : decode cX6_wrong 36 = .ok (.aload_n 0, 1) := by decide +kernel
theorem dX6_wrong_37 : decode cX6_wrong 37 = .ok (.getfield 19, 3) := by decide +kernel
theorem dX6_wrong_40 : decode cX6_wrong 40 = .ok (.iload 4, 2) := by decide +kernel
theorem dX6_wrong_42 : decode cX6_wrong 42 = .ok (.iaload, 1) := by decide +kernel
theorem dX6_wrong_43 : decode cX6_wrong 43 = .ok (.iload_n 2, 1) := by decide +kernel
theorem dX6_wrong_44 : decode cX6_wrong 44 = .ok (.isub, 1) := by decide +kernel
theorem dX6_wrong_45 : decode cX6_wrong 45 = .ok (.aload_n 0, 1) := by decide +kernel
theorem dX6_wrong_46 : decode cX6_wrong 46 = .ok (.getfield 16, 3) := by decide +kernel
theorem dX6_wrong_49 : decode cX6_wrong 49 = .ok (.iload 4, 2) := by decide +kernel
theorem dX6_wrong_51 : decode cX6_wrong 51 = .ok (.iaload, 1) := by decide +kernel
theorem dX6_wrong_52 : decode cX6_wrong 52 = .ok (.iadd, 1) := by decide +kernel
theorem dX6_wrong_53 : decode cX6_wrong 53 = .ok (.iadd, 1) := by decide +kernel
theorem dX6_wrong_54 : decode cX6_wrong 54 = .ok (.istore_n 3, 1) := by decide +kernel
theorem dX6_wrong_55 : decode cX6_wrong 55 = .ok (.aload_n 0, 1) := by decide +kernel
theorem dX6_wrong_56 : decode cX6_wrong 56 = .ok (.getfield 19, 3) := by decide +kernel
theorem dX6_wrong_59 : decode cX6_wrong 59 = .ok (.iload 4, 2) := by decide +kernel
theorem dX6_wrong_61 : decode cX6_wrong 61 = .ok (.iaload, 1) := by decide +kernel
theorem dX6_wrong_62 : decode cX6_wrong 62 = .ok (.iconst 1, 1) := by decide +kernel
theorem dX6_wrong_63 : decode cX6_wrong 63 = .ok (.iadd, 1) := by decide +kernel
theorem dX6_wrong_64 : decode cX6_wrong 64 = .ok (.aload_n 0, 1) := by decide +kernel
theorem dX6_wrong_65 : decode cX6_wrong 65 = .ok (.getfield 16, 3) := by decide +kernel
theorem dX6_wrong_68 : decode cX6_wrong 68 = .ok (.iload 4, 2) := by decide +kernel
theorem dX6_wrong_70 : decode cX6_wrong 70 = .ok (.iaload, 1) := by decide +kernel
theorem dX6_wrong_71 : decode cX6_wrong 71 = .ok (.isub, 1) := by decide +kernel
theorem dX6_wrong_72 : decode cX6_wrong 72 = .ok (.istore_n 2, 1) := by decide +kernel
theorem dX6_wrong_73 : decode cX6_wrong 73 = .ok (.iinc 4 1, 3) := by decide +kernel
theorem dX6_wrong_76 : decode cX6_wrong 76 = .ok (.goto (-69), 3) := by decide +kernel
theorem dX6_wrong_79 : decode cX6_wrong 79 = .ok (.iload_n 3, 1) := by decide +kernel
theorem dX6_wrong_80 : decode cX6_wrong 80 = .ok (.aload_n 0, 1) := by decide +kernel
theorem dX6_wrong_81 : decode cX6_wrong 81 = .ok (.getfield 7, 3) := by decide +kernel
theorem dX6_wrong_84 : decode cX6_wrong 84 = .ok (.iload_n 1, 1) := by decide +kernel
theorem dX6_wrong_85 : decode cX6_wrong 85 = .ok (.iaload, 1) := by decide +kernel
theorem dX6_wrong_86 : decode cX6_wrong 86 = .ok (.iadd, 1) := by decide +kernel
theorem dX6_wrong_87 : decode cX6_wrong 87 = .ok (.iload_n 2, 1) := by decide +kernel
theorem dX6_wrong_88 : decode cX6_wrong 88 = .ok (.isub, 1) := by decide +kernel
theorem dX6_wrong_89 : decode cX6_wrong 89 = .ok (.bipush 60, 2) := by decide +kernel
theorem dX6_wrong_91 : decode cX6_wrong 91 = .ok (.if_icmp .le 7, 3) := by decide +kernel
theorem dX6_wrong_94 : decode cX6_wrong 94 = .ok (.iconst 4, 1) := by decide +kernel
theorem dX6_wrong_95 : decode cX6_wrong 95 = .ok (.goto 4, 3) := by decide +kernel
theorem dX6_wrong_98 : decode cX6_wrong 98 = .ok (.iconst 0, 1) := by decide +kernel
theorem dX6_wrong_99 : decode cX6_wrong 99 = .ok (.ireturn, 1) := by decide +kernel
theorem dX6_take_0 : decode cX6_take 0 = .ok (.aload_n 0, 1) := by decide +kernel
theorem dX6_take_1 : decode cX6_take 1 = .ok (.getfield 31, 3) := by decide +kernel
theorem dX6_take_4 : decode cX6_take 4 = .ok (.aload_n 0, 1) := by decide +kernel
theorem dX6_take_5 : decode cX6_take 5 = .ok (.getfield 90, 3) := by decide +kernel
theorem dX6_take_8 : decode cX6_take 8 = .ok (.iload_n 1, 1) := by decide +kernel
theorem dX6_take_9 : decode cX6_take 9 = .ok (.iastore, 1) := by decide +kernel
theorem dX6_take_10 : decode cX6_take 10 = .ok (.aload_n 0, 1) := by decide +kernel
theorem dX6_take_11 : decode cX6_take 11 = .ok (.dup, 1) := by decide +kernel
theorem dX6_take_12 : decode cX6_take 12 = .ok (.getfield 90, 3) := by decide +kernel
theorem dX6_take_15 : decode cX6_take 15 = .ok (.iconst 1, 1) := by decide +kernel
theorem dX6_take_16 : decode cX6_take 16 = .ok (.iadd, 1) := by decide +kernel
theorem dX6_take_17 : decode cX6_take 17 = .ok (.putfield 90, 3) := by decide +kernel
theorem dX6_take_20 : decode cX6_take 20 = .ok (.return_, 1) := by decide +kernel
set_option maxRecDepth 20000 in
theorem ggX6_patch_X6_isRow : GoodIn wsX6_patch wsX6_isRow := goodIn_r _ [12] (by decide +kernel) (by decide +kernel)
set_option maxRecDepth 20000 in
theorem gX6_patch_X6_isRow : GoodIn wsX6_patch (va_wsS RX6 53 yX6_isRow wsX6_isRow) := goodIn_app (goodIn_of _ (by decide +kernel)) ggX6_patch_X6_isRow
set_option maxRecDepth 20000 in
theorem ggX6_patch_X6_wrong : GoodIn wsX6_patch wsX6_wrong := goodIn_r _ [16, 4, 5, 6, 3, 17, 18, 19, 11, 20, 7, 8, 26, 27, 28, 29, 30, 31, 32, 33, 34, 35, 36, 37, 38, 39, 40, 41, 42, 43, 44] (by decide +kernel) (by decide +kernel)
set_option maxRecDepth 20000 in
theorem gX6_patch_X6_wrong : GoodIn wsX6_patch (wsV RX6 93 RX6 yX6_wrong wsX6_wrong) := goodIn_app (goodIn_of _ (by decide +kernel)) ggX6_patch_X6_wrong
set_option maxRecDepth 20000 in
theorem ggX6_patch_X6_take : GoodIn wsX6_patch wsX6_take := goodIn_r _ [24, 25, 2, 26, 27, 28, 29, 30, 31, 32, 33, 34, 35, 36, 37, 38, 39, 40, 41, 42, 43, 44] (by decide +kernel) (by decide +kernel)
set_option maxRecDepth 20000 in
theorem gX6_patch_X6_take : GoodIn wsX6_patch (wsV RX6 97 RX6 yX6_take wsX6_take) := goodIn_app (goodIn_of _ (by decide +kernel)) ggX6_patch_X6_take
theorem dX6_patch_0 : decode cX6_patch 0 = .ok (.aload_n 0, 1) := by decide +kernel
theorem dX6_patch_1 : decode cX6_patch 1 = .ok (.iload_n 1, 1) := by decide +kernel
theorem dX6_patch_2 : decode cX6_patch 2 = .ok (.invokestatic 53, 3) := by decide +kernel
theorem dX6_patch_5 : decode cX6_patch 5 = .ok (.ifCond .ne 7, 3) := by decide +kernel
theorem dX6_patch_8 : decode cX6_patch 8 = .ok (.iconst 1, 1) := by decide +kernel
theorem dX6_patch_9 : decode cX6_patch 9 = .ok (.goto 8, 3) := by decide +kernel
theorem dX6_patch_12 : decode cX6_patch 12 = .ok (.aload_n 0, 1) := by decide +kernel
theorem dX6_patch_13 : decode cX6_patch 13 = .ok (.iload_n 1, 1) := by decide +kernel
theorem dX6_patch_14 : decode cX6_patch 14 = .ok (.invokevirtual 93, 3) := by decide +kernel
theorem dX6_patch_17 : decode cX6_patch 17 = .ok (.putfield 50, 3) := by decide +kernel
theorem dX6_patch_20 : decode cX6_patch 20 = .ok (.aload_n 0, 1) := by decide +kernel
theorem dX6_patch_21 : decode cX6_patch 21 = .ok (.getfield 50, 3) := by decide +kernel
theorem dX6_patch_24 : decode cX6_patch 24 = .ok (.ifCond .le 5, 3) := by decide +kernel
theorem dX6_patch_27 : decode cX6_patch 27 = .ok (.iconst 0, 1) := by decide +kernel
theorem dX6_patch_28 : decode cX6_patch 28 = .ok (.ireturn, 1) := by decide +kernel
theorem dX6_patch_29 : decode cX6_patch 29 = .ok (.aload_n 0, 1) := by decide +kernel
theorem dX6_patch_30 : decode cX6_patch 30 = .ok (.iconst 0, 1) := by decide +kernel
theorem dX6_patch_31 : decode cX6_patch 31 = .ok (.putfield 90, 3) := by decide +kernel
theorem dX6_patch_34 : decode cX6_patch 34 = .ok (.iconst 0, 1) := by decide +kernel
theorem dX6_patch_35 : decode cX6_patch 35 = .ok (.istore_n 2, 1) := by decide +kernel
theorem dX6_patch_36 : decode cX6_patch 36 = .ok (.iconst 0, 1) := by decide +kernel
theorem dX6_patch_37 : decode cX6_patch 37 = .ok (.istore_n 3, 1) := by decide +kernel
theorem dX6_patch_38 : decode cX6_patch 38 = .ok (.iload_n 3, 1) := by decide +kernel
theorem dX6_patch_39 : decode cX6_patch 39 = .ok (.aload_n 0, 1) := by decide +kernel
theorem dX6_patch_40 : decode cX6_patch 40 = .ok (.getfield 7, 3) := by decide +kernel
theorem dX6_patch_43 : decode cX6_patch 43 = .ok (.iload_n 1, 1) := by decide +kernel
theorem dX6_patch_44 : decode cX6_patch 44 = .ok (.iaload, 1) := by decide +kernel
theorem dX6_patch_45 : decode cX6_patch 45 = .ok (.if_icmp .gt 92, 3) := by decide +kernel
theorem dX6_patch_48 : decode cX6_patch 48 = .ok (.iconst 0, 1) := by decide +kernel
theorem dX6_patch_49 : decode cX6_patch 49 = .ok (.istore 4, 2) := by decide +kernel
theorem dX6_patch_51 : decode cX6_patch 51 = .ok (.iload_n 2, 1) := by decide +kernel
theorem dX6_patch_52 : decode cX6_patch 52 = .ok (.aload_n 0, 1) := by decide +kernel
theorem dX6_patch_53 : decode cX6_patch 53 = .ok (.getfield 65, 3) := by decide +kernel
theorem dX6_patch_56 : decode cX6_patch 56 = .ok (.if_icmp .ge 45, 3) := by decide +kernel
theorem dX6_patch_59 : decode cX6_patch 59 = .ok (.aload_n 0, 1) := by decide +kernel
theorem dX6_patch_60 : decode cX6_patch 60 = .ok (.getfield 19, 3) := by decide +kernel
theorem dX6_patch_63 : decode cX6_patch 63 = .ok (.iload_n 2, 1) := by decide +kernel
theorem dX6_patch_64 : decode cX6_patch 64 = .ok (.iaload, 1) := by decide +kernel
theorem dX6_patch_65 : decode cX6_patch 65 = .ok (.iload_n 3, 1) := by decide +kernel
theorem dX6_patch_66 : decode cX6_patch 66 = .ok (.if_icmp .ne 35, 3) := by decide +kernel
theorem dX6_patch_69 : decode cX6_patch 69 = .ok (.aload_n 0, 1) := by decide +kernel
theorem dX6_patch_70 : decode cX6_patch 70 = .ok (.getfield 16, 3) := by decide +kernel
theorem dX6_patch_73 : decode cX6_patch 73 = .ok (.iload_n 2, 1) := by decide +kernel
theorem dX6_patch_74 : decode cX6_patch 74 = .ok (.iaload, 1) := by decide +kernel
theorem dX6_patch_75 : decode cX6_patch 75 = .ok (.iconst 1, 1) := by decide +kernel
theorem dX6_patch_76 : decode cX6_patch 76 = .ok (.if_icmp .ne 16, 3) := by decide +kernel
theorem dX6_patch_79 : decode cX6_patch 79 = .ok (.aload_n 0, 1) := by decide +kernel
theorem dX6_patch_80 : decode cX6_patch 80 = .ok (.aload_n 0, 1) := by decide +kernel
theorem dX6_patch_81 : decode cX6_patch 81 = .ok (.getfield 22, 3) := by decide +kernel
theorem dX6_patch_84 : decode cX6_patch 84 = .ok (.iload_n 2, 1) := by decide +kernel
theorem dX6_patch_85 : decode cX6_patch 85 = .ok (.iaload, 1) := by decide +kernel
theorem dX6_patch_86 : decode cX6_patch 86 = .ok (.invokevirtual 97, 3) := by decide +kernel
theorem dX6_patch_89 : decode cX6_patch 89 = .ok (.goto 6, 3) := by decide +kernel
theorem dX6_patch_92 : decode cX6_patch 92 = .ok (.iconst 1, 1) := by decide +kernel
theorem dX6_patch_93 : decode cX6_patch 93 = .ok (.istore 4, 2) := by decide +kernel
theorem dX6_patch_95 : decode cX6_patch 95 = .ok (.iinc 2 1, 3) := by decide +kernel
theorem dX6_patch_98 : decode cX6_patch 98 = .ok (.goto (-47), 3) := by decide +kernel
theorem dX6_patch_101 : decode cX6_patch 101 = .ok (.iload_n 3, 1) := by decide +kernel
theorem dX6_patch_102 : decode cX6_patch 102 = .ok (.aload_n 0, 1) := by decide +kernel
theorem dX6_patch_103 : decode cX6_patch 103 = .ok (.getfield 7, 3) := by decide +kernel
theorem dX6_patch_106 : decode cX6_patch 106 = .ok (.iload_n 1, 1) := by decide +kernel
theorem dX6_patch_107 : decode cX6_patch 107 = .ok (.iaload, 1) := by decide +kernel
theorem dX6_patch_108 : decode cX6_patch 108 = .ok (.if_icmp .ge 23, 3) := by decide +kernel
theorem dX6_patch_111 : decode cX6_patch 111 = .ok (.iload 4, 2) := by decide +kernel
theorem dX6_patch_113 : decode cX6_patch 113 = .ok (.ifCond .ne 18, 3) := by decide +kernel
theorem dX6_patch_116 : decode cX6_patch 116 = .ok (.aload_n 0, 1) := by decide +kernel
theorem dX6_patch_117 : decode cX6_patch 117 = .ok (.aload_n 0, 1) := by decide +kernel
theorem dX6_patch_118 : decode cX6_patch 118 = .ok (.getfield 13, 3) := by decide +kernel
theorem dX6_patch_121 : decode cX6_patch 121 = .ok (.bipush 20, 2) := by decide +kernel
theorem dX6_patch_123 : decode cX6_patch 123 = .ok (.iload_n 1, 1) := by decide +kernel
theorem dX6_patch_124 : decode cX6_patch 124 = .ok (.imul, 1) := by decide +kernel
theorem dX6_patch_125 : decode cX6_patch 125 = .ok (.iload_n 3, 1) := by decide +kernel
theorem dX6_patch_126 : decode cX6_patch 126 = .ok (.iadd, 1) := by decide +kernel
theorem dX6_patch_127 : decode cX6_patch 127 = .ok (.iaload, 1) := by decide +kernel
theorem dX6_patch_128 : decode cX6_patch 128 = .ok (.invokevirtual 97, 3) := by decide +kernel
theorem dX6_patch_131 : decode cX6_patch 131 = .ok (.iinc 3 1, 3) := by decide +kernel
theorem dX6_patch_134 : decode cX6_patch 134 = .ok (.goto (-96), 3) := by decide +kernel
theorem dX6_patch_137 : decode cX6_patch 137 = .ok (.aload_n 0, 1) := by decide +kernel
theorem dX6_patch_138 : decode cX6_patch 138 = .ok (.getfield 90, 3) := by decide +kernel
theorem dX6_patch_141 : decode cX6_patch 141 = .ok (.ireturn, 1) := by decide +kernel
set_option maxRecDepth 20000 in
theorem ggX6_keep_X6_fill : GoodIn wsX6_keep wsX6_fill := goodIn_r _ [6, 1, 7, 8, 9, 10, 5, 11, 12, 17, 18, 19, 20, 21, 22, 23, 24, 25, 26, 27, 28, 29, 30, 31, 32, 33, 34, 35] (by decide +kernel) (by decide +kernel)
set_option maxRecDepth 20000 in
theorem gX6_keep_X6_fill : GoodIn wsX6_keep (wsV RX6 61 RX6 yX6_fill wsX6_fill) := goodIn_app (goodIn_of _ (by decide +kernel)) ggX6_keep_X6_fill
set_option maxRecDepth 20000 in
theorem ggX6_keep_X6_same : GoodIn wsX6_keep wsX6_same := goodIn_r _ [11, 12, 17, 18, 19, 20, 21, 22, 23, 24, 25, 26, 27, 28, 29, 30, 31, 32, 33, 34, 35] (by decide +kernel) (by decide +kernel)
set_option maxRecDepth 20000 in
theorem gX6_keep_X6_same : GoodIn wsX6_keep (wsV RX6 57 RX6 yX6_same wsX6_same) := goodIn_app (goodIn_of _ (by decide +kernel)) ggX6_keep_X6_same
set_option maxRecDepth 20000 in
theorem ggX6_keep_X6_deletes : GoodIn wsX6_keep wsX6_deletes := goodIn_r _ [16, 1, 7, 17, 18, 19, 20, 21, 22, 23, 24, 25, 26, 27, 28, 29, 30, 31, 32, 33, 34, 35] (by decide +kernel) (by decide +kernel)
set_option maxRecDepth 20000 in
theorem gX6_keep_X6_deletes : GoodIn wsX6_keep (wsV RX6 68 RX6 yX6_deletes wsX6_deletes) := goodIn_app (goodIn_of _ (by decide +kernel)) ggX6_keep_X6_deletes
theorem dX6_keep_0 : decode cX6_keep 0 = .ok (.aload_n 0, 1) := by decide +kernel
theorem dX6_keep_1 : decode cX6_keep 1 = .ok (.iconst 0, 1) := by decide +kernel
theorem dX6_keep_2 : decode cX6_keep 2 = .ok (.iload_n 1, 1) := by decide +kernel
theorem dX6_keep_3 : decode cX6_keep 3 = .ok (.invokevirtual 61, 3) := by decide +kernel
theorem dX6_keep_6 : decode cX6_keep 6 = .ok (.iconst 0, 1) := by decide +kernel
theorem dX6_keep_7 : decode cX6_keep 7 = .ok (.istore_n 3, 1) := by decide +kernel
theorem dX6_keep_8 : decode cX6_keep 8 = .ok (.iconst 0, 1) := by decide +kernel
theorem dX6_keep_9 : decode cX6_keep 9 = .ok (.istore 4, 2) := by decide +kernel
theorem dX6_keep_11 : decode cX6_keep 11 = .ok (.iload_n 3, 1) := by decide +kernel
theorem dX6_keep_12 : decode cX6_keep 12 = .ok (.aload_n 0, 1) := by decide +kernel
theorem dX6_keep_13 : decode cX6_keep 13 = .ok (.getfield 7, 3) := by decide +kernel
theorem dX6_keep_16 : decode cX6_keep 16 = .ok (.iconst 0, 1) := by decide +kernel
theorem dX6_keep_17 : decode cX6_keep 17 = .ok (.iaload, 1) := by decide +kernel
theorem dX6_keep_18 : decode cX6_keep 18 = .ok (.if_icmp .lt 14, 3) := by decide +kernel
theorem dX6_keep_21 : decode cX6_keep 21 = .ok (.iload 4, 2) := by decide +kernel
theorem dX6_keep_23 : decode cX6_keep 23 = .ok (.aload_n 0, 1) := by decide +kernel
theorem dX6_keep_24 : decode cX6_keep 24 = .ok (.getfield 7, 3) := by decide +kernel
theorem dX6_keep_27 : decode cX6_keep 27 = .ok (.iload_n 1, 1) := by decide +kernel
theorem dX6_keep_28 : decode cX6_keep 28 = .ok (.iaload, 1) := by decide +kernel
theorem dX6_keep_29 : decode cX6_keep 29 = .ok (.if_icmp .ge 79, 3) := by decide +kernel
theorem dX6_keep_32 : decode cX6_keep 32 = .ok (.iload_n 3, 1) := by decide +kernel
theorem dX6_keep_33 : decode cX6_keep 33 = .ok (.aload_n 0, 1) := by decide +kernel
theorem dX6_keep_34 : decode cX6_keep 34 = .ok (.getfield 7, 3) := by decide +kernel
theorem dX6_keep_37 : decode cX6_keep 37 = .ok (.iconst 0, 1) := by decide +kernel
theorem dX6_keep_38 : decode cX6_keep 38 = .ok (.iaload, 1) := by decide +kernel
theorem dX6_keep_39 : decode cX6_keep 39 = .ok (.if_icmp .ge 42, 3) := by decide +kernel
theorem dX6_keep_42 : decode cX6_keep 42 = .ok (.iload 4, 2) := by decide +kernel
theorem dX6_keep_44 : decode cX6_keep 44 = .ok (.aload_n 0, 1) := by decide +kernel
theorem dX6_keep_45 : decode cX6_keep 45 = .ok (.getfield 7, 3) := by decide +kernel
theorem dX6_keep_48 : decode cX6_keep 48 = .ok (.iload_n 1, 1) := by decide +kernel
theorem dX6_keep_49 : decode cX6_keep 49 = .ok (.iaload, 1) := by decide +kernel
theorem dX6_keep_50 : decode cX6_keep 50 = .ok (.if_icmp .ge 31, 3) := by decide +kernel
theorem dX6_keep_53 : decode cX6_keep 53 = .ok (.aload_n 0, 1) := by decide +kernel
theorem dX6_keep_54 : decode cX6_keep 54 = .ok (.iconst 0, 1) := by decide +kernel
theorem dX6_keep_55 : decode cX6_keep 55 = .ok (.iload_n 3, 1) := by decide +kernel
theorem dX6_keep_56 : decode cX6_keep 56 = .ok (.iload_n 1, 1) := by decide +kernel
theorem dX6_keep_57 : decode cX6_keep 57 = .ok (.iload 4, 2) := by decide +kernel
theorem dX6_keep_59 : decode cX6_keep 59 = .ok (.invokevirtual 57, 3) := by decide +kernel
theorem dX6_keep_62 : decode cX6_keep 62 = .ok (.ifCond .eq 19, 3) := by decide +kernel
theorem dX6_keep_65 : decode cX6_keep 65 = .ok (.aload_n 2, 1) := by decide +kernel
theorem dX6_keep_66 : decode cX6_keep 66 = .ok (.iload_n 3, 1) := by decide +kernel
theorem dX6_keep_67 : decode cX6_keep 67 = .ok (.iload 4, 2) := by decide +kernel
theorem dX6_keep_69 : decode cX6_keep 69 = .ok (.iconst 1, 1) := by decide +kernel
theorem dX6_keep_70 : decode cX6_keep 70 = .ok (.iadd, 1) := by decide +kernel
theorem dX6_keep_71 : decode cX6_keep 71 = .ok (.iastore, 1) := by decide +kernel
theorem dX6_keep_72 : decode cX6_keep 72 = .ok (.iinc 3 1, 3) := by decide +kernel
theorem dX6_keep_75 : decode cX6_keep 75 = .ok (.iinc 4 1, 3) := by decide +kernel
theorem dX6_keep_78 : decode cX6_keep 78 = .ok (.goto (-67), 3) := by decide +kernel
theorem dX6_keep_81 : decode cX6_keep 81 = .ok (.aload_n 0, 1) := by decide +kernel
theorem dX6_keep_82 : decode cX6_keep 82 = .ok (.iconst 0, 1) := by decide +kernel
theorem dX6_keep_83 : decode cX6_keep 83 = .ok (.iload_n 3, 1) := by decide +kernel
theorem dX6_keep_84 : decode cX6_keep 84 = .ok (.iload 4, 2) := by decide +kernel
theorem dX6_keep_86 : decode cX6_keep 86 = .ok (.invokevirtual 68, 3) := by decide +kernel
theorem dX6_keep_89 : decode cX6_keep 89 = .ok (.ifCond .eq 13, 3) := by decide +kernel
theorem dX6_keep_92 : decode cX6_keep 92 = .ok (.aload_n 2, 1) := by decide +kernel
theorem dX6_keep_93 : decode cX6_keep 93 = .ok (.iload_n 3, 1) := by decide +kernel
theorem dX6_keep_94 : decode cX6_keep 94 = .ok (.iconst 0, 1) := by decide +kernel
theorem dX6_keep_95 : decode cX6_keep 95 = .ok (.iastore, 1) := by decide +kernel
theorem dX6_keep_96 : decode cX6_keep 96 = .ok (.iinc 3 1, 3) := by decide +kernel
theorem dX6_keep_99 : decode cX6_keep 99 = .ok (.goto (-88), 3) := by decide +kernel
theorem dX6_keep_102 : decode cX6_keep 102 = .ok (.iinc 4 1, 3) := by decide +kernel
theorem dX6_keep_105 : decode cX6_keep 105 = .ok (.goto (-94), 3) := by decide +kernel
theorem dX6_keep_108 : decode cX6_keep 108 = .ok (.return_, 1) := by decide +kernel
set_option maxRecDepth 20000 in
theorem ggX6_alikeParts_X6_same : GoodIn wsX6_alikeParts wsX6_same := goodIn_r _ [5, 6, 7, 8, 9, 10, 11, 12, 13, 14, 15, 16, 17, 18, 19, 20, 21, 22, 23, 24, 25] (by decide +kernel) (by decide +kernel)
set_option maxRecDepth 20000 in
theorem gX6_alikeParts_X6_same : GoodIn wsX6_alikeParts (wsV RX6 57 RX6 yX6_same wsX6_same) := goodIn_app (goodIn_of _ (by decide +kernel)) ggX6_alikeParts_X6_same
theorem dX6_alikeParts_0 : decode cX6_alikeParts 0 = .ok (.iload_n 3, 1) := by decide +kernel
theorem dX6_alikeParts_1 : decode cX6_alikeParts 1 = .ok (.iload 6, 2) := by decide +kernel
theorem dX6_alikeParts_3 : decode cX6_alikeParts 3 = .ok (.if_icmp .ne 7, 3) := by decide +kernel
theorem dX6_alikeParts_6 : decode cX6_alikeParts 6 = .ok (.iconst 1, 1) := by decide +kernel
theorem dX6_alikeParts_7 : decode cX6_alikeParts 7 = .ok (.goto 4, 3) := by decide +kernel
theorem dX6_alikeParts_10 : decode cX6_alikeParts 10 = .ok (.iconst 0, 1) := by decide +kernel
theorem dX6_alikeParts_11 : decode cX6_alikeParts 11 = .ok (.istore 7, 2) := by decide +kernel
theorem dX6_alikeParts_13 : decode cX6_alikeParts 13 = .ok (.iconst 0, 1) := by decide +kernel
theorem dX6_alikeParts_14 : decode cX6_alikeParts 14 = .ok (.istore 8, 2) := by decide +kernel
theorem dX6_alikeParts_16 : decode cX6_alikeParts 16 = .ok (.iload 8, 2) := by decide +kernel
theorem dX6_alikeParts_18 : decode cX6_alikeParts 18 = .ok (.iload_n 3, 1) := by decide +kernel
theorem dX6_alikeParts_19 : decode cX6_alikeParts 19 = .ok (.if_icmp .ge 32, 3) := by decide +kernel
theorem dX6_alikeParts_22 : decode cX6_alikeParts 22 = .ok (.iload 7, 2) := by decide +kernel
theorem dX6_alikeParts_24 : decode cX6_alikeParts 24 = .ok (.ifCond .eq 27, 3) := by decide +kernel
theorem dX6_alikeParts_27 : decode cX6_alikeParts 27 = .ok (.aload_n 0, 1) := by decide +kernel
theorem dX6_alikeParts_28 : decode cX6_alikeParts 28 = .ok (.iload_n 1, 1) := by decide +kernel
theorem dX6_alikeParts_29 : decode cX6_alikeParts 29 = .ok (.iload_n 2, 1) := by decide +kernel
theorem dX6_alikeParts_30 : decode cX6_alikeParts 30 = .ok (.iload 8, 2) := by decide +kernel
theorem dX6_alikeParts_32 : decode cX6_alikeParts 32 = .ok (.iadd, 1) := by decide +kernel
theorem dX6_alikeParts_33 : decode cX6_alikeParts 33 = .ok (.iload 4, 2) := by decide +kernel
theorem dX6_alikeParts_35 : decode cX6_alikeParts 35 = .ok (.iload 5, 2) := by decide +kernel
theorem dX6_alikeParts_37 : decode cX6_alikeParts 37 = .ok (.iload 8, 2) := by decide +kernel
theorem dX6_alikeParts_39 : decode cX6_alikeParts 39 = .ok (.iadd, 1) := by decide +kernel
theorem dX6_alikeParts_40 : decode cX6_alikeParts 40 = .ok (.invokevirtual 57, 3) := by decide +kernel
theorem dX6_alikeParts_43 : decode cX6_alikeParts 43 = .ok (.istore 7, 2) := by decide +kernel
theorem dX6_alikeParts_45 : decode cX6_alikeParts 45 = .ok (.iinc 8 1, 3) := by decide +kernel
theorem dX6_alikeParts_48 : decode cX6_alikeParts 48 = .ok (.goto (-32), 3) := by decide +kernel
theorem dX6_alikeParts_51 : decode cX6_alikeParts 51 = .ok (.iload 7, 2) := by decide +kernel
theorem dX6_alikeParts_53 : decode cX6_alikeParts 53 = .ok (.ireturn, 1) := by decide +kernel
set_option maxRecDepth 20000 in
theorem ggX6_copy_X6_take : GoodIn wsX6_copy wsX6_take := goodIn_r _ [6, 7, 8, 9, 10, 11, 12, 13, 14, 15, 16, 17, 18, 19, 20, 21, 22, 23, 24, 25, 26, 27] (by decide +kernel) (by decide +kernel)
set_option maxRecDepth 20000 in
theorem gX6_copy_X6_take : GoodIn wsX6_copy (wsV RX6 97 RX6 yX6_take wsX6_take) := goodIn_app (goodIn_of _ (by decide +kernel)) ggX6_copy_X6_take
theorem dX6_copy_0 : decode cX6_copy 0 = .ok (.iload_n 2, 1) := by decide +kernel
theorem dX6_copy_1 : decode cX6_copy 1 = .ok (.istore 4, 2) := by decide +kernel
theorem dX6_copy_3 : decode cX6_copy 3 = .ok (.iload 4, 2) := by decide +kernel
theorem dX6_copy_5 : decode cX6_copy 5 = .ok (.iload_n 3, 1) := by decide +kernel
theorem dX6_copy_6 : decode cX6_copy 6 = .ok (.if_icmp .ge 25, 3) := by decide +kernel
theorem dX6_copy_9 : decode cX6_copy 9 = .ok (.aload_n 0, 1) := by decide +kernel
theorem dX6_copy_10 : decode cX6_copy 10 = .ok (.aload_n 0, 1) := by decide +kernel
theorem dX6_copy_11 : decode cX6_copy 11 = .ok (.getfield 13, 3) := by decide +kernel
theorem dX6_copy_14 : decode cX6_copy 14 = .ok (.bipush 20, 2) := by decide +kernel
theorem dX6_copy_16 : decode cX6_copy 16 = .ok (.iload_n 1, 1) := by decide +kernel
theorem dX6_copy_17 : decode cX6_copy 17 = .ok (.imul, 1) := by decide +kernel
theorem dX6_copy_18 : decode cX6_copy 18 = .ok (.iload 4, 2) := by decide +kernel
theorem dX6_copy_20 : decode cX6_copy 20 = .ok (.iadd, 1) := by decide +kernel
theorem dX6_copy_21 : decode cX6_copy 21 = .ok (.iaload, 1) := by decide +kernel
theorem dX6_copy_22 : decode cX6_copy 22 = .ok (.invokevirtual 97, 3) := by decide +kernel
theorem dX6_copy_25 : decode cX6_copy 25 = .ok (.iinc 4 1, 3) := by decide +kernel
theorem dX6_copy_28 : decode cX6_copy 28 = .ok (.goto (-25), 3) := by decide +kernel
theorem dX6_copy_31 : decode cX6_copy 31 = .ok (.return_, 1) := by decide +kernel
set_option maxRecDepth 20000 in
theorem ggX6_between_X6_alikeParts : GoodIn wsX6_between wsX6_alikeParts := goodIn_r _ [5, 6, 7, 8, 4, 9, 10, 21, 22, 23, 24, 25, 26, 27, 28, 29, 30, 31, 32, 33, 34, 35, 36, 37, 38, 39] (by decide +kernel) (by decide +kernel)
set_option maxRecDepth 20000 in
theorem gX6_between_X6_alikeParts : GoodIn wsX6_between (wsV RX6 101 RX6 yX6_alikeParts wsX6_alikeParts) := goodIn_app (goodIn_of _ (by decide +kernel)) ggX6_between_X6_alikeParts
set_option maxRecDepth 20000 in
theorem ggX6_between_X6_copy : GoodIn wsX6_between wsX6_copy := goodIn_r _ [14, 10, 15, 16, 17, 4, 18, 19, 20, 21, 22, 23, 24, 25, 26, 27, 28, 29, 30, 31, 32, 33, 34, 35, 36, 37, 38, 39] (by decide +kernel) (by decide +kernel)
set_option maxRecDepth 20000 in
theorem gX6_between_X6_copy : GoodIn wsX6_between (wsV RX6 105 RX6 yX6_copy wsX6_copy) := goodIn_app (goodIn_of _ (by decide +kernel)) ggX6_between_X6_copy
set_option maxRecDepth 20000 in
theorem ggX6_between_X6_take : GoodIn wsX6_between wsX6_take := goodIn_r _ [18, 19, 20, 21, 22, 23, 24, 25, 26, 27, 28, 29, 30, 31, 32, 33, 34, 35, 36, 37, 38, 39] (by decide +kernel) (by decide +kernel)
set_option maxRecDepth 20000 in
theorem gX6_between_X6_take : GoodIn wsX6_between (wsV RX6 97 RX6 yX6_take wsX6_take) := goodIn_app (goodIn_of _ (by decide +kernel)) ggX6_between_X6_take
theorem dX6_between_0 : decode cX6_between 0 = .ok (.aload_n 0, 1) := by decide +kernel
theorem dX6_between_1 : decode cX6_between 1 = .ok (.iconst 1, 1) := by decide +kernel
theorem dX6_between_2 : decode cX6_between 2 = .ok (.iload_n 3, 1) := by decide +kernel
theorem dX6_between_3 : decode cX6_between 3 = .ok (.iload 4, 2) := by decide +kernel
theorem dX6_between_5 : decode cX6_between 5 = .ok (.iload_n 3, 1) := by decide +kernel
theorem dX6_between_6 : decode cX6_between 6 = .ok (.isub, 1) := by decide +kernel
theorem dX6_between_7 : decode cX6_between 7 = .ok (.iconst 2, 1) := by decide +kernel
theorem dX6_between_8 : decode cX6_between 8 = .ok (.iload 5, 2) := by decide +kernel
theorem dX6_between_10 : decode cX6_between 10 = .ok (.iload 6, 2) := by decide +kernel
theorem dX6_between_12 : decode cX6_between 12 = .ok (.iload 5, 2) := by decide +kernel
theorem dX6_between_14 : decode cX6_between 14 = .ok (.isub, 1) := by decide +kernel
theorem dX6_between_15 : decode cX6_between 15 = .ok (.invokevirtual 101, 3) := by decide +kernel
theorem dX6_between_18 : decode cX6_between 18 = .ok (.istore 7, 2) := by decide +kernel
theorem dX6_between_20 : decode cX6_between 20 = .ok (.iload 7, 2) := by decide +kernel
theorem dX6_between_22 : decode cX6_between 22 = .ok (.ifCond .ne 23, 3) := by decide +kernel
theorem dX6_between_25 : decode cX6_between 25 = .ok (.aload_n 0, 1) := by decide +kernel
theorem dX6_between_26 : decode cX6_between 26 = .ok (.iconst 0, 1) := by decide +kernel
theorem dX6_between_27 : decode cX6_between 27 = .ok (.iload_n 1, 1) := by decide +kernel
theorem dX6_between_28 : decode cX6_between 28 = .ok (.iload_n 2, 1) := by decide +kernel
theorem dX6_between_29 : decode cX6_between 29 = .ok (.iload_n 1, 1) := by decide +kernel
theorem dX6_between_30 : decode cX6_between 30 = .ok (.isub, 1) := by decide +kernel
theorem dX6_between_31 : decode cX6_between 31 = .ok (.iconst 2, 1) := by decide +kernel
theorem dX6_between_32 : decode cX6_between 32 = .ok (.iload 5, 2) := by decide +kernel
theorem dX6_between_34 : decode cX6_between 34 = .ok (.iload 6, 2) := by decide +kernel
theorem dX6_between_36 : decode cX6_between 36 = .ok (.iload 5, 2) := by decide +kernel
theorem dX6_between_38 : decode cX6_between 38 = .ok (.isub, 1) := by decide +kernel
theorem dX6_between_39 : decode cX6_between 39 = .ok (.invokevirtual 101, 3) := by decide +kernel
theorem dX6_between_42 : decode cX6_between 42 = .ok (.ifCond .eq 13, 3) := by decide +kernel
theorem dX6_between_45 : decode cX6_between 45 = .ok (.aload_n 0, 1) := by decide +kernel
theorem dX6_between_46 : decode cX6_between 46 = .ok (.iconst 1, 1) := by decide +kernel
theorem dX6_between_47 : decode cX6_between 47 = .ok (.iload_n 3, 1) := by decide +kernel
theorem dX6_between_48 : decode cX6_between 48 = .ok (.iload 4, 2) := by decide +kernel
theorem dX6_between_50 : decode cX6_between 50 = .ok (.invokevirtual 105, 3) := by decide +kernel
theorem dX6_between_53 : decode cX6_between 53 = .ok (.iconst 0, 1) := by decide +kernel
theorem dX6_between_54 : decode cX6_between 54 = .ok (.ireturn, 1) := by decide +kernel
theorem dX6_between_55 : decode cX6_between 55 = .ok (.aload_n 0, 1) := by decide +kernel
theorem dX6_between_56 : decode cX6_between 56 = .ok (.iconst 0, 1) := by decide +kernel
theorem dX6_between_57 : decode cX6_between 57 = .ok (.iload_n 1, 1) := by decide +kernel
theorem dX6_between_58 : decode cX6_between 58 = .ok (.iload_n 2, 1) := by decide +kernel
theorem dX6_between_59 : decode cX6_between 59 = .ok (.iload_n 1, 1) := by decide +kernel
theorem dX6_between_60 : decode cX6_between 60 = .ok (.isub, 1) := by decide +kernel
theorem dX6_between_61 : decode cX6_between 61 = .ok (.iconst 1, 1) := by decide +kernel
theorem dX6_between_62 : decode cX6_between 62 = .ok (.iload_n 3, 1) := by decide +kernel
theorem dX6_between_63 : decode cX6_between 63 = .ok (.iload 4, 2) := by decide +kernel
theorem dX6_between_65 : decode cX6_between 65 = .ok (.iload_n 3, 1) := by decide +kernel
theorem dX6_between_66 : decode cX6_between 66 = .ok (.isub, 1) := by decide +kernel
theorem dX6_between_67 : decode cX6_between 67 = .ok (.invokevirtual 101, 3) := by decide +kernel
theorem dX6_between_70 : decode cX6_between 70 = .ok (.ifCond .eq 14, 3) := by decide +kernel
theorem dX6_between_73 : decode cX6_between 73 = .ok (.aload_n 0, 1) := by decide +kernel
theorem dX6_between_74 : decode cX6_between 74 = .ok (.iconst 2, 1) := by decide +kernel
theorem dX6_between_75 : decode cX6_between 75 = .ok (.iload 5, 2) := by decide +kernel
theorem dX6_between_77 : decode cX6_between 77 = .ok (.iload 6, 2) := by decide +kernel
theorem dX6_between_79 : decode cX6_between 79 = .ok (.invokevirtual 105, 3) := by decide +kernel
theorem dX6_between_82 : decode cX6_between 82 = .ok (.iconst 0, 1) := by decide +kernel
theorem dX6_between_83 : decode cX6_between 83 = .ok (.ireturn, 1) := by decide +kernel
theorem dX6_between_84 : decode cX6_between 84 = .ok (.aload_n 0, 1) := by decide +kernel
theorem dX6_between_85 : decode cX6_between 85 = .ok (.iconst (-1), 1) := by decide +kernel
theorem dX6_between_86 : decode cX6_between 86 = .ok (.invokevirtual 97, 3) := by decide +kernel
theorem dX6_between_89 : decode cX6_between 89 = .ok (.aload_n 0, 1) := by decide +kernel
theorem dX6_between_90 : decode cX6_between 90 = .ok (.iconst 1, 1) := by decide +kernel
theorem dX6_between_91 : decode cX6_between 91 = .ok (.iload_n 3, 1) := by decide +kernel
theorem dX6_between_92 : decode cX6_between 92 = .ok (.iload 4, 2) := by decide +kernel
theorem dX6_between_94 : decode cX6_between 94 = .ok (.invokevirtual 105, 3) := by decide +kernel
theorem dX6_between_97 : decode cX6_between 97 = .ok (.aload_n 0, 1) := by decide +kernel
theorem dX6_between_98 : decode cX6_between 98 = .ok (.bipush (-2), 2) := by decide +kernel
theorem dX6_between_100 : decode cX6_between 100 = .ok (.invokevirtual 97, 3) := by decide +kernel
theorem dX6_between_103 : decode cX6_between 103 = .ok (.aload_n 0, 1) := by decide +kernel
theorem dX6_between_104 : decode cX6_between 104 = .ok (.iconst 2, 1) := by decide +kernel
theorem dX6_between_105 : decode cX6_between 105 = .ok (.iload 5, 2) := by decide +kernel
theorem dX6_between_107 : decode cX6_between 107 = .ok (.iload 6, 2) := by decide +kernel
theorem dX6_between_109 : decode cX6_between 109 = .ok (.invokevirtual 105, 3) := by decide +kernel
theorem dX6_between_112 : decode cX6_between 112 = .ok (.aload_n 0, 1) := by decide +kernel
theorem dX6_between_113 : decode cX6_between 113 = .ok (.bipush (-3), 2) := by decide +kernel
theorem dX6_between_115 : decode cX6_between 115 = .ok (.invokevirtual 97, 3) := by decide +kernel
theorem dX6_between_118 : decode cX6_between 118 = .ok (.iconst 1, 1) := by decide +kernel
theorem dX6_between_119 : decode cX6_between 119 = .ok (.ireturn, 1) := by decide +kernel
end
section
set_option maxRecDepth 20000 in
theorem ggX6_merge_X6_keep : GoodIn wsX6_merge wsX6_keep := goodIn_r _ [11, 5, 12, 13, 14, 10, 15, 16, 17, 18, 19, 20, 6, 21, 22, 23, 24, 42, 43, 44, 45, 46, 47, 48, 49, 50, 51, 52, 53, 54, 55, 56, 57, 58, 59, 60] (by decide +kernel) (by decide +kernel)
set_option maxRecDepth 20000 in
theorem gX6_merge_X6_keep : GoodIn wsX6_merge (wsV RX6 108 RX6 yX6_keep wsX6_keep) := goodIn_app (goodIn_of _ (by decide +kernel)) ggX6_merge_X6_keep
set_option maxRecDepth 20000 in
theorem ggX6_merge_X6_between : GoodIn wsX6_merge wsX6_between := goodIn_r _ [28, 29, 30, 31, 10, 32, 17, 18, 19, 20, 6, 33, 34, 35, 36, 37, 38, 39, 40, 41, 4, 42, 43, 44, 45, 46, 47, 48, 49, 50, 51, 52, 53, 54, 55, 56, 57, 58, 59, 60] (by decide +kernel) (by decide +kernel)
set_option maxRecDepth 20000 in
theorem gX6_merge_X6_between : GoodIn wsX6_merge (wsV RX6 112 RX6 yX6_between wsX6_between) := goodIn_app (goodIn_of _ (by decide +kernel)) ggX6_merge_X6_between
set_option maxRecDepth 20000 in
theorem ggX6_merge_X6_take : GoodIn wsX6_merge wsX6_take := goodIn_r _ [40, 41, 4, 42, 43, 44, 45, 46, 47, 48, 49, 50, 51, 52, 53, 54, 55, 56, 57, 58, 59, 60] (by decide +kernel) (by decide +kernel)
set_option maxRecDepth 20000 in
theorem gX6_merge_X6_take : GoodIn wsX6_merge (wsV RX6 97 RX6 yX6_take wsX6_take) := goodIn_app (goodIn_of _ (by decide +kernel)) ggX6_merge_X6_take
theorem dX6_merge_0 : decode cX6_merge 0 = .ok (.aload_n 0, 1) := by decide +kernel
theorem dX6_merge_1 : decode cX6_merge 1 = .ok (.iconst 0, 1) := by decide +kernel
theorem dX6_merge_2 : decode cX6_merge 2 = .ok (.putfield 50, 3) := by decide +kernel
theorem dX6_merge_5 : decode cX6_merge 5 = .ok (.aload_n 0, 1) := by decide +kernel
theorem dX6_merge_6 : decode cX6_merge 6 = .ok (.iconst 1, 1) := by decide +kernel
theorem dX6_merge_7 : decode cX6_merge 7 = .ok (.aload_n 0, 1) := by decide +kernel
theorem dX6_merge_8 : decode cX6_merge 8 = .ok (.getfield 37, 3) := by decide +kernel
theorem dX6_merge_11 : decode cX6_merge 11 = .ok (.invokevirtual 108, 3) := by decide +kernel
theorem dX6_merge_14 : decode cX6_merge 14 = .ok (.aload_n 0, 1) := by decide +kernel
theorem dX6_merge_15 : decode cX6_merge 15 = .ok (.iconst 2, 1) := by decide +kernel
theorem dX6_merge_16 : decode cX6_merge 16 = .ok (.aload_n 0, 1) := by decide +kernel
theorem dX6_merge_17 : decode cX6_merge 17 = .ok (.getfield 40, 3) := by decide +kernel
theorem dX6_merge_20 : decode cX6_merge 20 = .ok (.invokevirtual 108, 3) := by decide +kernel
theorem dX6_merge_23 : decode cX6_merge 23 = .ok (.aload_n 0, 1) := by decide +kernel
theorem dX6_merge_24 : decode cX6_merge 24 = .ok (.iconst 0, 1) := by decide +kernel
theorem dX6_merge_25 : decode cX6_merge 25 = .ok (.putfield 90, 3) := by decide +kernel
theorem dX6_merge_28 : decode cX6_merge 28 = .ok (.iconst 0, 1) := by decide +kernel
theorem dX6_merge_29 : decode cX6_merge 29 = .ok (.istore_n 1, 1) := by decide +kernel
theorem dX6_merge_30 : decode cX6_merge 30 = .ok (.iconst 0, 1) := by decide +kernel
theorem dX6_merge_31 : decode cX6_merge 31 = .ok (.istore_n 2, 1) := by decide +kernel
theorem dX6_merge_32 : decode cX6_merge 32 = .ok (.iconst 0, 1) := by decide +kernel
theorem dX6_merge_33 : decode cX6_merge 33 = .ok (.istore_n 3, 1) := by decide +kernel
theorem dX6_merge_34 : decode cX6_merge 34 = .ok (.iconst 0, 1) := by decide +kernel
theorem dX6_merge_35 : decode cX6_merge 35 = .ok (.istore 4, 2) := by decide +kernel
theorem dX6_merge_37 : decode cX6_merge 37 = .ok (.iconst 0, 1) := by decide +kernel
theorem dX6_merge_38 : decode cX6_merge 38 = .ok (.istore 5, 2) := by decide +kernel
theorem dX6_merge_40 : decode cX6_merge 40 = .ok (.iload 5, 2) := by decide +kernel
theorem dX6_merge_42 : decode cX6_merge 42 = .ok (.aload_n 0, 1) := by decide +kernel
theorem dX6_merge_43 : decode cX6_merge 43 = .ok (.getfield 7, 3) := by decide +kernel
theorem dX6_merge_46 : decode cX6_merge 46 = .ok (.iconst 0, 1) := by decide +kernel
theorem dX6_merge_47 : decode cX6_merge 47 = .ok (.iaload, 1) := by decide +kernel
theorem dX6_merge_48 : decode cX6_merge 48 = .ok (.if_icmp .gt 151, 3) := by decide +kernel
theorem dX6_merge_51 : decode cX6_merge 51 = .ok (.iload 5, 2) := by decide +kernel
theorem dX6_merge_53 : decode cX6_merge 53 = .ok (.aload_n 0, 1) := by decide +kernel
theorem dX6_merge_54 : decode cX6_merge 54 = .ok (.getfield 7, 3) := by decide +kernel
theorem dX6_merge_57 : decode cX6_merge 57 = .ok (.iconst 0, 1) := by decide +kernel
theorem dX6_merge_58 : decode cX6_merge 58 = .ok (.iaload, 1) := by decide +kernel
theorem dX6_merge_59 : decode cX6_merge 59 = .ok (.if_icmp .ne 7, 3) := by decide +kernel
theorem dX6_merge_62 : decode cX6_merge 62 = .ok (.iconst 1, 1) := by decide +kernel
theorem dX6_merge_63 : decode cX6_merge 63 = .ok (.goto 4, 3) := by decide +kernel
theorem dX6_merge_66 : decode cX6_merge 66 = .ok (.iconst 0, 1) := by decide +kernel
theorem dX6_merge_67 : decode cX6_merge 67 = .ok (.istore 6, 2) := by decide +kernel
theorem dX6_merge_69 : decode cX6_merge 69 = .ok (.iload 6, 2) := by decide +kernel
theorem dX6_merge_71 : decode cX6_merge 71 = .ok (.ifCond .ne 23, 3) := by decide +kernel
theorem dX6_merge_74 : decode cX6_merge 74 = .ok (.aload_n 0, 1) := by decide +kernel
theorem dX6_merge_75 : decode cX6_merge 75 = .ok (.getfield 37, 3) := by decide +kernel
theorem dX6_merge_78 : decode cX6_merge 78 = .ok (.iload 5, 2) := by decide +kernel
theorem dX6_merge_80 : decode cX6_merge 80 = .ok (.iaload, 1) := by decide +kernel
theorem dX6_merge_81 : decode cX6_merge 81 = .ok (.ifCond .le 112, 3) := by decide +kernel
theorem dX6_merge_84 : decode cX6_merge 84 = .ok (.aload_n 0, 1) := by decide +kernel
theorem dX6_merge_85 : decode cX6_merge 85 = .ok (.getfield 40, 3) := by decide +kernel
theorem dX6_merge_88 : decode cX6_merge 88 = .ok (.iload 5, 2) := by decide +kernel
theorem dX6_merge_90 : decode cX6_merge 90 = .ok (.iaload, 1) := by decide +kernel
theorem dX6_merge_91 : decode cX6_merge 91 = .ok (.ifCond .le 102, 3) := by decide +kernel
theorem dX6_merge_94 : decode cX6_merge 94 = .ok (.iload 6, 2) := by decide +kernel
theorem dX6_merge_96 : decode cX6_merge 96 = .ok (.ifCond .eq 12, 3) := by decide +kernel
theorem dX6_merge_99 : decode cX6_merge 99 = .ok (.aload_n 0, 1) := by decide +kernel
theorem dX6_merge_100 : decode cX6_merge 100 = .ok (.getfield 7, 3) := by decide +kernel
theorem dX6_merge_103 : decode cX6_merge 103 = .ok (.iconst 1, 1) := by decide +kernel
theorem dX6_merge_104 : decode cX6_merge 104 = .ok (.iaload, 1) := by decide +kernel
theorem dX6_merge_105 : decode cX6_merge 105 = .ok (.goto 12, 3) := by decide +kernel
theorem dX6_merge_108 : decode cX6_merge 108 = .ok (.aload_n 0, 1) := by decide +kernel
theorem dX6_merge_109 : decode cX6_merge 109 = .ok (.getfield 37, 3) := by decide +kernel
theorem dX6_merge_112 : decode cX6_merge 112 = .ok (.iload 5, 2) := by decide +kernel
theorem dX6_merge_114 : decode cX6_merge 114 = .ok (.iaload, 1) := by decide +kernel
theorem dX6_merge_115 : decode cX6_merge 115 = .ok (.iconst 1, 1) := by decide +kernel
theorem dX6_merge_116 : decode cX6_merge 116 = .ok (.isub, 1) := by decide +kernel
theorem dX6_merge_117 : decode cX6_merge 117 = .ok (.istore 7, 2) := by decide +kernel
theorem dX6_merge_119 : decode cX6_merge 119 = .ok (.iload 6, 2) := by decide +kernel
theorem dX6_merge_121 : decode cX6_merge 121 = .ok (.ifCond .eq 12, 3) := by decide +kernel
theorem dX6_merge_124 : decode cX6_merge 124 = .ok (.aload_n 0, 1) := by decide +kernel
theorem dX6_merge_125 : decode cX6_merge 125 = .ok (.getfield 7, 3) := by decide +kernel
theorem dX6_merge_128 : decode cX6_merge 128 = .ok (.iconst 2, 1) := by decide +kernel
theorem dX6_merge_129 : decode cX6_merge 129 = .ok (.iaload, 1) := by decide +kernel
theorem dX6_merge_130 : decode cX6_merge 130 = .ok (.goto 12, 3) := by decide +kernel
theorem dX6_merge_133 : decode cX6_merge 133 = .ok (.aload_n 0, 1) := by decide +kernel
theorem dX6_merge_134 : decode cX6_merge 134 = .ok (.getfield 40, 3) := by decide +kernel
theorem dX6_merge_137 : decode cX6_merge 137 = .ok (.iload 5, 2) := by decide +kernel
theorem dX6_merge_139 : decode cX6_merge 139 = .ok (.iaload, 1) := by decide +kernel
theorem dX6_merge_140 : decode cX6_merge 140 = .ok (.iconst 1, 1) := by decide +kernel
theorem dX6_merge_141 : decode cX6_merge 141 = .ok (.isub, 1) := by decide +kernel
theorem dX6_merge_142 : decode cX6_merge 142 = .ok (.istore 8, 2) := by decide +kernel
theorem dX6_merge_144 : decode cX6_merge 144 = .ok (.iload_n 1, 1) := by decide +kernel
theorem dX6_merge_145 : decode cX6_merge 145 = .ok (.aload_n 0, 1) := by decide +kernel
theorem dX6_merge_146 : decode cX6_merge 146 = .ok (.iload_n 2, 1) := by decide +kernel
theorem dX6_merge_147 : decode cX6_merge 147 = .ok (.iload 5, 2) := by decide +kernel
theorem dX6_merge_149 : decode cX6_merge 149 = .ok (.iload_n 3, 1) := by decide +kernel
theorem dX6_merge_150 : decode cX6_merge 150 = .ok (.iload 7, 2) := by decide +kernel
theorem dX6_merge_152 : decode cX6_merge 152 = .ok (.iload 4, 2) := by decide +kernel
theorem dX6_merge_154 : decode cX6_merge 154 = .ok (.iload 8, 2) := by decide +kernel
theorem dX6_merge_156 : decode cX6_merge 156 = .ok (.invokevirtual 112, 3) := by decide +kernel
theorem dX6_merge_159 : decode cX6_merge 159 = .ok (.iadd, 1) := by decide +kernel
theorem dX6_merge_160 : decode cX6_merge 160 = .ok (.istore_n 1, 1) := by decide +kernel
theorem dX6_merge_161 : decode cX6_merge 161 = .ok (.iload 6, 2) := by decide +kernel
theorem dX6_merge_163 : decode cX6_merge 163 = .ok (.ifCond .ne 14, 3) := by decide +kernel
theorem dX6_merge_166 : decode cX6_merge 166 = .ok (.aload_n 0, 1) := by decide +kernel
theorem dX6_merge_167 : decode cX6_merge 167 = .ok (.aload_n 0, 1) := by decide +kernel
theorem dX6_merge_168 : decode cX6_merge 168 = .ok (.getfield 13, 3) := by decide +kernel
theorem dX6_merge_171 : decode cX6_merge 171 = .ok (.iload 5, 2) := by decide +kernel
theorem dX6_merge_173 : decode cX6_merge 173 = .ok (.iaload, 1) := by decide +kernel
theorem dX6_merge_174 : decode cX6_merge 174 = .ok (.invokevirtual 97, 3) := by decide +kernel
theorem dX6_merge_177 : decode cX6_merge 177 = .ok (.iload 5, 2) := by decide +kernel
theorem dX6_merge_179 : decode cX6_merge 179 = .ok (.iconst 1, 1) := by decide +kernel
theorem dX6_merge_180 : decode cX6_merge 180 = .ok (.iadd, 1) := by decide +kernel
theorem dX6_merge_181 : decode cX6_merge 181 = .ok (.istore_n 2, 1) := by decide +kernel
theorem dX6_merge_182 : decode cX6_merge 182 = .ok (.iload 7, 2) := by decide +kernel
theorem dX6_merge_184 : decode cX6_merge 184 = .ok (.iconst 1, 1) := by decide +kernel
theorem dX6_merge_185 : decode cX6_merge 185 = .ok (.iadd, 1) := by decide +kernel
theorem dX6_merge_186 : decode cX6_merge 186 = .ok (.istore_n 3, 1) := by decide +kernel
theorem dX6_merge_187 : decode cX6_merge 187 = .ok (.iload 8, 2) := by decide +kernel
theorem dX6_merge_189 : decode cX6_merge 189 = .ok (.iconst 1, 1) := by decide +kernel
theorem dX6_merge_190 : decode cX6_merge 190 = .ok (.iadd, 1) := by decide +kernel
theorem dX6_merge_191 : decode cX6_merge 191 = .ok (.istore 4, 2) := by decide +kernel
theorem dX6_merge_193 : decode cX6_merge 193 = .ok (.iinc 5 1, 3) := by decide +kernel
theorem dX6_merge_196 : decode cX6_merge 196 = .ok (.goto (-156), 3) := by decide +kernel
theorem dX6_merge_199 : decode cX6_merge 199 = .ok (.iload_n 1, 1) := by decide +kernel
theorem dX6_merge_200 : decode cX6_merge 200 = .ok (.ireturn, 1) := by decide +kernel
theorem dX6_result_0 : decode cX6_result 0 = .ok (.aload_n 0, 1) := by decide +kernel
theorem dX6_result_1 : decode cX6_result 1 = .ok (.iconst 0, 1) := by decide +kernel
theorem dX6_result_2 : decode cX6_result 2 = .ok (.putfield 50, 3) := by decide +kernel
theorem dX6_result_5 : decode cX6_result 5 = .ok (.iload_n 1, 1) := by decide +kernel
theorem dX6_result_6 : decode cX6_result 6 = .ok (.ifCond .lt 20, 3) := by decide +kernel
theorem dX6_result_9 : decode cX6_result 9 = .ok (.iload_n 1, 1) := by decide +kernel
theorem dX6_result_10 : decode cX6_result 10 = .ok (.aload_n 0, 1) := by decide +kernel
theorem dX6_result_11 : decode cX6_result 11 = .ok (.getfield 90, 3) := by decide +kernel
theorem dX6_result_14 : decode cX6_result 14 = .ok (.if_icmp .ge 12, 3) := by decide +kernel
theorem dX6_result_17 : decode cX6_result 17 = .ok (.aload_n 0, 1) := by decide +kernel
theorem dX6_result_18 : decode cX6_result 18 = .ok (.getfield 31, 3) := by decide +kernel
theorem dX6_result_21 : decode cX6_result 21 = .ok (.iload_n 1, 1) := by decide +kernel
theorem dX6_result_22 : decode cX6_result 22 = .ok (.iaload, 1) := by decide +kernel
theorem dX6_result_23 : decode cX6_result 23 = .ok (.goto 5, 3) := by decide +kernel
theorem dX6_result_26 : decode cX6_result 26 = .ok (.bipush (-40), 2) := by decide +kernel
theorem dX6_result_28 : decode cX6_result 28 = .ok (.ireturn, 1) := by decide +kernel
theorem dX6_results_0 : decode cX6_results 0 = .ok (.aload_n 0, 1) := by decide +kernel
theorem dX6_results_1 : decode cX6_results 1 = .ok (.iconst 0, 1) := by decide +kernel
theorem dX6_results_2 : decode cX6_results 2 = .ok (.putfield 50, 3) := by decide +kernel
theorem dX6_results_5 : decode cX6_results 5 = .ok (.aload_n 0, 1) := by decide +kernel
theorem dX6_results_6 : decode cX6_results 6 = .ok (.getfield 90, 3) := by decide +kernel
theorem dX6_results_9 : decode cX6_results 9 = .ok (.ireturn, 1) := by decide +kernel
theorem dX6_together_0 : decode cX6_together 0 = .ok (.aload_n 0, 1) := by decide +kernel
theorem dX6_together_1 : decode cX6_together 1 = .ok (.getfield 28, 3) := by decide +kernel
theorem dX6_together_4 : decode cX6_together 4 = .ok (.iload_n 1, 1) := by decide +kernel
theorem dX6_together_5 : decode cX6_together 5 = .ok (.iaload, 1) := by decide +kernel
theorem dX6_together_6 : decode cX6_together 6 = .ok (.aload_n 0, 1) := by decide +kernel
theorem dX6_together_7 : decode cX6_together 7 = .ok (.getfield 28, 3) := by decide +kernel
theorem dX6_together_10 : decode cX6_together 10 = .ok (.iload_n 1, 1) := by decide +kernel
theorem dX6_together_11 : decode cX6_together 11 = .ok (.iconst 1, 1) := by decide +kernel
theorem dX6_together_12 : decode cX6_together 12 = .ok (.isub, 1) := by decide +kernel
theorem dX6_together_13 : decode cX6_together 13 = .ok (.iaload, 1) := by decide +kernel
theorem dX6_together_14 : decode cX6_together 14 = .ok (.isub, 1) := by decide +kernel
theorem dX6_together_15 : decode cX6_together 15 = .ok (.aload_n 0, 1) := by decide +kernel
theorem dX6_together_16 : decode cX6_together 16 = .ok (.getfield 25, 3) := by decide +kernel
theorem dX6_together_19 : decode cX6_together 19 = .ok (.iload_n 1, 1) := by decide +kernel
theorem dX6_together_20 : decode cX6_together 20 = .ok (.iconst 1, 1) := by decide +kernel
theorem dX6_together_21 : decode cX6_together 21 = .ok (.isub, 1) := by decide +kernel
theorem dX6_together_22 : decode cX6_together 22 = .ok (.iaload, 1) := by decide +kernel
theorem dX6_together_23 : decode cX6_together 23 = .ok (.ifCond .ne 7, 3) := by decide +kernel
theorem dX6_together_26 : decode cX6_together 26 = .ok (.iconst 1, 1) := by decide +kernel
theorem dX6_together_27 : decode cX6_together 27 = .ok (.goto 4, 3) := by decide +kernel
theorem dX6_together_30 : decode cX6_together 30 = .ok (.iconst 0, 1) := by decide +kernel
theorem dX6_together_31 : decode cX6_together 31 = .ok (.isub, 1) := by decide +kernel
theorem dX6_together_32 : decode cX6_together 32 = .ok (.istore_n 3, 1) := by decide +kernel
theorem dX6_together_33 : decode cX6_together 33 = .ok (.iload_n 3, 1) := by decide +kernel
theorem dX6_together_34 : decode cX6_together 34 = .ok (.iconst 2, 1) := by decide +kernel
theorem dX6_together_35 : decode cX6_together 35 = .ok (.iload_n 2, 1) := by decide +kernel
theorem dX6_together_36 : decode cX6_together 36 = .ok (.imul, 1) := by decide +kernel
theorem dX6_together_37 : decode cX6_together 37 = .ok (.if_icmp .gt 7, 3) := by decide +kernel
theorem dX6_together_40 : decode cX6_together 40 = .ok (.iconst 1, 1) := by decide +kernel
theorem dX6_together_41 : decode cX6_together 41 = .ok (.goto 4, 3) := by decide +kernel
theorem dX6_together_44 : decode cX6_together 44 = .ok (.iconst 0, 1) := by decide +kernel
theorem dX6_together_45 : decode cX6_together 45 = .ok (.ireturn, 1) := by decide +kernel
set_option maxRecDepth 20000 in
theorem ggX6_countHunks_X6_together : GoodIn wsX6_countHunks wsX6_together := goodIn_r _ [6, 7, 8, 9, 10, 11, 12, 13, 14, 15, 16, 17, 18, 19, 20, 21, 22, 23, 24, 25, 26, 27] (by decide +kernel) (by decide +kernel)
set_option maxRecDepth 20000 in
theorem gX6_countHunks_X6_together : GoodIn wsX6_countHunks (wsV RX6 116 RX6 yX6_together wsX6_together) := goodIn_app (goodIn_of _ (by decide +kernel)) ggX6_countHunks_X6_together
theorem dX6_countHunks_0 : decode cX6_countHunks 0 = .ok (.aload_n 0, 1) := by decide +kernel
theorem dX6_countHunks_1 : decode cX6_countHunks 1 = .ok (.getfield 80, 3) := by decide +kernel
theorem dX6_countHunks_4 : decode cX6_countHunks 4 = .ok (.ifCond .le 7, 3) := by decide +kernel
theorem dX6_countHunks_7 : decode cX6_countHunks 7 = .ok (.iconst 1, 1) := by decide +kernel
theorem dX6_countHunks_8 : decode cX6_countHunks 8 = .ok (.goto 4, 3) := by decide +kernel
theorem dX6_countHunks_11 : decode cX6_countHunks 11 = .ok (.iconst 0, 1) := by decide +kernel
theorem dX6_countHunks_12 : decode cX6_countHunks 12 = .ok (.istore_n 2, 1) := by decide +kernel
theorem dX6_countHunks_13 : decode cX6_countHunks 13 = .ok (.iconst 1, 1) := by decide +kernel
theorem dX6_countHunks_14 : decode cX6_countHunks 14 = .ok (.istore_n 3, 1) := by decide +kernel
theorem dX6_countHunks_15 : decode cX6_countHunks 15 = .ok (.iload_n 3, 1) := by decide +kernel
theorem dX6_countHunks_16 : decode cX6_countHunks 16 = .ok (.aload_n 0, 1) := by decide +kernel
theorem dX6_countHunks_17 : decode cX6_countHunks 17 = .ok (.getfield 80, 3) := by decide +kernel
theorem dX6_countHunks_20 : decode cX6_countHunks 20 = .ok (.if_icmp .ge 26, 3) := by decide +kernel
theorem dX6_countHunks_23 : decode cX6_countHunks 23 = .ok (.aload_n 0, 1) := by decide +kernel
theorem dX6_countHunks_24 : decode cX6_countHunks 24 = .ok (.iload_n 3, 1) := by decide +kernel
theorem dX6_countHunks_25 : decode cX6_countHunks 25 = .ok (.iload_n 1, 1) := by decide +kernel
theorem dX6_countHunks_26 : decode cX6_countHunks 26 = .ok (.invokevirtual 116, 3) := by decide +kernel
theorem dX6_countHunks_29 : decode cX6_countHunks 29 = .ok (.ifCond .eq 7, 3) := by decide +kernel
theorem dX6_countHunks_32 : decode cX6_countHunks 32 = .ok (.iload_n 2, 1) := by decide +kernel
theorem dX6_countHunks_33 : decode cX6_countHunks 33 = .ok (.goto 6, 3) := by decide +kernel
theorem dX6_countHunks_36 : decode cX6_countHunks 36 = .ok (.iload_n 2, 1) := by decide +kernel
theorem dX6_countHunks_37 : decode cX6_countHunks 37 = .ok (.iconst 1, 1) := by decide +kernel
theorem dX6_countHunks_38 : decode cX6_countHunks 38 = .ok (.iadd, 1) := by decide +kernel
theorem dX6_countHunks_39 : decode cX6_countHunks 39 = .ok (.istore_n 2, 1) := by decide +kernel
theorem dX6_countHunks_40 : decode cX6_countHunks 40 = .ok (.iinc 3 1, 3) := by decide +kernel
theorem dX6_countHunks_43 : decode cX6_countHunks 43 = .ok (.goto (-28), 3) := by decide +kernel
theorem dX6_countHunks_46 : decode cX6_countHunks 46 = .ok (.iload_n 2, 1) := by decide +kernel
theorem dX6_countHunks_47 : decode cX6_countHunks 47 = .ok (.ireturn, 1) := by decide +kernel
set_option maxRecDepth 20000 in
theorem ggX6_hunks_X6_countHunks : GoodIn wsX6_hunks wsX6_countHunks := goodIn_r _ [7, 8, 9, 10, 11, 6, 12, 13, 14, 15, 16, 17, 18, 19, 20, 21, 22, 23, 24, 25, 26, 27, 28, 29, 30, 31, 32, 33] (by decide +kernel) (by decide +kernel)
set_option maxRecDepth 20000 in
theorem gX6_hunks_X6_countHunks : GoodIn wsX6_hunks (wsV RX6 120 RX6 yX6_countHunks wsX6_countHunks) := goodIn_app (goodIn_of _ (by decide +kernel)) ggX6_hunks_X6_countHunks
theorem dX6_hunks_0 : decode cX6_hunks 0 = .ok (.aload_n 0, 1) := by decide +kernel
theorem dX6_hunks_1 : decode cX6_hunks 1 = .ok (.iconst 0, 1) := by decide +kernel
theorem dX6_hunks_2 : decode cX6_hunks 2 = .ok (.putfield 50, 3) := by decide +kernel
theorem dX6_hunks_5 : decode cX6_hunks 5 = .ok (.aload_n 0, 1) := by decide +kernel
theorem dX6_hunks_6 : decode cX6_hunks 6 = .ok (.getfield 76, 3) := by decide +kernel
theorem dX6_hunks_9 : decode cX6_hunks 9 = .ok (.ifCond .eq 21, 3) := by decide +kernel
theorem dX6_hunks_12 : decode cX6_hunks 12 = .ok (.iload_n 1, 1) := by decide +kernel
theorem dX6_hunks_13 : decode cX6_hunks 13 = .ok (.ifCond .lt 17, 3) := by decide +kernel
theorem dX6_hunks_16 : decode cX6_hunks 16 = .ok (.iload_n 1, 1) := by decide +kernel
theorem dX6_hunks_17 : decode cX6_hunks 17 = .ok (.bipush 9, 2) := by decide +kernel
theorem dX6_hunks_19 : decode cX6_hunks 19 = .ok (.if_icmp .gt 11, 3) := by decide +kernel
theorem dX6_hunks_22 : decode cX6_hunks 22 = .ok (.aload_n 0, 1) := by decide +kernel
theorem dX6_hunks_23 : decode cX6_hunks 23 = .ok (.iload_n 1, 1) := by decide +kernel
theorem dX6_hunks_24 : decode cX6_hunks 24 = .ok (.invokevirtual 120, 3) := by decide +kernel
theorem dX6_hunks_27 : decode cX6_hunks 27 = .ok (.goto 4, 3) := by decide +kernel
theorem dX6_hunks_30 : decode cX6_hunks 30 = .ok (.iconst 0, 1) := by decide +kernel
theorem dX6_hunks_31 : decode cX6_hunks 31 = .ok (.ireturn, 1) := by decide +kernel
set_option maxRecDepth 20000 in
theorem ggX6_hunk_X6_countHunks : GoodIn wsX6_hunk wsX6_countHunks := goodIn_r _ [12, 4, 13, 14, 15, 11, 16, 5, 6, 17, 18, 19, 20, 21, 22, 23, 24, 25, 26, 27, 28, 29, 30, 31, 32, 33, 34, 35] (by decide +kernel) (by decide +kernel)
set_option maxRecDepth 20000 in
theorem gX6_hunk_X6_countHunks : GoodIn wsX6_hunk (wsV RX6 120 RX6 yX6_countHunks wsX6_countHunks) := goodIn_app (goodIn_of _ (by decide +kernel)) ggX6_hunk_X6_countHunks
set_option maxRecDepth 20000 in
theorem ggX6_hunk_X6_together : GoodIn wsX6_hunk wsX6_together := goodIn_r _ [16, 5, 6, 17, 18, 19, 20, 21, 22, 23, 24, 25, 26, 27, 28, 29, 30, 31, 32, 33, 34, 35] (by decide +kernel) (by decide +kernel)
set_option maxRecDepth 20000 in
theorem gX6_hunk_X6_together : GoodIn wsX6_hunk (wsV RX6 116 RX6 yX6_together wsX6_together) := goodIn_app (goodIn_of _ (by decide +kernel)) ggX6_hunk_X6_together
theorem dX6_hunk_0 : decode cX6_hunk 0 = .ok (.aload_n 0, 1) := by decide +kernel
theorem dX6_hunk_1 : decode cX6_hunk 1 = .ok (.iconst 0, 1) := by decide +kernel
theorem dX6_hunk_2 : decode cX6_hunk 2 = .ok (.putfield 50, 3) := by decide +kernel
theorem dX6_hunk_5 : decode cX6_hunk 5 = .ok (.aload_n 0, 1) := by decide +kernel
theorem dX6_hunk_6 : decode cX6_hunk 6 = .ok (.getfield 76, 3) := by decide +kernel
theorem dX6_hunk_9 : decode cX6_hunk 9 = .ok (.ifCond .eq 35, 3) := by decide +kernel
theorem dX6_hunk_12 : decode cX6_hunk 12 = .ok (.iload_n 1, 1) := by decide +kernel
theorem dX6_hunk_13 : decode cX6_hunk 13 = .ok (.ifCond .lt 31, 3) := by decide +kernel
theorem dX6_hunk_16 : decode cX6_hunk 16 = .ok (.iload_n 1, 1) := by decide +kernel
theorem dX6_hunk_17 : decode cX6_hunk 17 = .ok (.bipush 9, 2) := by decide +kernel
theorem dX6_hunk_19 : decode cX6_hunk 19 = .ok (.if_icmp .gt 25, 3) := by decide +kernel
theorem dX6_hunk_22 : decode cX6_hunk 22 = .ok (.iload_n 2, 1) := by decide +kernel
theorem dX6_hunk_23 : decode cX6_hunk 23 = .ok (.ifCond .lt 21, 3) := by decide +kernel
theorem dX6_hunk_26 : decode cX6_hunk 26 = .ok (.iload_n 2, 1) := by decide +kernel
theorem dX6_hunk_27 : decode cX6_hunk 27 = .ok (.aload_n 0, 1) := by decide +kernel
theorem dX6_hunk_28 : decode cX6_hunk 28 = .ok (.iload_n 1, 1) := by decide +kernel
theorem dX6_hunk_29 : decode cX6_hunk 29 = .ok (.invokevirtual 120, 3) := by decide +kernel
theorem dX6_hunk_32 : decode cX6_hunk 32 = .ok (.if_icmp .ge 12, 3) := by decide +kernel
theorem dX6_hunk_35 : decode cX6_hunk 35 = .ok (.iload_n 3, 1) := by decide +kernel
theorem dX6_hunk_36 : decode cX6_hunk 36 = .ok (.ifCond .lt 8, 3) := by decide +kernel
theorem dX6_hunk_39 : decode cX6_hunk 39 = .ok (.iload_n 3, 1) := by decide +kernel
theorem dX6_hunk_40 : decode cX6_hunk 40 = .ok (.iconst 3, 1) := by decide +kernel
theorem dX6_hunk_41 : decode cX6_hunk 41 = .ok (.if_icmp .le 5, 3) := by decide +kernel
theorem dX6_hunk_44 : decode cX6_hunk 44 = .ok (.iconst (-1), 1) := by decide +kernel
theorem dX6_hunk_45 : decode cX6_hunk 45 = .ok (.ireturn, 1) := by decide +kernel
theorem dX6_hunk_46 : decode cX6_hunk 46 = .ok (.iconst (-1), 1) := by decide +kernel
theorem dX6_hunk_47 : decode cX6_hunk 47 = .ok (.istore 4, 2) := by decide +kernel
theorem dX6_hunk_49 : decode cX6_hunk 49 = .ok (.iconst 0, 1) := by decide +kernel
theorem dX6_hunk_50 : decode cX6_hunk 50 = .ok (.istore 5, 2) := by decide +kernel
theorem dX6_hunk_52 : decode cX6_hunk 52 = .ok (.aload_n 0, 1) := by decide +kernel
theorem dX6_hunk_53 : decode cX6_hunk 53 = .ok (.getfield 43, 3) := by decide +kernel
theorem dX6_hunk_56 : decode cX6_hunk 56 = .ok (.iconst 2, 1) := by decide +kernel
theorem dX6_hunk_57 : decode cX6_hunk 57 = .ok (.iconst 0, 1) := by decide +kernel
theorem dX6_hunk_58 : decode cX6_hunk 58 = .ok (.iastore, 1) := by decide +kernel
theorem dX6_hunk_59 : decode cX6_hunk 59 = .ok (.aload_n 0, 1) := by decide +kernel
theorem dX6_hunk_60 : decode cX6_hunk 60 = .ok (.getfield 43, 3) := by decide +kernel
theorem dX6_hunk_63 : decode cX6_hunk 63 = .ok (.iconst 3, 1) := by decide +kernel
theorem dX6_hunk_64 : decode cX6_hunk 64 = .ok (.iconst 0, 1) := by decide +kernel
theorem dX6_hunk_65 : decode cX6_hunk 65 = .ok (.iastore, 1) := by decide +kernel
theorem dX6_hunk_66 : decode cX6_hunk 66 = .ok (.iconst 0, 1) := by decide +kernel
theorem dX6_hunk_67 : decode cX6_hunk 67 = .ok (.istore 6, 2) := by decide +kernel
theorem dX6_hunk_69 : decode cX6_hunk 69 = .ok (.iload 6, 2) := by decide +kernel
theorem dX6_hunk_71 : decode cX6_hunk 71 = .ok (.aload_n 0, 1) := by decide +kernel
theorem dX6_hunk_72 : decode cX6_hunk 72 = .ok (.getfield 80, 3) := by decide +kernel
theorem dX6_hunk_75 : decode cX6_hunk 75 = .ok (.if_icmp .ge 210, 3) := by decide +kernel
theorem dX6_hunk_78 : decode cX6_hunk 78 = .ok (.iload 6, 2) := by decide +kernel
theorem dX6_hunk_80 : decode cX6_hunk 80 = .ok (.ifCond .eq 13, 3) := by decide +kernel
theorem dX6_hunk_83 : decode cX6_hunk 83 = .ok (.aload_n 0, 1) := by decide +kernel
theorem dX6_hunk_84 : decode cX6_hunk 84 = .ok (.iload 6, 2) := by decide +kernel
theorem dX6_hunk_86 : decode cX6_hunk 86 = .ok (.iload_n 1, 1) := by decide +kernel
theorem dX6_hunk_87 : decode cX6_hunk 87 = .ok (.invokevirtual 116, 3) := by decide +kernel
theorem dX6_hunk_90 : decode cX6_hunk 90 = .ok (.ifCond .ne 10, 3) := by decide +kernel
theorem dX6_hunk_93 : decode cX6_hunk 93 = .ok (.iload 4, 2) := by decide +kernel
theorem dX6_hunk_95 : decode cX6_hunk 95 = .ok (.iconst 1, 1) := by decide +kernel
theorem dX6_hunk_96 : decode cX6_hunk 96 = .ok (.iadd, 1) := by decide +kernel
theorem dX6_hunk_97 : decode cX6_hunk 97 = .ok (.goto 5, 3) := by decide +kernel
theorem dX6_hunk_100 : decode cX6_hunk 100 = .ok (.iload 4, 2) := by decide +kernel
theorem dX6_hunk_102 : decode cX6_hunk 102 = .ok (.istore 4, 2) := by decide +kernel
theorem dX6_hunk_104 : decode cX6_hunk 104 = .ok (.iload 4, 2) := by decide +kernel
theorem dX6_hunk_106 : decode cX6_hunk 106 = .ok (.iload_n 2, 1) := by decide +kernel
theorem dX6_hunk_107 : decode cX6_hunk 107 = .ok (.if_icmp .ne 23, 3) := by decide +kernel
theorem dX6_hunk_110 : decode cX6_hunk 110 = .ok (.aload_n 0, 1) := by decide +kernel
theorem dX6_hunk_111 : decode cX6_hunk 111 = .ok (.getfield 43, 3) := by decide +kernel
theorem dX6_hunk_114 : decode cX6_hunk 114 = .ok (.iconst 2, 1) := by decide +kernel
theorem dX6_hunk_115 : decode cX6_hunk 115 = .ok (.iaload, 1) := by decide +kernel
theorem dX6_hunk_116 : decode cX6_hunk 116 = .ok (.aload_n 0, 1) := by decide +kernel
theorem dX6_hunk_117 : decode cX6_hunk 117 = .ok (.getfield 43, 3) := by decide +kernel
theorem dX6_hunk_120 : decode cX6_hunk 120 = .ok (.iconst 3, 1) := by decide +kernel
theorem dX6_hunk_121 : decode cX6_hunk 121 = .ok (.iaload, 1) := by decide +kernel
theorem dX6_hunk_122 : decode cX6_hunk 122 = .ok (.iadd, 1) := by decide +kernel
theorem dX6_hunk_123 : decode cX6_hunk 123 = .ok (.ifCond .ne 7, 3) := by decide +kernel
theorem dX6_hunk_126 : decode cX6_hunk 126 = .ok (.iconst 1, 1) := by decide +kernel
theorem dX6_hunk_127 : decode cX6_hunk 127 = .ok (.goto 4, 3) := by decide +kernel
theorem dX6_hunk_130 : decode cX6_hunk 130 = .ok (.iconst 0, 1) := by decide +kernel
theorem dX6_hunk_131 : decode cX6_hunk 131 = .ok (.istore 7, 2) := by decide +kernel
theorem dX6_hunk_133 : decode cX6_hunk 133 = .ok (.aload_n 0, 1) := by decide +kernel
theorem dX6_hunk_134 : decode cX6_hunk 134 = .ok (.getfield 43, 3) := by decide +kernel
theorem dX6_hunk_137 : decode cX6_hunk 137 = .ok (.iconst 0, 1) := by decide +kernel
theorem dX6_hunk_138 : decode cX6_hunk 138 = .ok (.iload 7, 2) := by decide +kernel
theorem dX6_hunk_140 : decode cX6_hunk 140 = .ok (.ifCond .eq 15, 3) := by decide +kernel
theorem dX6_hunk_143 : decode cX6_hunk 143 = .ok (.aload_n 0, 1) := by decide +kernel
theorem dX6_hunk_144 : decode cX6_hunk 144 = .ok (.getfield 28, 3) := by decide +kernel
theorem dX6_hunk_147 : decode cX6_hunk 147 = .ok (.iload 6, 2) := by decide +kernel
theorem dX6_hunk_149 : decode cX6_hunk 149 = .ok (.iaload, 1) := by decide +kernel
theorem dX6_hunk_150 : decode cX6_hunk 150 = .ok (.iload_n 1, 1) := by decide +kernel
theorem dX6_hunk_151 : decode cX6_hunk 151 = .ok (.isub, 1) := by decide +kernel
theorem dX6_hunk_152 : decode cX6_hunk 152 = .ok (.goto 9, 3) := by decide +kernel
theorem dX6_hunk_155 : decode cX6_hunk 155 = .ok (.aload_n 0, 1) := by decide +kernel
theorem dX6_hunk_156 : decode cX6_hunk 156 = .ok (.getfield 43, 3) := by decide +kernel
theorem dX6_hunk_159 : decode cX6_hunk 159 = .ok (.iconst 0, 1) := by decide +kernel
theorem dX6_hunk_160 : decode cX6_hunk 160 = .ok (.iaload, 1) := by decide +kernel
theorem dX6_hunk_161 : decode cX6_hunk 161 = .ok (.iastore, 1) := by decide +kernel
theorem dX6_hunk_162 : decode cX6_hunk 162 = .ok (.iload 4, 2) := by decide +kernel
theorem dX6_hunk_164 : decode cX6_hunk 164 = .ok (.iload_n 2, 1) := by decide +kernel
theorem dX6_hunk_165 : decode cX6_hunk 165 = .ok (.if_icmp .ne 31, 3) := by decide +kernel
theorem dX6_hunk_168 : decode cX6_hunk 168 = .ok (.aload_n 0, 1) := by decide +kernel
theorem dX6_hunk_169 : decode cX6_hunk 169 = .ok (.getfield 28, 3) := by decide +kernel
theorem dX6_hunk_172 : decode cX6_hunk 172 = .ok (.iload 6, 2) := by decide +kernel
theorem dX6_hunk_174 : decode cX6_hunk 174 = .ok (.iaload, 1) := by decide +kernel
theorem dX6_hunk_175 : decode cX6_hunk 175 = .ok (.aload_n 0, 1) := by decide +kernel
theorem dX6_hunk_176 : decode cX6_hunk 176 = .ok (.getfield 25, 3) := by decide +kernel
theorem dX6_hunk_179 : decode cX6_hunk 179 = .ok (.iload 6, 2) := by decide +kernel
theorem dX6_hunk_181 : decode cX6_hunk 181 = .ok (.iaload, 1) := by decide +kernel
theorem dX6_hunk_182 : decode cX6_hunk 182 = .ok (.ifCond .ne 7, 3) := by decide +kernel
theorem dX6_hunk_185 : decode cX6_hunk 185 = .ok (.iconst 1, 1) := by decide +kernel
theorem dX6_hunk_186 : decode cX6_hunk 186 = .ok (.goto 4, 3) := by decide +kernel
theorem dX6_hunk_189 : decode cX6_hunk 189 = .ok (.iconst 0, 1) := by decide +kernel
theorem dX6_hunk_190 : decode cX6_hunk 190 = .ok (.iadd, 1) := by decide +kernel
theorem dX6_hunk_191 : decode cX6_hunk 191 = .ok (.iload_n 1, 1) := by decide +kernel
theorem dX6_hunk_192 : decode cX6_hunk 192 = .ok (.iadd, 1) := by decide +kernel
theorem dX6_hunk_193 : decode cX6_hunk 193 = .ok (.goto 5, 3) := by decide +kernel
theorem dX6_hunk_196 : decode cX6_hunk 196 = .ok (.iload 5, 2) := by decide +kernel
theorem dX6_hunk_198 : decode cX6_hunk 198 = .ok (.istore 5, 2) := by decide +kernel
theorem dX6_hunk_200 : decode cX6_hunk 200 = .ok (.aload_n 0, 1) := by decide +kernel
theorem dX6_hunk_201 : decode cX6_hunk 201 = .ok (.getfield 43, 3) := by decide +kernel
theorem dX6_hunk_204 : decode cX6_hunk 204 = .ok (.iconst 2, 1) := by decide +kernel
theorem dX6_hunk_205 : decode cX6_hunk 205 = .ok (.iload 4, 2) := by decide +kernel
theorem dX6_hunk_207 : decode cX6_hunk 207 = .ok (.iload_n 2, 1) := by decide +kernel
theorem dX6_hunk_208 : decode cX6_hunk 208 = .ok (.if_icmp .ne 25, 3) := by decide +kernel
theorem dX6_hunk_211 : decode cX6_hunk 211 = .ok (.aload_n 0, 1) := by decide +kernel
theorem dX6_hunk_212 : decode cX6_hunk 212 = .ok (.getfield 25, 3) := by decide +kernel
theorem dX6_hunk_215 : decode cX6_hunk 215 = .ok (.iload 6, 2) := by decide +kernel
theorem dX6_hunk_217 : decode cX6_hunk 217 = .ok (.iaload, 1) := by decide +kernel
theorem dX6_hunk_218 : decode cX6_hunk 218 = .ok (.iconst 1, 1) := by decide +kernel
theorem dX6_hunk_219 : decode cX6_hunk 219 = .ok (.if_icmp .ne 14, 3) := by decide +kernel
theorem dX6_hunk_222 : decode cX6_hunk 222 = .ok (.aload_n 0, 1) := by decide +kernel
theorem dX6_hunk_223 : decode cX6_hunk 223 = .ok (.getfield 43, 3) := by decide +kernel
theorem dX6_hunk_226 : decode cX6_hunk 226 = .ok (.iconst 2, 1) := by decide +kernel
theorem dX6_hunk_227 : decode cX6_hunk 227 = .ok (.iaload, 1) := by decide +kernel
theorem dX6_hunk_228 : decode cX6_hunk 228 = .ok (.iconst 1, 1) := by decide +kernel
theorem dX6_hunk_229 : decode cX6_hunk 229 = .ok (.iadd, 1) := by decide +kernel
theorem dX6_hunk_230 : decode cX6_hunk 230 = .ok (.goto 9, 3) := by decide +kernel
theorem dX6_hunk_233 : decode cX6_hunk 233 = .ok (.aload_n 0, 1) := by decide +kernel
theorem dX6_hunk_234 : decode cX6_hunk 234 = .ok (.getfield 43, 3) := by decide +kernel
theorem dX6_hunk_237 : decode cX6_hunk 237 = .ok (.iconst 2, 1) := by decide +kernel
theorem dX6_hunk_238 : decode cX6_hunk 238 = .ok (.iaload, 1) := by decide +kernel
theorem dX6_hunk_239 : decode cX6_hunk 239 = .ok (.iastore, 1) := by decide +kernel
theorem dX6_hunk_240 : decode cX6_hunk 240 = .ok (.aload_n 0, 1) := by decide +kernel
theorem dX6_hunk_241 : decode cX6_hunk 241 = .ok (.getfield 43, 3) := by decide +kernel
theorem dX6_hunk_244 : decode cX6_hunk 244 = .ok (.iconst 3, 1) := by decide +kernel
theorem dX6_hunk_245 : decode cX6_hunk 245 = .ok (.iload 4, 2) := by decide +kernel
theorem dX6_hunk_247 : decode cX6_hunk 247 = .ok (.iload_n 2, 1) := by decide +kernel
theorem dX6_hunk_248 : decode cX6_hunk 248 = .ok (.if_icmp .ne 24, 3) := by decide +kernel
theorem dX6_hunk_251 : decode cX6_hunk 251 = .ok (.aload_n 0, 1) := by decide +kernel
theorem dX6_hunk_252 : decode cX6_hunk 252 = .ok (.getfield 25, 3) := by decide +kernel
theorem dX6_hunk_255 : decode cX6_hunk 255 = .ok (.iload 6, 2) := by decide +kernel
theorem dX6_hunk_257 : decode cX6_hunk 257 = .ok (.iaload, 1) := by decide +kernel
theorem dX6_hunk_258 : decode cX6_hunk 258 = .ok (.ifCond .ne 14, 3) := by decide +kernel
theorem dX6_hunk_261 : decode cX6_hunk 261 = .ok (.aload_n 0, 1) := by decide +kernel
theorem dX6_hunk_262 : decode cX6_hunk 262 = .ok (.getfield 43, 3) := by decide +kernel
theorem dX6_hunk_265 : decode cX6_hunk 265 = .ok (.iconst 3, 1) := by decide +kernel
theorem dX6_hunk_266 : decode cX6_hunk 266 = .ok (.iaload, 1) := by decide +kernel
theorem dX6_hunk_267 : decode cX6_hunk 267 = .ok (.iconst 1, 1) := by decide +kernel
theorem dX6_hunk_268 : decode cX6_hunk 268 = .ok (.iadd, 1) := by decide +kernel
theorem dX6_hunk_269 : decode cX6_hunk 269 = .ok (.goto 9, 3) := by decide +kernel
theorem dX6_hunk_272 : decode cX6_hunk 272 = .ok (.aload_n 0, 1) := by decide +kernel
theorem dX6_hunk_273 : decode cX6_hunk 273 = .ok (.getfield 43, 3) := by decide +kernel
theorem dX6_hunk_276 : decode cX6_hunk 276 = .ok (.iconst 3, 1) := by decide +kernel
theorem dX6_hunk_277 : decode cX6_hunk 277 = .ok (.iaload, 1) := by decide +kernel
theorem dX6_hunk_278 : decode cX6_hunk 278 = .ok (.iastore, 1) := by decide +kernel
theorem dX6_hunk_279 : decode cX6_hunk 279 = .ok (.iinc 6 1, 3) := by decide +kernel
theorem dX6_hunk_282 : decode cX6_hunk 282 = .ok (.goto (-213), 3) := by decide +kernel
theorem dX6_hunk_285 : decode cX6_hunk 285 = .ok (.aload_n 0, 1) := by decide +kernel
theorem dX6_hunk_286 : decode cX6_hunk 286 = .ok (.getfield 43, 3) := by decide +kernel
theorem dX6_hunk_289 : decode cX6_hunk 289 = .ok (.iconst 0, 1) := by decide +kernel
theorem dX6_hunk_290 : decode cX6_hunk 290 = .ok (.aload_n 0, 1) := by decide +kernel
theorem dX6_hunk_291 : decode cX6_hunk 291 = .ok (.getfield 43, 3) := by decide +kernel
theorem dX6_hunk_294 : decode cX6_hunk 294 = .ok (.iconst 0, 1) := by decide +kernel
theorem dX6_hunk_295 : decode cX6_hunk 295 = .ok (.iaload, 1) := by decide +kernel
theorem dX6_hunk_296 : decode cX6_hunk 296 = .ok (.ifCond .ge 7, 3) := by decide +kernel
theorem dX6_hunk_299 : decode cX6_hunk 299 = .ok (.iconst 0, 1) := by decide +kernel
theorem dX6_hunk_300 : decode cX6_hunk 300 = .ok (.goto 9, 3) := by decide +kernel
theorem dX6_hunk_303 : decode cX6_hunk 303 = .ok (.aload_n 0, 1) := by decide +kernel
theorem dX6_hunk_304 : decode cX6_hunk 304 = .ok (.getfield 43, 3) := by decide +kernel
theorem dX6_hunk_307 : decode cX6_hunk 307 = .ok (.iconst 0, 1) := by decide +kernel
theorem dX6_hunk_308 : decode cX6_hunk 308 = .ok (.iaload, 1) := by decide +kernel
theorem dX6_hunk_309 : decode cX6_hunk 309 = .ok (.iastore, 1) := by decide +kernel
theorem dX6_hunk_310 : decode cX6_hunk 310 = .ok (.iload 5, 2) := by decide +kernel
theorem dX6_hunk_312 : decode cX6_hunk 312 = .ok (.aload_n 0, 1) := by decide +kernel
theorem dX6_hunk_313 : decode cX6_hunk 313 = .ok (.getfield 83, 3) := by decide +kernel
theorem dX6_hunk_316 : decode cX6_hunk 316 = .ok (.if_icmp .le 10, 3) := by decide +kernel
theorem dX6_hunk_319 : decode cX6_hunk 319 = .ok (.aload_n 0, 1) := by decide +kernel
theorem dX6_hunk_320 : decode cX6_hunk 320 = .ok (.getfield 83, 3) := by decide +kernel
theorem dX6_hunk_323 : decode cX6_hunk 323 = .ok (.goto 5, 3) := by decide +kernel
theorem dX6_hunk_326 : decode cX6_hunk 326 = .ok (.iload 5, 2) := by decide +kernel
theorem dX6_hunk_328 : decode cX6_hunk 328 = .ok (.istore 5, 2) := by decide +kernel
theorem dX6_hunk_330 : decode cX6_hunk 330 = .ok (.aload_n 0, 1) := by decide +kernel
theorem dX6_hunk_331 : decode cX6_hunk 331 = .ok (.getfield 43, 3) := by decide +kernel
theorem dX6_hunk_334 : decode cX6_hunk 334 = .ok (.iconst 1, 1) := by decide +kernel
theorem dX6_hunk_335 : decode cX6_hunk 335 = .ok (.iload 5, 2) := by decide +kernel
theorem dX6_hunk_337 : decode cX6_hunk 337 = .ok (.aload_n 0, 1) := by decide +kernel
theorem dX6_hunk_338 : decode cX6_hunk 338 = .ok (.getfield 43, 3) := by decide +kernel
theorem dX6_hunk_341 : decode cX6_hunk 341 = .ok (.iconst 0, 1) := by decide +kernel
theorem dX6_hunk_342 : decode cX6_hunk 342 = .ok (.iaload, 1) := by decide +kernel
theorem dX6_hunk_343 : decode cX6_hunk 343 = .ok (.isub, 1) := by decide +kernel
theorem dX6_hunk_344 : decode cX6_hunk 344 = .ok (.iastore, 1) := by decide +kernel
theorem dX6_hunk_345 : decode cX6_hunk 345 = .ok (.aload_n 0, 1) := by decide +kernel
theorem dX6_hunk_346 : decode cX6_hunk 346 = .ok (.getfield 43, 3) := by decide +kernel
theorem dX6_hunk_349 : decode cX6_hunk 349 = .ok (.iload_n 3, 1) := by decide +kernel
theorem dX6_hunk_350 : decode cX6_hunk 350 = .ok (.iaload, 1) := by decide +kernel
theorem dX6_hunk_351 : decode cX6_hunk 351 = .ok (.ireturn, 1) := by decide +kernel
set_option maxRecDepth 20000 in
theorem ggX6_alike_X6_isRow : GoodIn wsX6_alike wsX6_isRow := goodIn_r _ [8] (by decide +kernel) (by decide +kernel)
set_option maxRecDepth 20000 in
theorem gX6_alike_X6_isRow : GoodIn wsX6_alike (va_wsS RX6 53 yX6_isRow wsX6_isRow) := goodIn_app (goodIn_of _ (by decide +kernel)) ggX6_alike_X6_isRow
set_option maxRecDepth 20000 in
theorem ggX6_alike_X6_fill : GoodIn wsX6_alike wsX6_fill := goodIn_r _ [12, 3, 4, 13, 14, 15, 7, 16, 17, 18, 19, 20, 21, 22, 23, 24, 25, 26, 27, 28, 29, 30, 31, 32, 33, 34, 35, 36] (by decide +kernel) (by decide +kernel)
set_option maxRecDepth 20000 in
theorem gX6_alike_X6_fill : GoodIn wsX6_alike (wsV RX6 61 RX6 yX6_fill wsX6_fill) := goodIn_app (goodIn_of _ (by decide +kernel)) ggX6_alike_X6_fill
theorem dX6_alike_0 : decode cX6_alike 0 = .ok (.aload_n 0, 1) := by decide +kernel
theorem dX6_alike_1 : decode cX6_alike 1 = .ok (.iconst 0, 1) := by decide +kernel
theorem dX6_alike_2 : decode cX6_alike 2 = .ok (.putfield 50, 3) := by decide +kernel
theorem dX6_alike_5 : decode cX6_alike 5 = .ok (.iload_n 1, 1) := by decide +kernel
theorem dX6_alike_6 : decode cX6_alike 6 = .ok (.invokestatic 53, 3) := by decide +kernel
theorem dX6_alike_9 : decode cX6_alike 9 = .ok (.ifCond .eq 10, 3) := by decide +kernel
theorem dX6_alike_12 : decode cX6_alike 12 = .ok (.iload_n 2, 1) := by decide +kernel
theorem dX6_alike_13 : decode cX6_alike 13 = .ok (.invokestatic 53, 3) := by decide +kernel
theorem dX6_alike_16 : decode cX6_alike 16 = .ok (.ifCond .ne 6, 3) := by decide +kernel
theorem dX6_alike_19 : decode cX6_alike 19 = .ok (.ldc 123, 2) := by decide +kernel
theorem dX6_alike_21 : decode cX6_alike 21 = .ok (.freturn, 1) := by decide +kernel
theorem dX6_alike_22 : decode cX6_alike 22 = .ok (.aload_n 0, 1) := by decide +kernel
theorem dX6_alike_23 : decode cX6_alike 23 = .ok (.getfield 7, 3) := by decide +kernel
theorem dX6_alike_26 : decode cX6_alike 26 = .ok (.iload_n 1, 1) := by decide +kernel
theorem dX6_alike_27 : decode cX6_alike 27 = .ok (.iaload, 1) := by decide +kernel
theorem dX6_alike_28 : decode cX6_alike 28 = .ok (.aload_n 0, 1) := by decide +kernel
theorem dX6_alike_29 : decode cX6_alike 29 = .ok (.getfield 7, 3) := by decide +kernel
theorem dX6_alike_32 : decode cX6_alike 32 = .ok (.iload_n 2, 1) := by decide +kernel
theorem dX6_alike_33 : decode cX6_alike 33 = .ok (.iaload, 1) := by decide +kernel
theorem dX6_alike_34 : decode cX6_alike 34 = .ok (.iadd, 1) := by decide +kernel
theorem dX6_alike_35 : decode cX6_alike 35 = .ok (.istore_n 3, 1) := by decide +kernel
theorem dX6_alike_36 : decode cX6_alike 36 = .ok (.aload_n 0, 1) := by decide +kernel
theorem dX6_alike_37 : decode cX6_alike 37 = .ok (.iload_n 1, 1) := by decide +kernel
theorem dX6_alike_38 : decode cX6_alike 38 = .ok (.iload_n 2, 1) := by decide +kernel
theorem dX6_alike_39 : decode cX6_alike 39 = .ok (.invokevirtual 61, 3) := by decide +kernel
theorem dX6_alike_42 : decode cX6_alike 42 = .ok (.iload_n 3, 1) := by decide +kernel
theorem dX6_alike_43 : decode cX6_alike 43 = .ok (.aload_n 0, 1) := by decide +kernel
theorem dX6_alike_44 : decode cX6_alike 44 = .ok (.getfield 34, 3) := by decide +kernel
theorem dX6_alike_47 : decode cX6_alike 47 = .ok (.iconst 0, 1) := by decide +kernel
theorem dX6_alike_48 : decode cX6_alike 48 = .ok (.iaload, 1) := by decide +kernel
theorem dX6_alike_49 : decode cX6_alike 49 = .ok (.isub, 1) := by decide +kernel
theorem dX6_alike_50 : decode cX6_alike 50 = .ok (.iconst 2, 1) := by decide +kernel
theorem dX6_alike_51 : decode cX6_alike 51 = .ok (.idiv, 1) := by decide +kernel
theorem dX6_alike_52 : decode cX6_alike 52 = .ok (.istore 4, 2) := by decide +kernel
theorem dX6_alike_54 : decode cX6_alike 54 = .ok (.iload_n 3, 1) := by decide +kernel
theorem dX6_alike_55 : decode cX6_alike 55 = .ok (.ifCond .ne 7, 3) := by decide +kernel
theorem dX6_alike_58 : decode cX6_alike 58 = .ok (.fconst 1, 1) := by decide +kernel
theorem dX6_alike_59 : decode cX6_alike 59 = .ok (.goto 11, 3) := by decide +kernel
theorem dX6_alike_62 : decode cX6_alike 62 = .ok (.iconst 2, 1) := by decide +kernel
theorem dX6_alike_63 : decode cX6_alike 63 = .ok (.iload 4, 2) := by decide +kernel
theorem dX6_alike_65 : decode cX6_alike 65 = .ok (.imul, 1) := by decide +kernel
theorem dX6_alike_66 : decode cX6_alike 66 = .ok (.i2f, 1) := by decide +kernel
theorem dX6_alike_67 : decode cX6_alike 67 = .ok (.iload_n 3, 1) := by decide +kernel
theorem dX6_alike_68 : decode cX6_alike 68 = .ok (.i2f, 1) := by decide +kernel
theorem dX6_alike_69 : decode cX6_alike 69 = .ok (.fdiv, 1) := by decide +kernel
theorem dX6_alike_70 : decode cX6_alike 70 = .ok (.freturn, 1) := by decide +kernel
theorem dJ9_max_7cf53_0 : decode cJ9_max_7cf53 0 = .ok (.iload_n 0, 1) := by decide +kernel
theorem dJ9_max_7cf53_1 : decode cJ9_max_7cf53 1 = .ok (.iload_n 1, 1) := by decide +kernel
theorem dJ9_max_7cf53_2 : decode cJ9_max_7cf53 2 = .ok (.if_icmp .lt 7, 3) := by decide +kernel
theorem dJ9_max_7cf53_5 : decode cJ9_max_7cf53 5 = .ok (.iload_n 0, 1) := by decide +kernel
theorem dJ9_max_7cf53_6 : decode cJ9_max_7cf53 6 = .ok (.goto 4, 3) := by decide +kernel
theorem dJ9_max_7cf53_9 : decode cJ9_max_7cf53 9 = .ok (.iload_n 1, 1) := by decide +kernel
theorem dJ9_max_7cf53_10 : decode cJ9_max_7cf53 10 = .ok (.ireturn, 1) := by decide +kernel
theorem dJ9_min_7cf53_0 : decode cJ9_min_7cf53 0 = .ok (.iload_n 0, 1) := by decide +kernel
theorem dJ9_min_7cf53_1 : decode cJ9_min_7cf53 1 = .ok (.iload_n 1, 1) := by decide +kernel
theorem dJ9_min_7cf53_2 : decode cJ9_min_7cf53 2 = .ok (.if_icmp .gt 7, 3) := by decide +kernel
theorem dJ9_min_7cf53_5 : decode cJ9_min_7cf53 5 = .ok (.iload_n 0, 1) := by decide +kernel
theorem dJ9_min_7cf53_6 : decode cJ9_min_7cf53 6 = .ok (.goto 4, 3) := by decide +kernel
theorem dJ9_min_7cf53_9 : decode cJ9_min_7cf53 9 = .ok (.iload_n 1, 1) := by decide +kernel
theorem dJ9_min_7cf53_10 : decode cJ9_min_7cf53 10 = .ok (.ireturn, 1) := by decide +kernel
theorem dL_cell_0 : decode cL_cell 0 = .ok (.iload_n 1, 1) := by decide +kernel
theorem dL_cell_1 : decode cL_cell 1 = .ok (.aload_n 0, 1) := by decide +kernel
theorem dL_cell_2 : decode cL_cell 2 = .ok (.arraylength, 1) := by decide +kernel
theorem dL_cell_3 : decode cL_cell 3 = .ok (.if_icmp .ge 9, 3) := by decide +kernel
theorem dL_cell_6 : decode cL_cell 6 = .ok (.aload_n 0, 1) := by decide +kernel
theorem dL_cell_7 : decode cL_cell 7 = .ok (.iload_n 1, 1) := by decide +kernel
theorem dL_cell_8 : decode cL_cell 8 = .ok (.iaload, 1) := by decide +kernel
theorem dL_cell_9 : decode cL_cell 9 = .ok (.goto 4, 3) := by decide +kernel
theorem dL_cell_12 : decode cL_cell 12 = .ok (.iconst 0, 1) := by decide +kernel
theorem dL_cell_13 : decode cL_cell 13 = .ok (.ireturn, 1) := by decide +kernel
end
section
set_option maxRecDepth 20000 in
theorem ggL_diff_X5_diff : GoodIn wsL_diff wsX5_diff := goodIn_ca (goodIn_ca (goodIn_r _ [7, 8, 9, 10, 11, 12, 13, 14, 15, 16, 17, 18, 19, 6, 20, 21, 22, 23, 24, 25, 26, 27, 28, 29, 30, 31, 32, 33, 34, 35, 36, 37, 38, 39, 40, 41, 42, 43, 44, 45, 46, 47, 48, 49, 50, 51, 52, 53, 54, 55, 56, 57, 58, 59, 60, 61, 62, 63, 64, 65, 66, 67, 68, 69, 70, 71, 72, 73, 74, 75, 76, 77, 78, 79, 80, 81, 82, 83, 84, 85, 86, 87, 88, 89, 90] (by decide +kernel) (by decide +kernel)) (goodIn_sub (fun _ h => List.mem_cons_of_mem _ (List.mem_append_left _ (List.mem_append_right _ h))) (by decide +kernel))) (goodIn_sub (fun _ h => List.mem_cons_of_mem _ (List.mem_append_right _ h)) (by decide +kernel))
set_option maxRecDepth 20000 in
theorem gL_diff_X5_diff : GoodIn wsL_diff (wsV RL 7 RX5 yX5_diff wsX5_diff) := goodIn_app (goodIn_of _ (by decide +kernel)) ggL_diff_X5_diff
theorem dL_diff_0 : decode cL_diff 0 = .ok (.aload_n 3, 1) := by decide +kernel
theorem dL_diff_1 : decode cL_diff 1 = .ok (.iconst 0, 1) := by decide +kernel
theorem dL_diff_2 : decode cL_diff 2 = .ok (.aload_n 0, 1) := by decide +kernel
theorem dL_diff_3 : decode cL_diff 3 = .ok (.iload_n 1, 1) := by decide +kernel
theorem dL_diff_4 : decode cL_diff 4 = .ok (.iload_n 2, 1) := by decide +kernel
theorem dL_diff_5 : decode cL_diff 5 = .ok (.invokevirtual 7, 3) := by decide +kernel
theorem dL_diff_8 : decode cL_diff 8 = .ok (.i2l, 1) := by decide +kernel
theorem dL_diff_9 : decode cL_diff 9 = .ok (.lastore, 1) := by decide +kernel
theorem dL_diff_10 : decode cL_diff 10 = .ok (.goto 11, 3) := by decide +kernel
theorem dL_diff_13 : decode cL_diff 13 = .ok (.astore 4, 2) := by decide +kernel
theorem dL_diff_15 : decode cL_diff 15 = .ok (.iconst 1, 1) := by decide +kernel
theorem dL_diff_16 : decode cL_diff 16 = .ok (.ireturn, 1) := by decide +kernel
theorem dL_diff_17 : decode cL_diff 17 = .ok (.astore 4, 2) := by decide +kernel
theorem dL_diff_19 : decode cL_diff 19 = .ok (.iconst 2, 1) := by decide +kernel
theorem dL_diff_20 : decode cL_diff 20 = .ok (.ireturn, 1) := by decide +kernel
theorem dL_diff_21 : decode cL_diff 21 = .ok (.iconst 0, 1) := by decide +kernel
theorem dL_diff_22 : decode cL_diff 22 = .ok (.ireturn, 1) := by decide +kernel
set_option maxRecDepth 20000 in
theorem ggL_patch_X5_patch : GoodIn wsL_patch wsX5_patch := goodIn_ca (goodIn_ca (goodIn_ca (goodIn_ca (goodIn_r _ [9, 10, 11, 12, 13, 14, 15, 16, 17, 8, 18, 19, 20, 21, 22, 23, 24, 25, 26, 27, 28, 29, 30, 31, 32, 33, 34, 35, 36, 37, 38, 39, 40, 41, 42, 43, 44, 45, 46, 47, 48, 49, 50, 51, 52, 53, 54, 55, 56, 57, 58, 59, 60, 61, 62, 63, 64, 65, 66, 67, 68, 69, 70, 71, 72, 73, 74, 75, 76, 77, 78, 79, 80, 81, 82, 83, 84, 85, 86, 87] (by decide +kernel) (by decide +kernel)) (goodIn_sub (fun _ h => List.mem_cons_of_mem _ (List.mem_append_left _ (List.mem_append_left _ (List.mem_append_left _ (List.mem_append_right _ h))))) (by decide +kernel))) (goodIn_sub (fun _ h => List.mem_cons_of_mem _ (List.mem_append_left _ (List.mem_append_left _ (List.mem_append_right _ h)))) (by decide +kernel))) (goodIn_sub (fun _ h => List.mem_cons_of_mem _ (List.mem_append_left _ (List.mem_append_right _ h))) (by decide +kernel))) (goodIn_sub (fun _ h => List.mem_cons_of_mem _ (List.mem_append_right _ h)) (by decide +kernel))
set_option maxRecDepth 20000 in
theorem gL_patch_X5_patch : GoodIn wsL_patch (wsV RL 17 RX5 yX5_patch wsX5_patch) := goodIn_app (goodIn_of _ (by decide +kernel)) ggL_patch_X5_patch
theorem dL_patch_0 : decode cL_patch 0 = .ok (.aload_n 2, 1) := by decide +kernel
theorem dL_patch_1 : decode cL_patch 1 = .ok (.iconst 0, 1) := by decide +kernel
theorem dL_patch_2 : decode cL_patch 2 = .ok (.aload_n 0, 1) := by decide +kernel
theorem dL_patch_3 : decode cL_patch 3 = .ok (.iload_n 1, 1) := by decide +kernel
theorem dL_patch_4 : decode cL_patch 4 = .ok (.invokevirtual 17, 3) := by decide +kernel
theorem dL_patch_7 : decode cL_patch 7 = .ok (.i2l, 1) := by decide +kernel
theorem dL_patch_8 : decode cL_patch 8 = .ok (.lastore, 1) := by decide +kernel
theorem dL_patch_9 : decode cL_patch 9 = .ok (.goto 15, 3) := by decide +kernel
theorem dL_patch_12 : decode cL_patch 12 = .ok (.astore_n 3, 1) := by decide +kernel
theorem dL_patch_13 : decode cL_patch 13 = .ok (.iconst 1, 1) := by decide +kernel
theorem dL_patch_14 : decode cL_patch 14 = .ok (.ireturn, 1) := by decide +kernel
theorem dL_patch_15 : decode cL_patch 15 = .ok (.astore_n 3, 1) := by decide +kernel
theorem dL_patch_16 : decode cL_patch 16 = .ok (.iconst 2, 1) := by decide +kernel
theorem dL_patch_17 : decode cL_patch 17 = .ok (.ireturn, 1) := by decide +kernel
theorem dL_patch_18 : decode cL_patch 18 = .ok (.astore_n 3, 1) := by decide +kernel
theorem dL_patch_19 : decode cL_patch 19 = .ok (.iconst 3, 1) := by decide +kernel
theorem dL_patch_20 : decode cL_patch 20 = .ok (.ireturn, 1) := by decide +kernel
theorem dL_patch_21 : decode cL_patch 21 = .ok (.astore_n 3, 1) := by decide +kernel
theorem dL_patch_22 : decode cL_patch 22 = .ok (.iconst 4, 1) := by decide +kernel
theorem dL_patch_23 : decode cL_patch 23 = .ok (.ireturn, 1) := by decide +kernel
theorem dL_patch_24 : decode cL_patch 24 = .ok (.iconst 0, 1) := by decide +kernel
theorem dL_patch_25 : decode cL_patch 25 = .ok (.ireturn, 1) := by decide +kernel
set_option maxRecDepth 20000 in
theorem ggL_law_L_cell : GoodIn wsL_law wsL_cell := goodIn_r _ [10] (by decide +kernel) (by decide +kernel)
set_option maxRecDepth 20000 in
theorem gL_law_L_cell : GoodIn wsL_law (va_wsS RL 25 yL_cell wsL_cell) := goodIn_app (goodIn_of _ (by decide +kernel)) ggL_law_L_cell
set_option maxRecDepth 20000 in
theorem ggL_law_X5_init : GoodIn wsL_law wsX5_init := goodIn_r _ [13, 14, 15, 16, 17, 18, 19, 20, 21, 22, 23, 24, 25, 26, 27, 28, 29, 30, 31, 32, 33, 34, 35, 36, 37, 38, 39, 40, 41, 42, 43, 44, 45, 46, 47, 48, 49, 50, 51, 52, 53, 54, 55, 56, 57, 58, 59, 60, 61, 62, 63, 64, 65, 66, 67, 68, 69, 70, 71, 72, 73, 74, 75, 76, 77, 78, 79, 80, 81, 82, 83, 84, 85, 86, 87, 88, 89, 90, 91, 92, 93, 475, 476, 477, 478, 479, 480, 481, 482, 483, 503, 504, 505, 506, 507, 508, 509, 510, 511, 512, 513, 514, 515, 516, 517, 518, 519, 520, 521, 522] (by decide +kernel) (by decide +kernel)
set_option maxRecDepth 20000 in
theorem gL_law_X5_init : GoodIn wsL_law (wsX5_init) := ggL_law_X5_init
set_option maxRecDepth 20000 in
theorem ggL_law_X6_init : GoodIn wsL_law wsX6_init := goodIn_r _ [96, 97, 15, 16, 49, 98, 99, 100, 101, 102, 103, 104, 105, 106, 107, 108, 109, 110, 484, 485, 486, 487, 488, 489, 490, 491, 492, 493, 494, 495, 496, 497, 498, 499, 500, 501, 502] (by decide +kernel) (by decide +kernel)
set_option maxRecDepth 20000 in
theorem gL_law_X6_init : GoodIn wsL_law (wsX6_init) := ggL_law_X6_init
set_option maxRecDepth 20000 in
theorem ggL_law_X5_feed : GoodIn wsL_law wsX5_feed := goodIn_r _ [114, 26, 115, 116, 2, 117, 118, 119, 120, 121, 122, 123, 28, 124, 51, 50, 475, 476, 477, 478, 479, 480, 481, 482, 483, 503, 504] (by decide +kernel) (by decide +kernel)
set_option maxRecDepth 20000 in
theorem gL_law_X5_feed : GoodIn wsL_law (wsV RL 37 RX5 yX5_feed wsX5_feed) := goodIn_app (goodIn_of _ (by decide +kernel)) ggL_law_X5_feed
set_option maxRecDepth 20000 in
theorem ggL_law_X6_feed : GoodIn wsL_law wsX6_feed := goodIn_r _ [128, 129, 98, 99, 130, 131, 5, 132, 484, 485, 486, 487, 488, 489, 490, 491, 492, 493, 494, 495, 496, 497, 498, 499, 500, 501, 502] (by decide +kernel) (by decide +kernel)
set_option maxRecDepth 20000 in
theorem gL_law_X6_feed : GoodIn wsL_law (wsV RL 41 RX6 yX6_feed wsX6_feed) := goodIn_app (goodIn_of _ (by decide +kernel)) ggL_law_X6_feed
set_option maxRecDepth 20000 in
theorem ggL_law_X5_clear : GoodIn wsL_law wsX5_clear := goodIn_r _ [136, 26, 115, 116, 2, 117, 137, 138, 139, 28, 140, 51, 475, 476, 477, 478, 479, 480, 481, 482, 483, 503, 504] (by decide +kernel) (by decide +kernel)
set_option maxRecDepth 20000 in
theorem gL_law_X5_clear : GoodIn wsL_law (wsV RL 42 RX5 yX5_clear wsX5_clear) := goodIn_app (goodIn_of _ (by decide +kernel)) ggL_law_X5_clear
set_option maxRecDepth 20000 in
theorem ggL_law_X6_clear : GoodIn wsL_law wsX6_clear := goodIn_r _ [144, 129, 98, 130, 131, 5, 132, 484, 485, 486, 487, 488, 489, 490, 491, 492, 493, 494, 495, 496, 497, 498, 499, 500, 501, 502] (by decide +kernel) (by decide +kernel)
set_option maxRecDepth 20000 in
theorem gL_law_X6_clear : GoodIn wsL_law (wsV RL 46 RX6 yX6_clear wsX6_clear) := goodIn_app (goodIn_of _ (by decide +kernel)) ggL_law_X6_clear
set_option maxRecDepth 20000 in
theorem ggL_law_X5_size : GoodIn wsL_law wsX5_size := goodIn_r _ [148, 26, 115, 116, 2, 117, 475, 476, 477, 478, 479, 480, 481, 482, 483, 503, 504] (by decide +kernel) (by decide +kernel)
set_option maxRecDepth 20000 in
theorem gL_law_X5_size : GoodIn wsL_law (wsV RL 47 RX5 yX5_size wsX5_size) := goodIn_app (goodIn_of _ (by decide +kernel)) ggL_law_X5_size
set_option maxRecDepth 20000 in
theorem ggL_law_X6_size : GoodIn wsL_law wsX6_size := goodIn_r _ [152, 129, 98, 130, 131, 5, 132, 484, 485, 486, 487, 488, 489, 490, 491, 492, 493, 494, 495, 496, 497, 498, 499, 500, 501, 502] (by decide +kernel) (by decide +kernel)
set_option maxRecDepth 20000 in
theorem gL_law_X6_size : GoodIn wsL_law (wsV RL 50 RX6 yX6_size wsX6_size) := goodIn_app (goodIn_of _ (by decide +kernel)) ggL_law_X6_size
set_option maxRecDepth 20000 in
theorem ggL_law_X5_symbol : GoodIn wsL_law wsX5_symbol := goodIn_r _ [156, 26, 115, 116, 2, 117, 157, 158, 159, 28, 160, 51, 50, 475, 476, 477, 478, 479, 480, 481, 482, 483, 503, 504] (by decide +kernel) (by decide +kernel)
set_option maxRecDepth 20000 in
theorem gL_law_X5_symbol : GoodIn wsL_law (wsV RL 51 RX5 yX5_symbol wsX5_symbol) := goodIn_app (goodIn_of _ (by decide +kernel)) ggL_law_X5_symbol
set_option maxRecDepth 20000 in
theorem ggL_law_X6_symbol : GoodIn wsL_law wsX6_symbol := goodIn_r _ [164, 129, 98, 99, 130, 131, 5, 132, 484, 485, 486, 487, 488, 489, 490, 491, 492, 493, 494, 495, 496, 497, 498, 499, 500, 501, 502] (by decide +kernel) (by decide +kernel)
set_option maxRecDepth 20000 in
theorem gL_law_X6_symbol : GoodIn wsL_law (wsV RL 55 RX6 yX6_symbol wsX6_symbol) := goodIn_app (goodIn_of _ (by decide +kernel)) ggL_law_X6_symbol
set_option maxRecDepth 20000 in
theorem ggL_law_L_diff : GoodIn wsL_law wsL_diff := goodIn_ca (goodIn_ca (goodIn_r _ [167, 168, 169, 170, 171, 172, 2, 173, 174, 175, 176, 177, 38, 26, 24, 32, 33, 34, 115, 116, 117, 178, 179, 180, 37, 181, 67, 68, 65, 182, 183, 184, 185, 186, 18, 19, 20, 187, 188, 189, 190, 191, 192, 193, 194, 195, 196, 197, 198, 199, 200, 201, 31, 202, 59, 203, 204, 205, 206, 207, 158, 159, 28, 160, 51, 50, 208, 209, 210, 211, 56, 57, 58, 475, 476, 477, 478, 479, 480, 481, 482, 483, 503, 504, 505, 506, 507, 508, 509, 510, 511] (by decide +kernel) (by decide +kernel)) (goodIn_sub (fun _ h => List.mem_append_left _ (List.mem_append_left _ (List.mem_append_left _ (List.mem_append_right _ h)))) (by decide +kernel))) (goodIn_sub (fun _ h => List.mem_append_left _ (List.mem_append_left _ (List.mem_append_right _ h))) (by decide +kernel))
set_option maxRecDepth 20000 in
theorem gL_law_L_diff : GoodIn wsL_law (va_wsS RL 56 yL_diff wsL_diff) := goodIn_app (goodIn_of _ (by decide +kernel)) ggL_law_L_diff
set_option maxRecDepth 20000 in
theorem ggL_law_X6_diff : GoodIn wsL_law wsX6_diff := goodIn_r _ [215, 106, 110, 129, 216, 98, 99, 217, 218, 219, 103, 100, 104, 101, 130, 131, 5, 132, 220, 221, 222, 223, 224, 225, 226, 227, 228, 229, 230, 231, 232, 233, 234, 235, 102, 484, 485, 486, 487, 488, 489, 490, 491, 492, 493, 494, 495, 496, 497, 498, 499, 500, 501, 502] (by decide +kernel) (by decide +kernel)
set_option maxRecDepth 20000 in
theorem gL_law_X6_diff : GoodIn wsL_law (wsV RL 59 RX6 yX6_diff wsX6_diff) := goodIn_app (goodIn_of _ (by decide +kernel)) ggL_law_X6_diff
set_option maxRecDepth 20000 in
theorem ggL_law_X6_thrown : GoodIn wsL_law wsX6_thrown := goodIn_r _ [239, 129, 484, 485, 486, 487, 488, 489, 490, 491, 492, 493, 494, 495, 496, 497, 498, 499, 500, 501, 502] (by decide +kernel) (by decide +kernel)
set_option maxRecDepth 20000 in
theorem gL_law_X6_thrown : GoodIn wsL_law (wsV RL 60 RX6 yX6_thrown wsX6_thrown) := goodIn_app (goodIn_of _ (by decide +kernel)) ggL_law_X6_thrown
set_option maxRecDepth 20000 in
theorem ggL_law_X5_operation : GoodIn wsL_law wsX5_operation := goodIn_r _ [243, 32, 244, 245, 246, 31, 247, 59, 475, 476, 477, 478, 479, 480, 481, 482, 483, 505, 506, 507, 508] (by decide +kernel) (by decide +kernel)
set_option maxRecDepth 20000 in
theorem gL_law_X5_operation : GoodIn wsL_law (wsV RL 64 RX5 yX5_operation wsX5_operation) := goodIn_app (goodIn_of _ (by decide +kernel)) ggL_law_X5_operation
set_option maxRecDepth 20000 in
theorem ggL_law_X6_operation : GoodIn wsL_law wsX6_operation := goodIn_r _ [251, 129, 216, 100, 101, 102, 484, 485, 486, 487, 488, 489, 490, 491, 492, 493, 494, 495, 496, 497, 498, 499, 500, 501, 502] (by decide +kernel) (by decide +kernel)
set_option maxRecDepth 20000 in
theorem gL_law_X6_operation : GoodIn wsL_law (wsV RL 67 RX6 yX6_operation wsX6_operation) := goodIn_app (goodIn_of _ (by decide +kernel)) ggL_law_X6_operation
set_option maxRecDepth 20000 in
theorem ggL_law_X5_forget : GoodIn wsL_law wsX5_forget := goodIn_r _ [255, 32, 256, 200, 201, 31, 202, 59, 475, 476, 477, 478, 479, 480, 481, 482, 483, 505, 506, 507, 508] (by decide +kernel) (by decide +kernel)
set_option maxRecDepth 20000 in
theorem gL_law_X5_forget : GoodIn wsL_law (wsV RL 68 RX5 yX5_forget wsX5_forget) := goodIn_app (goodIn_of _ (by decide +kernel)) ggL_law_X5_forget
set_option maxRecDepth 20000 in
theorem ggL_law_X6_forget : GoodIn wsL_law wsX6_forget := goodIn_r _ [260, 129, 216, 484, 485, 486, 487, 488, 489, 490, 491, 492, 493, 494, 495, 496, 497, 498, 499, 500, 501, 502] (by decide +kernel) (by decide +kernel)
set_option maxRecDepth 20000 in
theorem gL_law_X6_forget : GoodIn wsL_law (wsV RL 71 RX6 yX6_forget wsX6_forget) := goodIn_app (goodIn_of _ (by decide +kernel)) ggL_law_X6_forget
set_option maxRecDepth 20000 in
theorem ggL_law_X5_load : GoodIn wsL_law wsX5_load := goodIn_r _ [264, 32, 265, 209, 210, 31, 211, 59, 56, 57, 58, 475, 476, 477, 478, 479, 480, 481, 482, 483, 505, 506, 507, 508] (by decide +kernel) (by decide +kernel)
set_option maxRecDepth 20000 in
theorem gL_law_X5_load : GoodIn wsL_law (wsV RL 72 RX5 yX5_load wsX5_load) := goodIn_app (goodIn_of _ (by decide +kernel)) ggL_law_X5_load
set_option maxRecDepth 20000 in
theorem ggL_law_X6_load : GoodIn wsL_law wsX6_load := goodIn_r _ [269, 129, 216, 232, 233, 234, 5, 235, 100, 101, 102, 484, 485, 486, 487, 488, 489, 490, 491, 492, 493, 494, 495, 496, 497, 498, 499, 500, 501, 502] (by decide +kernel) (by decide +kernel)
set_option maxRecDepth 20000 in
theorem gL_law_X6_load : GoodIn wsL_law (wsV RL 76 RX6 yX6_load wsX6_load) := goodIn_app (goodIn_of _ (by decide +kernel)) ggL_law_X6_load
set_option maxRecDepth 20000 in
theorem ggL_law_L_patch : GoodIn wsL_law wsL_patch := goodIn_ca (goodIn_ca (goodIn_ca (goodIn_ca (goodIn_r _ [272, 168, 273, 169, 274, 275, 276, 277, 2, 278, 174, 175, 26, 44, 32, 43, 115, 116, 117, 137, 138, 139, 28, 140, 51, 279, 280, 281, 282, 283, 284, 176, 177, 118, 119, 120, 285, 286, 287, 31, 288, 56, 57, 289, 245, 246, 247, 59, 157, 158, 159, 160, 50, 290, 291, 292, 293, 294, 295, 296, 297, 298, 299, 300, 301, 122, 123, 124, 121, 302, 303, 304, 305, 475, 476, 477, 478, 479, 480, 481, 482, 483, 505, 506, 507, 508, 503, 504] (by decide +kernel) (by decide +kernel)) (goodIn_sub (fun _ h => List.mem_append_left _ (List.mem_append_left _ (List.mem_append_left _ (List.mem_append_right _ h)))) (by decide +kernel))) (goodIn_sub (fun _ h => List.mem_append_left _ (List.mem_append_right _ h)) (by decide +kernel))) (goodIn_sub (fun _ h => List.mem_append_left _ (List.mem_append_left _ (List.mem_append_right _ h))) (by decide +kernel))) (goodIn_sub (fun _ h => List.mem_append_right _ h) (by decide +kernel))
set_option maxRecDepth 20000 in
theorem gL_law_L_patch : GoodIn wsL_law (va_wsS RL 77 yL_patch wsL_patch) := goodIn_app (goodIn_of _ (by decide +kernel)) ggL_law_L_patch
set_option maxRecDepth 20000 in
theorem ggL_law_X6_patch : GoodIn wsL_law wsX6_patch := goodIn_r _ [309, 129, 310, 98, 216, 101, 100, 102, 99, 130, 131, 5, 132, 311, 312, 313, 314, 315, 316, 317, 318, 319, 320, 321, 322, 105, 484, 485, 486, 487, 488, 489, 490, 491, 492, 493, 494, 495, 496, 497, 498, 499, 500, 501, 502] (by decide +kernel) (by decide +kernel)
set_option maxRecDepth 20000 in
theorem gL_law_X6_patch : GoodIn wsL_law (wsV RL 80 RX6 yX6_patch wsX6_patch) := goodIn_app (goodIn_of _ (by decide +kernel)) ggL_law_X6_patch
set_option maxRecDepth 20000 in
theorem ggL_law_X5_merge : GoodIn wsL_law wsX5_merge := goodIn_r _ [326, 43, 42, 38, 137, 138, 139, 28, 140, 51, 327, 328, 329, 41, 330, 74, 75, 78, 76, 79, 83, 84, 85, 331, 179, 180, 37, 181, 67, 68, 65, 182, 183, 184, 185, 186, 18, 19, 20, 187, 188, 189, 190, 332, 333, 334, 335, 336, 203, 204, 205, 206, 337, 122, 123, 124, 50, 338, 339, 340, 82, 341, 92, 93, 342, 343, 344, 345, 346, 158, 159, 160, 347, 348, 349, 350, 351, 352, 353, 354, 355, 356, 357, 358, 359, 360, 361, 362, 91, 363, 364, 365, 366, 367, 368, 297, 298, 299, 300, 301, 369, 370, 371, 372, 373, 374, 375, 376, 377, 475, 476, 477, 478, 479, 480, 481, 482, 483, 503, 504, 512, 513, 514, 515, 516, 517, 518, 519, 509, 510, 511, 520, 521, 522] (by decide +kernel) (by decide +kernel)
set_option maxRecDepth 20000 in
theorem gL_law_X5_merge : GoodIn wsL_law (wsV RL 81 RX5 yX5_merge wsX5_merge) := goodIn_app (goodIn_of _ (by decide +kernel)) ggL_law_X5_merge
set_option maxRecDepth 20000 in
theorem ggL_law_X6_merge : GoodIn wsL_law wsX6_merge := goodIn_r _ [381, 129, 107, 108, 310, 98, 99, 382, 383, 384, 5, 385, 220, 221, 222, 223, 106, 224, 225, 226, 227, 228, 229, 230, 231, 386, 387, 388, 389, 390, 391, 392, 393, 394, 395, 396, 397, 319, 320, 321, 322, 105, 484, 485, 486, 487, 488, 489, 490, 491, 492, 493, 494, 495, 496, 497, 498, 499, 500, 501, 502] (by decide +kernel) (by decide +kernel)
set_option maxRecDepth 20000 in
theorem gL_law_X6_merge : GoodIn wsL_law (wsV RL 84 RX6 yX6_merge wsX6_merge) := goodIn_app (goodIn_of _ (by decide +kernel)) ggL_law_X6_merge
set_option maxRecDepth 20000 in
theorem ggL_law_X5_result : GoodIn wsL_law wsX5_result := goodIn_r _ [401, 43, 157, 158, 159, 28, 160, 51, 50, 475, 476, 477, 478, 479, 480, 481, 482, 483, 503, 504] (by decide +kernel) (by decide +kernel)
set_option maxRecDepth 20000 in
theorem gL_law_X5_result : GoodIn wsL_law (wsV RL 85 RX5 yX5_result wsX5_result) := goodIn_app (goodIn_of _ (by decide +kernel)) ggL_law_X5_result
set_option maxRecDepth 20000 in
theorem ggL_law_X6_result : GoodIn wsL_law wsX6_result := goodIn_r _ [405, 129, 310, 105, 484, 485, 486, 487, 488, 489, 490, 491, 492, 493, 494, 495, 496, 497, 498, 499, 500, 501, 502] (by decide +kernel) (by decide +kernel)
set_option maxRecDepth 20000 in
theorem gL_law_X6_result : GoodIn wsL_law (wsV RL 88 RX6 yX6_result wsX6_result) := goodIn_app (goodIn_of _ (by decide +kernel)) ggL_law_X6_result
set_option maxRecDepth 20000 in
theorem ggL_law_X5_results : GoodIn wsL_law wsX5_results := goodIn_r _ [409, 43, 475, 476, 477, 478, 479, 480, 481, 482, 483, 503, 504] (by decide +kernel) (by decide +kernel)
set_option maxRecDepth 20000 in
theorem gL_law_X5_results : GoodIn wsL_law (wsV RL 89 RX5 yX5_results wsX5_results) := goodIn_app (goodIn_of _ (by decide +kernel)) ggL_law_X5_results
set_option maxRecDepth 20000 in
theorem ggL_law_X6_results : GoodIn wsL_law wsX6_results := goodIn_r _ [413, 129, 310, 484, 485, 486, 487, 488, 489, 490, 491, 492, 493, 494, 495, 496, 497, 498, 499, 500, 501, 502] (by decide +kernel) (by decide +kernel)
set_option maxRecDepth 20000 in
theorem gL_law_X6_results : GoodIn wsL_law (wsV RL 92 RX6 yX6_results wsX6_results) := goodIn_app (goodIn_of _ (by decide +kernel)) ggL_law_X6_results
set_option maxRecDepth 20000 in
theorem ggL_law_X5_hunks : GoodIn wsL_law wsX5_hunks := goodIn_r _ [417, 33, 418, 419, 2, 420, 421, 422, 423, 31, 424, 425, 426, 427, 428, 57, 289, 245, 246, 247, 59, 429, 286, 287, 288, 56, 475, 476, 477, 478, 479, 480, 481, 482, 483, 505, 506, 507, 508] (by decide +kernel) (by decide +kernel)
set_option maxRecDepth 20000 in
theorem gL_law_X5_hunks : GoodIn wsL_law (wsV RL 93 RX5 yX5_hunks wsX5_hunks) := goodIn_app (goodIn_of _ (by decide +kernel)) ggL_law_X5_hunks
set_option maxRecDepth 20000 in
theorem ggL_law_X6_hunks : GoodIn wsL_law wsX6_hunks := goodIn_r _ [433, 129, 217, 434, 435, 436, 5, 437, 218, 438, 439, 440, 441, 104, 103, 484, 485, 486, 487, 488, 489, 490, 491, 492, 493, 494, 495, 496, 497, 498, 499, 500, 501, 502] (by decide +kernel) (by decide +kernel)
set_option maxRecDepth 20000 in
theorem gL_law_X6_hunks : GoodIn wsL_law (wsV RL 96 RX6 yX6_hunks wsX6_hunks) := goodIn_app (goodIn_of _ (by decide +kernel)) ggL_law_X6_hunks
set_option maxRecDepth 20000 in
theorem ggL_law_X5_hunk : GoodIn wsL_law wsX5_hunk := goodIn_r _ [445, 33, 21, 22, 19, 23, 34, 17, 18, 20, 446, 415, 416, 2, 417, 418, 419, 420, 421, 422, 423, 31, 424, 425, 426, 427, 428, 57, 289, 245, 246, 247, 59, 429, 286, 287, 288, 56, 447, 448, 449, 450, 451, 452, 453, 454, 455, 456, 285, 457, 458, 459, 460, 475, 476, 477, 478, 479, 480, 481, 482, 483, 505, 506, 507, 508] (by decide +kernel) (by decide +kernel)
set_option maxRecDepth 20000 in
theorem gL_law_X5_hunk : GoodIn wsL_law (wsV RL 97 RX5 yX5_hunk wsX5_hunk) := goodIn_app (goodIn_of _ (by decide +kernel)) ggL_law_X5_hunk
set_option maxRecDepth 20000 in
theorem ggL_law_X6_hunk : GoodIn wsL_law wsX6_hunk := goodIn_r _ [464, 129, 217, 109, 218, 104, 103, 219, 434, 435, 436, 5, 437, 438, 439, 440, 441, 484, 485, 486, 487, 488, 489, 490, 491, 492, 493, 494, 495, 496, 497, 498, 499, 500, 501, 502] (by decide +kernel) (by decide +kernel)
set_option maxRecDepth 20000 in
theorem gL_law_X6_hunk : GoodIn wsL_law (wsV RL 101 RX6 yX6_hunk wsX6_hunk) := goodIn_app (goodIn_of _ (by decide +kernel)) ggL_law_X6_hunk
set_option maxRecDepth 20000 in
theorem ggL_law_X5_alike : GoodIn wsL_law wsX5_alike := goodIn_r _ [468, 469, 26, 38, 115, 116, 2, 117, 178, 179, 180, 37, 181, 67, 68, 65, 182, 183, 184, 185, 186, 18, 19, 20, 187, 188, 189, 190, 191, 192, 193, 194, 475, 476, 477, 478, 479, 480, 481, 482, 483, 503, 504, 509, 510, 511] (by decide +kernel) (by decide +kernel)
set_option maxRecDepth 20000 in
theorem gL_law_X5_alike : GoodIn wsL_law (wsV RL 102 RX5 yX5_alike wsX5_alike) := goodIn_app (goodIn_of _ (by decide +kernel)) ggL_law_X5_alike
set_option maxRecDepth 20000 in
theorem ggL_law_X6_alike : GoodIn wsL_law wsX6_alike := goodIn_r _ [473, 129, 474, 98, 106, 130, 131, 5, 132, 220, 221, 222, 223, 224, 225, 226, 227, 99, 484, 485, 486, 487, 488, 489, 490, 491, 492, 493, 494, 495, 496, 497, 498, 499, 500, 501, 502] (by decide +kernel) (by decide +kernel)
set_option maxRecDepth 20000 in
theorem gL_law_X6_alike : GoodIn wsL_law (wsV RL 106 RX6 yX6_alike wsX6_alike) := goodIn_app (goodIn_of _ (by decide +kernel)) ggL_law_X6_alike
theorem dL_law_0 : decode cL_law 0 = .ok (.new 8, 3) := by decide +kernel
theorem dL_law_3 : decode cL_law 3 = .ok (.dup, 1) := by decide +kernel
theorem dL_law_4 : decode cL_law 4 = .ok (.aload_n 0, 1) := by decide +kernel
theorem dL_law_5 : decode cL_law 5 = .ok (.iconst 0, 1) := by decide +kernel
theorem dL_law_6 : decode cL_law 6 = .ok (.invokestatic 25, 3) := by decide +kernel
theorem dL_law_9 : decode cL_law 9 = .ok (.invokespecial 31, 3) := by decide +kernel
theorem dL_law_12 : decode cL_law 12 = .ok (.astore_n 1, 1) := by decide +kernel
theorem dL_law_13 : decode cL_law 13 = .ok (.new 34, 3) := by decide +kernel
theorem dL_law_16 : decode cL_law 16 = .ok (.dup, 1) := by decide +kernel
theorem dL_law_17 : decode cL_law 17 = .ok (.aload_n 0, 1) := by decide +kernel
theorem dL_law_18 : decode cL_law 18 = .ok (.iconst 0, 1) := by decide +kernel
theorem dL_law_19 : decode cL_law 19 = .ok (.invokestatic 25, 3) := by decide +kernel
theorem dL_law_22 : decode cL_law 22 = .ok (.invokespecial 36, 3) := by decide +kernel
theorem dL_law_25 : decode cL_law 25 = .ok (.astore_n 2, 1) := by decide +kernel
theorem dL_law_26 : decode cL_law 26 = .ok (.iconst 1, 1) := by decide +kernel
theorem dL_law_27 : decode cL_law 27 = .ok (.newarray .long, 2) := by decide +kernel
theorem dL_law_29 : decode cL_law 29 = .ok (.astore_n 3, 1) := by decide +kernel
theorem dL_law_30 : decode cL_law 30 = .ok (.iconst 1, 1) := by decide +kernel
theorem dL_law_31 : decode cL_law 31 = .ok (.istore 4, 2) := by decide +kernel
theorem dL_law_33 : decode cL_law 33 = .ok (.iload 4, 2) := by decide +kernel
theorem dL_law_35 : decode cL_law 35 = .ok (.aload_n 0, 1) := by decide +kernel
theorem dL_law_36 : decode cL_law 36 = .ok (.arraylength, 1) := by decide +kernel
theorem dL_law_37 : decode cL_law 37 = .ok (.iconst 4, 1) := by decide +kernel
theorem dL_law_38 : decode cL_law 38 = .ok (.isub, 1) := by decide +kernel
theorem dL_law_39 : decode cL_law 39 = .ok (.if_icmp .gt 630, 3) := by decide +kernel
theorem dL_law_42 : decode cL_law 42 = .ok (.aload_n 0, 1) := by decide +kernel
theorem dL_law_43 : decode cL_law 43 = .ok (.iload 4, 2) := by decide +kernel
theorem dL_law_45 : decode cL_law 45 = .ok (.iaload, 1) := by decide +kernel
theorem dL_law_46 : decode cL_law 46 = .ok (.bipush 15, 2) := by decide +kernel
theorem dL_law_48 : decode cL_law 48 = .ok (.iand, 1) := by decide +kernel
theorem dL_law_49 : decode cL_law 49 = .ok (.tableswitch 614 0 14 #[75, 114, 139, 164, 201, 269, 306, 317, 366, 422, 435, 460, 473, 498, 547], 75) := by decide +kernel
theorem dL_law_124 : decode cL_law 124 = .ok (.aload_n 1, 1) := by decide +kernel
theorem dL_law_125 : decode cL_law 125 = .ok (.aload_n 0, 1) := by decide +kernel
theorem dL_law_126 : decode cL_law 126 = .ok (.iload 4, 2) := by decide +kernel
theorem dL_law_128 : decode cL_law 128 = .ok (.iconst 1, 1) := by decide +kernel
theorem dL_law_129 : decode cL_law 129 = .ok (.iadd, 1) := by decide +kernel
theorem dL_law_130 : decode cL_law 130 = .ok (.iaload, 1) := by decide +kernel
theorem dL_law_131 : decode cL_law 131 = .ok (.aload_n 0, 1) := by decide +kernel
theorem dL_law_132 : decode cL_law 132 = .ok (.iload 4, 2) := by decide +kernel
theorem dL_law_134 : decode cL_law 134 = .ok (.iconst 2, 1) := by decide +kernel
theorem dL_law_135 : decode cL_law 135 = .ok (.iadd, 1) := by decide +kernel
theorem dL_law_136 : decode cL_law 136 = .ok (.iaload, 1) := by decide +kernel
theorem dL_law_137 : decode cL_law 137 = .ok (.i2s, 1) := by decide +kernel
theorem dL_law_138 : decode cL_law 138 = .ok (.invokevirtual 37, 3) := by decide +kernel
theorem dL_law_141 : decode cL_law 141 = .ok (.aload_n 2, 1) := by decide +kernel
theorem dL_law_142 : decode cL_law 142 = .ok (.aload_n 0, 1) := by decide +kernel
theorem dL_law_143 : decode cL_law 143 = .ok (.iload 4, 2) := by decide +kernel
theorem dL_law_145 : decode cL_law 145 = .ok (.iconst 1, 1) := by decide +kernel
theorem dL_law_146 : decode cL_law 146 = .ok (.iadd, 1) := by decide +kernel
theorem dL_law_147 : decode cL_law 147 = .ok (.iaload, 1) := by decide +kernel
theorem dL_law_148 : decode cL_law 148 = .ok (.aload_n 0, 1) := by decide +kernel
theorem dL_law_149 : decode cL_law 149 = .ok (.iload 4, 2) := by decide +kernel
theorem dL_law_151 : decode cL_law 151 = .ok (.iconst 2, 1) := by decide +kernel
theorem dL_law_152 : decode cL_law 152 = .ok (.iadd, 1) := by decide +kernel
theorem dL_law_153 : decode cL_law 153 = .ok (.iaload, 1) := by decide +kernel
theorem dL_law_154 : decode cL_law 154 = .ok (.i2s, 1) := by decide +kernel
theorem dL_law_155 : decode cL_law 155 = .ok (.invokevirtual 41, 3) := by decide +kernel
theorem dL_law_158 : decode cL_law 158 = .ok (.if_icmp .eq 505, 3) := by decide +kernel
theorem dL_law_161 : decode cL_law 161 = .ok (.iconst 0, 1) := by decide +kernel
theorem dL_law_162 : decode cL_law 162 = .ok (.ireturn, 1) := by decide +kernel
theorem dL_law_163 : decode cL_law 163 = .ok (.aload_n 1, 1) := by decide +kernel
theorem dL_law_164 : decode cL_law 164 = .ok (.aload_n 0, 1) := by decide +kernel
theorem dL_law_165 : decode cL_law 165 = .ok (.iload 4, 2) := by decide +kernel
theorem dL_law_167 : decode cL_law 167 = .ok (.iconst 1, 1) := by decide +kernel
theorem dL_law_168 : decode cL_law 168 = .ok (.iadd, 1) := by decide +kernel
theorem dL_law_169 : decode cL_law 169 = .ok (.iaload, 1) := by decide +kernel
theorem dL_law_170 : decode cL_law 170 = .ok (.invokevirtual 42, 3) := by decide +kernel
theorem dL_law_173 : decode cL_law 173 = .ok (.aload_n 2, 1) := by decide +kernel
theorem dL_law_174 : decode cL_law 174 = .ok (.aload_n 0, 1) := by decide +kernel
theorem dL_law_175 : decode cL_law 175 = .ok (.iload 4, 2) := by decide +kernel
theorem dL_law_177 : decode cL_law 177 = .ok (.iconst 1, 1) := by decide +kernel
theorem dL_law_178 : decode cL_law 178 = .ok (.iadd, 1) := by decide +kernel
theorem dL_law_179 : decode cL_law 179 = .ok (.iaload, 1) := by decide +kernel
theorem dL_law_180 : decode cL_law 180 = .ok (.invokevirtual 46, 3) := by decide +kernel
theorem dL_law_183 : decode cL_law 183 = .ok (.if_icmp .eq 480, 3) := by decide +kernel
theorem dL_law_186 : decode cL_law 186 = .ok (.iconst 0, 1) := by decide +kernel
theorem dL_law_187 : decode cL_law 187 = .ok (.ireturn, 1) := by decide +kernel
theorem dL_law_188 : decode cL_law 188 = .ok (.aload_n 1, 1) := by decide +kernel
theorem dL_law_189 : decode cL_law 189 = .ok (.aload_n 0, 1) := by decide +kernel
theorem dL_law_190 : decode cL_law 190 = .ok (.iload 4, 2) := by decide +kernel
theorem dL_law_192 : decode cL_law 192 = .ok (.iconst 1, 1) := by decide +kernel
theorem dL_law_193 : decode cL_law 193 = .ok (.iadd, 1) := by decide +kernel
theorem dL_law_194 : decode cL_law 194 = .ok (.iaload, 1) := by decide +kernel
theorem dL_law_195 : decode cL_law 195 = .ok (.invokevirtual 47, 3) := by decide +kernel
theorem dL_law_198 : decode cL_law 198 = .ok (.aload_n 2, 1) := by decide +kernel
theorem dL_law_199 : decode cL_law 199 = .ok (.aload_n 0, 1) := by decide +kernel
theorem dL_law_200 : decode cL_law 200 = .ok (.iload 4, 2) := by decide +kernel
theorem dL_law_202 : decode cL_law 202 = .ok (.iconst 1, 1) := by decide +kernel
theorem dL_law_203 : decode cL_law 203 = .ok (.iadd, 1) := by decide +kernel
theorem dL_law_204 : decode cL_law 204 = .ok (.iaload, 1) := by decide +kernel
theorem dL_law_205 : decode cL_law 205 = .ok (.invokevirtual 50, 3) := by decide +kernel
theorem dL_law_208 : decode cL_law 208 = .ok (.if_icmp .eq 455, 3) := by decide +kernel
theorem dL_law_211 : decode cL_law 211 = .ok (.iconst 0, 1) := by decide +kernel
theorem dL_law_212 : decode cL_law 212 = .ok (.ireturn, 1) := by decide +kernel
theorem dL_law_213 : decode cL_law 213 = .ok (.aload_n 1, 1) := by decide +kernel
theorem dL_law_214 : decode cL_law 214 = .ok (.aload_n 0, 1) := by decide +kernel
theorem dL_law_215 : decode cL_law 215 = .ok (.iload 4, 2) := by decide +kernel
theorem dL_law_217 : decode cL_law 217 = .ok (.iconst 1, 1) := by decide +kernel
theorem dL_law_218 : decode cL_law 218 = .ok (.iadd, 1) := by decide +kernel
theorem dL_law_219 : decode cL_law 219 = .ok (.iaload, 1) := by decide +kernel
theorem dL_law_220 : decode cL_law 220 = .ok (.aload_n 0, 1) := by decide +kernel
theorem dL_law_221 : decode cL_law 221 = .ok (.iload 4, 2) := by decide +kernel
theorem dL_law_223 : decode cL_law 223 = .ok (.iconst 2, 1) := by decide +kernel
theorem dL_law_224 : decode cL_law 224 = .ok (.iadd, 1) := by decide +kernel
theorem dL_law_225 : decode cL_law 225 = .ok (.iaload, 1) := by decide +kernel
theorem dL_law_226 : decode cL_law 226 = .ok (.invokevirtual 51, 3) := by decide +kernel
theorem dL_law_229 : decode cL_law 229 = .ok (.aload_n 2, 1) := by decide +kernel
theorem dL_law_230 : decode cL_law 230 = .ok (.aload_n 0, 1) := by decide +kernel
theorem dL_law_231 : decode cL_law 231 = .ok (.iload 4, 2) := by decide +kernel
theorem dL_law_233 : decode cL_law 233 = .ok (.iconst 1, 1) := by decide +kernel
theorem dL_law_234 : decode cL_law 234 = .ok (.iadd, 1) := by decide +kernel
theorem dL_law_235 : decode cL_law 235 = .ok (.iaload, 1) := by decide +kernel
theorem dL_law_236 : decode cL_law 236 = .ok (.aload_n 0, 1) := by decide +kernel
theorem dL_law_237 : decode cL_law 237 = .ok (.iload 4, 2) := by decide +kernel
theorem dL_law_239 : decode cL_law 239 = .ok (.iconst 2, 1) := by decide +kernel
theorem dL_law_240 : decode cL_law 240 = .ok (.iadd, 1) := by decide +kernel
theorem dL_law_241 : decode cL_law 241 = .ok (.iaload, 1) := by decide +kernel
theorem dL_law_242 : decode cL_law 242 = .ok (.invokevirtual 55, 3) := by decide +kernel
theorem dL_law_245 : decode cL_law 245 = .ok (.if_icmp .eq 418, 3) := by decide +kernel
theorem dL_law_248 : decode cL_law 248 = .ok (.iconst 0, 1) := by decide +kernel
theorem dL_law_249 : decode cL_law 249 = .ok (.ireturn, 1) := by decide +kernel
theorem dL_law_250 : decode cL_law 250 = .ok (.aload_n 1, 1) := by decide +kernel
theorem dL_law_251 : decode cL_law 251 = .ok (.aload_n 0, 1) := by decide +kernel
theorem dL_law_252 : decode cL_law 252 = .ok (.iload 4, 2) := by decide +kernel
theorem dL_law_254 : decode cL_law 254 = .ok (.iconst 1, 1) := by decide +kernel
theorem dL_law_255 : decode cL_law 255 = .ok (.iadd, 1) := by decide +kernel
theorem dL_law_256 : decode cL_law 256 = .ok (.iaload, 1) := by decide +kernel
theorem dL_law_257 : decode cL_law 257 = .ok (.aload_n 0, 1) := by decide +kernel
theorem dL_law_258 : decode cL_law 258 = .ok (.iload 4, 2) := by decide +kernel
theorem dL_law_260 : decode cL_law 260 = .ok (.iconst 2, 1) := by decide +kernel
theorem dL_law_261 : decode cL_law 261 = .ok (.iadd, 1) := by decide +kernel
theorem dL_law_262 : decode cL_law 262 = .ok (.iaload, 1) := by decide +kernel
theorem dL_law_263 : decode cL_law 263 = .ok (.aload_n 3, 1) := by decide +kernel
theorem dL_law_264 : decode cL_law 264 = .ok (.invokestatic 56, 3) := by decide +kernel
theorem dL_law_267 : decode cL_law 267 = .ok (.istore 5, 2) := by decide +kernel
theorem dL_law_269 : decode cL_law 269 = .ok (.aload_n 2, 1) := by decide +kernel
theorem dL_law_270 : decode cL_law 270 = .ok (.aload_n 0, 1) := by decide +kernel
theorem dL_law_271 : decode cL_law 271 = .ok (.iload 4, 2) := by decide +kernel
theorem dL_law_273 : decode cL_law 273 = .ok (.iconst 1, 1) := by decide +kernel
theorem dL_law_274 : decode cL_law 274 = .ok (.iadd, 1) := by decide +kernel
theorem dL_law_275 : decode cL_law 275 = .ok (.iaload, 1) := by decide +kernel
theorem dL_law_276 : decode cL_law 276 = .ok (.aload_n 0, 1) := by decide +kernel
theorem dL_law_277 : decode cL_law 277 = .ok (.iload 4, 2) := by decide +kernel
theorem dL_law_279 : decode cL_law 279 = .ok (.iconst 2, 1) := by decide +kernel
theorem dL_law_280 : decode cL_law 280 = .ok (.iadd, 1) := by decide +kernel
theorem dL_law_281 : decode cL_law 281 = .ok (.iaload, 1) := by decide +kernel
theorem dL_law_282 : decode cL_law 282 = .ok (.invokevirtual 59, 3) := by decide +kernel
theorem dL_law_285 : decode cL_law 285 = .ok (.istore 6, 2) := by decide +kernel
theorem dL_law_287 : decode cL_law 287 = .ok (.aload_n 2, 1) := by decide +kernel
theorem dL_law_288 : decode cL_law 288 = .ok (.invokevirtual 60, 3) := by decide +kernel
theorem dL_law_291 : decode cL_law 291 = .ok (.iload 5, 2) := by decide +kernel
theorem dL_law_293 : decode cL_law 293 = .ok (.if_icmp .eq 5, 3) := by decide +kernel
theorem dL_law_296 : decode cL_law 296 = .ok (.iconst 0, 1) := by decide +kernel
theorem dL_law_297 : decode cL_law 297 = .ok (.ireturn, 1) := by decide +kernel
theorem dL_law_298 : decode cL_law 298 = .ok (.iload 5, 2) := by decide +kernel
theorem dL_law_300 : decode cL_law 300 = .ok (.ifCond .ne 15, 3) := by decide +kernel
theorem dL_law_303 : decode cL_law 303 = .ok (.aload_n 3, 1) := by decide +kernel
theorem dL_law_304 : decode cL_law 304 = .ok (.iconst 0, 1) := by decide +kernel
theorem dL_law_305 : decode cL_law 305 = .ok (.laload, 1) := by decide +kernel
theorem dL_law_306 : decode cL_law 306 = .ok (.iload 6, 2) := by decide +kernel
theorem dL_law_308 : decode cL_law 308 = .ok (.i2l, 1) := by decide +kernel
theorem dL_law_309 : decode cL_law 309 = .ok (.lcmp, 1) := by decide +kernel
theorem dL_law_310 : decode cL_law 310 = .ok (.ifCond .eq 5, 3) := by decide +kernel
theorem dL_law_313 : decode cL_law 313 = .ok (.iconst 0, 1) := by decide +kernel
theorem dL_law_314 : decode cL_law 314 = .ok (.ireturn, 1) := by decide +kernel
theorem dL_law_315 : decode cL_law 315 = .ok (.goto 348, 3) := by decide +kernel
theorem dL_law_318 : decode cL_law 318 = .ok (.aload_n 1, 1) := by decide +kernel
theorem dL_law_319 : decode cL_law 319 = .ok (.aload_n 0, 1) := by decide +kernel
theorem dL_law_320 : decode cL_law 320 = .ok (.iload 4, 2) := by decide +kernel
theorem dL_law_322 : decode cL_law 322 = .ok (.iconst 1, 1) := by decide +kernel
theorem dL_law_323 : decode cL_law 323 = .ok (.iadd, 1) := by decide +kernel
theorem dL_law_324 : decode cL_law 324 = .ok (.iaload, 1) := by decide +kernel
theorem dL_law_325 : decode cL_law 325 = .ok (.aload_n 0, 1) := by decide +kernel
theorem dL_law_326 : decode cL_law 326 = .ok (.iload 4, 2) := by decide +kernel
theorem dL_law_328 : decode cL_law 328 = .ok (.iconst 2, 1) := by decide +kernel
theorem dL_law_329 : decode cL_law 329 = .ok (.iadd, 1) := by decide +kernel
theorem dL_law_330 : decode cL_law 330 = .ok (.iaload, 1) := by decide +kernel
theorem dL_law_331 : decode cL_law 331 = .ok (.invokevirtual 64, 3) := by decide +kernel
theorem dL_law_334 : decode cL_law 334 = .ok (.aload_n 2, 1) := by decide +kernel
theorem dL_law_335 : decode cL_law 335 = .ok (.aload_n 0, 1) := by decide +kernel
theorem dL_law_336 : decode cL_law 336 = .ok (.iload 4, 2) := by decide +kernel
theorem dL_law_338 : decode cL_law 338 = .ok (.iconst 1, 1) := by decide +kernel
theorem dL_law_339 : decode cL_law 339 = .ok (.iadd, 1) := by decide +kernel
theorem dL_law_340 : decode cL_law 340 = .ok (.iaload, 1) := by decide +kernel
theorem dL_law_341 : decode cL_law 341 = .ok (.aload_n 0, 1) := by decide +kernel
theorem dL_law_342 : decode cL_law 342 = .ok (.iload 4, 2) := by decide +kernel
theorem dL_law_344 : decode cL_law 344 = .ok (.iconst 2, 1) := by decide +kernel
theorem dL_law_345 : decode cL_law 345 = .ok (.iadd, 1) := by decide +kernel
theorem dL_law_346 : decode cL_law 346 = .ok (.iaload, 1) := by decide +kernel
theorem dL_law_347 : decode cL_law 347 = .ok (.invokevirtual 67, 3) := by decide +kernel
theorem dL_law_350 : decode cL_law 350 = .ok (.if_icmp .eq 313, 3) := by decide +kernel
theorem dL_law_353 : decode cL_law 353 = .ok (.iconst 0, 1) := by decide +kernel
theorem dL_law_354 : decode cL_law 354 = .ok (.ireturn, 1) := by decide +kernel
theorem dL_law_355 : decode cL_law 355 = .ok (.aload_n 1, 1) := by decide +kernel
theorem dL_law_356 : decode cL_law 356 = .ok (.invokevirtual 68, 3) := by decide +kernel
theorem dL_law_359 : decode cL_law 359 = .ok (.aload_n 2, 1) := by decide +kernel
theorem dL_law_360 : decode cL_law 360 = .ok (.invokevirtual 71, 3) := by decide +kernel
theorem dL_law_363 : decode cL_law 363 = .ok (.goto 300, 3) := by decide +kernel
theorem dL_law_366 : decode cL_law 366 = .ok (.aload_n 1, 1) := by decide +kernel
theorem dL_law_367 : decode cL_law 367 = .ok (.aload_n 0, 1) := by decide +kernel
theorem dL_law_368 : decode cL_law 368 = .ok (.iload 4, 2) := by decide +kernel
theorem dL_law_370 : decode cL_law 370 = .ok (.iconst 1, 1) := by decide +kernel
theorem dL_law_371 : decode cL_law 371 = .ok (.iadd, 1) := by decide +kernel
theorem dL_law_372 : decode cL_law 372 = .ok (.iaload, 1) := by decide +kernel
theorem dL_law_373 : decode cL_law 373 = .ok (.aload_n 0, 1) := by decide +kernel
theorem dL_law_374 : decode cL_law 374 = .ok (.iload 4, 2) := by decide +kernel
theorem dL_law_376 : decode cL_law 376 = .ok (.iconst 2, 1) := by decide +kernel
theorem dL_law_377 : decode cL_law 377 = .ok (.iadd, 1) := by decide +kernel
theorem dL_law_378 : decode cL_law 378 = .ok (.iaload, 1) := by decide +kernel
theorem dL_law_379 : decode cL_law 379 = .ok (.aload_n 0, 1) := by decide +kernel
theorem dL_law_380 : decode cL_law 380 = .ok (.iload 4, 2) := by decide +kernel
theorem dL_law_382 : decode cL_law 382 = .ok (.iconst 3, 1) := by decide +kernel
theorem dL_law_383 : decode cL_law 383 = .ok (.iadd, 1) := by decide +kernel
theorem dL_law_384 : decode cL_law 384 = .ok (.iaload, 1) := by decide +kernel
theorem dL_law_385 : decode cL_law 385 = .ok (.invokevirtual 72, 3) := by decide +kernel
theorem dL_law_388 : decode cL_law 388 = .ok (.aload_n 2, 1) := by decide +kernel
theorem dL_law_389 : decode cL_law 389 = .ok (.aload_n 0, 1) := by decide +kernel
theorem dL_law_390 : decode cL_law 390 = .ok (.iload 4, 2) := by decide +kernel
theorem dL_law_392 : decode cL_law 392 = .ok (.iconst 1, 1) := by decide +kernel
theorem dL_law_393 : decode cL_law 393 = .ok (.iadd, 1) := by decide +kernel
theorem dL_law_394 : decode cL_law 394 = .ok (.iaload, 1) := by decide +kernel
theorem dL_law_395 : decode cL_law 395 = .ok (.aload_n 0, 1) := by decide +kernel
theorem dL_law_396 : decode cL_law 396 = .ok (.iload 4, 2) := by decide +kernel
theorem dL_law_398 : decode cL_law 398 = .ok (.iconst 2, 1) := by decide +kernel
theorem dL_law_399 : decode cL_law 399 = .ok (.iadd, 1) := by decide +kernel
theorem dL_law_400 : decode cL_law 400 = .ok (.iaload, 1) := by decide +kernel
theorem dL_law_401 : decode cL_law 401 = .ok (.aload_n 0, 1) := by decide +kernel
theorem dL_law_402 : decode cL_law 402 = .ok (.iload 4, 2) := by decide +kernel
theorem dL_law_404 : decode cL_law 404 = .ok (.iconst 3, 1) := by decide +kernel
theorem dL_law_405 : decode cL_law 405 = .ok (.iadd, 1) := by decide +kernel
theorem dL_law_406 : decode cL_law 406 = .ok (.iaload, 1) := by decide +kernel
theorem dL_law_407 : decode cL_law 407 = .ok (.invokevirtual 76, 3) := by decide +kernel
theorem dL_law_410 : decode cL_law 410 = .ok (.if_icmp .eq 253, 3) := by decide +kernel
theorem dL_law_413 : decode cL_law 413 = .ok (.iconst 0, 1) := by decide +kernel
theorem dL_law_414 : decode cL_law 414 = .ok (.ireturn, 1) := by decide +kernel
theorem dL_law_415 : decode cL_law 415 = .ok (.aload_n 1, 1) := by decide +kernel
theorem dL_law_416 : decode cL_law 416 = .ok (.aload_n 0, 1) := by decide +kernel
theorem dL_law_417 : decode cL_law 417 = .ok (.iload 4, 2) := by decide +kernel
theorem dL_law_419 : decode cL_law 419 = .ok (.iconst 1, 1) := by decide +kernel
theorem dL_law_420 : decode cL_law 420 = .ok (.iadd, 1) := by decide +kernel
theorem dL_law_421 : decode cL_law 421 = .ok (.iaload, 1) := by decide +kernel
theorem dL_law_422 : decode cL_law 422 = .ok (.aload_n 3, 1) := by decide +kernel
theorem dL_law_423 : decode cL_law 423 = .ok (.invokestatic 77, 3) := by decide +kernel
theorem dL_law_426 : decode cL_law 426 = .ok (.istore 5, 2) := by decide +kernel
theorem dL_law_428 : decode cL_law 428 = .ok (.aload_n 2, 1) := by decide +kernel
theorem dL_law_429 : decode cL_law 429 = .ok (.aload_n 0, 1) := by decide +kernel
theorem dL_law_430 : decode cL_law 430 = .ok (.iload 4, 2) := by decide +kernel
theorem dL_law_432 : decode cL_law 432 = .ok (.iconst 1, 1) := by decide +kernel
theorem dL_law_433 : decode cL_law 433 = .ok (.iadd, 1) := by decide +kernel
theorem dL_law_434 : decode cL_law 434 = .ok (.iaload, 1) := by decide +kernel
theorem dL_law_435 : decode cL_law 435 = .ok (.invokevirtual 80, 3) := by decide +kernel
theorem dL_law_438 : decode cL_law 438 = .ok (.istore 6, 2) := by decide +kernel
theorem dL_law_440 : decode cL_law 440 = .ok (.aload_n 2, 1) := by decide +kernel
theorem dL_law_441 : decode cL_law 441 = .ok (.invokevirtual 60, 3) := by decide +kernel
theorem dL_law_444 : decode cL_law 444 = .ok (.iload 5, 2) := by decide +kernel
theorem dL_law_446 : decode cL_law 446 = .ok (.if_icmp .eq 5, 3) := by decide +kernel
theorem dL_law_449 : decode cL_law 449 = .ok (.iconst 0, 1) := by decide +kernel
theorem dL_law_450 : decode cL_law 450 = .ok (.ireturn, 1) := by decide +kernel
theorem dL_law_451 : decode cL_law 451 = .ok (.iload 5, 2) := by decide +kernel
theorem dL_law_453 : decode cL_law 453 = .ok (.ifCond .ne 15, 3) := by decide +kernel
theorem dL_law_456 : decode cL_law 456 = .ok (.aload_n 3, 1) := by decide +kernel
theorem dL_law_457 : decode cL_law 457 = .ok (.iconst 0, 1) := by decide +kernel
theorem dL_law_458 : decode cL_law 458 = .ok (.laload, 1) := by decide +kernel
theorem dL_law_459 : decode cL_law 459 = .ok (.iload 6, 2) := by decide +kernel
theorem dL_law_461 : decode cL_law 461 = .ok (.i2l, 1) := by decide +kernel
theorem dL_law_462 : decode cL_law 462 = .ok (.lcmp, 1) := by decide +kernel
theorem dL_law_463 : decode cL_law 463 = .ok (.ifCond .eq 5, 3) := by decide +kernel
theorem dL_law_466 : decode cL_law 466 = .ok (.iconst 0, 1) := by decide +kernel
theorem dL_law_467 : decode cL_law 467 = .ok (.ireturn, 1) := by decide +kernel
theorem dL_law_468 : decode cL_law 468 = .ok (.goto 195, 3) := by decide +kernel
theorem dL_law_471 : decode cL_law 471 = .ok (.aload_n 1, 1) := by decide +kernel
theorem dL_law_472 : decode cL_law 472 = .ok (.invokevirtual 81, 3) := by decide +kernel
theorem dL_law_475 : decode cL_law 475 = .ok (.aload_n 2, 1) := by decide +kernel
theorem dL_law_476 : decode cL_law 476 = .ok (.invokevirtual 84, 3) := by decide +kernel
theorem dL_law_479 : decode cL_law 479 = .ok (.if_icmp .eq 184, 3) := by decide +kernel
theorem dL_law_482 : decode cL_law 482 = .ok (.iconst 0, 1) := by decide +kernel
theorem dL_law_483 : decode cL_law 483 = .ok (.ireturn, 1) := by decide +kernel
theorem dL_law_484 : decode cL_law 484 = .ok (.aload_n 1, 1) := by decide +kernel
theorem dL_law_485 : decode cL_law 485 = .ok (.aload_n 0, 1) := by decide +kernel
theorem dL_law_486 : decode cL_law 486 = .ok (.iload 4, 2) := by decide +kernel
theorem dL_law_488 : decode cL_law 488 = .ok (.iconst 1, 1) := by decide +kernel
theorem dL_law_489 : decode cL_law 489 = .ok (.iadd, 1) := by decide +kernel
theorem dL_law_490 : decode cL_law 490 = .ok (.iaload, 1) := by decide +kernel
theorem dL_law_491 : decode cL_law 491 = .ok (.invokevirtual 85, 3) := by decide +kernel
theorem dL_law_494 : decode cL_law 494 = .ok (.aload_n 2, 1) := by decide +kernel
theorem dL_law_495 : decode cL_law 495 = .ok (.aload_n 0, 1) := by decide +kernel
theorem dL_law_496 : decode cL_law 496 = .ok (.iload 4, 2) := by decide +kernel
theorem dL_law_498 : decode cL_law 498 = .ok (.iconst 1, 1) := by decide +kernel
theorem dL_law_499 : decode cL_law 499 = .ok (.iadd, 1) := by decide +kernel
theorem dL_law_500 : decode cL_law 500 = .ok (.iaload, 1) := by decide +kernel
theorem dL_law_501 : decode cL_law 501 = .ok (.invokevirtual 88, 3) := by decide +kernel
theorem dL_law_504 : decode cL_law 504 = .ok (.if_icmp .eq 159, 3) := by decide +kernel
theorem dL_law_507 : decode cL_law 507 = .ok (.iconst 0, 1) := by decide +kernel
theorem dL_law_508 : decode cL_law 508 = .ok (.ireturn, 1) := by decide +kernel
theorem dL_law_509 : decode cL_law 509 = .ok (.aload_n 1, 1) := by decide +kernel
theorem dL_law_510 : decode cL_law 510 = .ok (.invokevirtual 89, 3) := by decide +kernel
theorem dL_law_513 : decode cL_law 513 = .ok (.aload_n 2, 1) := by decide +kernel
theorem dL_law_514 : decode cL_law 514 = .ok (.invokevirtual 92, 3) := by decide +kernel
theorem dL_law_517 : decode cL_law 517 = .ok (.if_icmp .eq 146, 3) := by decide +kernel
theorem dL_law_520 : decode cL_law 520 = .ok (.iconst 0, 1) := by decide +kernel
theorem dL_law_521 : decode cL_law 521 = .ok (.ireturn, 1) := by decide +kernel
theorem dL_law_522 : decode cL_law 522 = .ok (.aload_n 1, 1) := by decide +kernel
theorem dL_law_523 : decode cL_law 523 = .ok (.aload_n 0, 1) := by decide +kernel
theorem dL_law_524 : decode cL_law 524 = .ok (.iload 4, 2) := by decide +kernel
theorem dL_law_526 : decode cL_law 526 = .ok (.iconst 1, 1) := by decide +kernel
theorem dL_law_527 : decode cL_law 527 = .ok (.iadd, 1) := by decide +kernel
theorem dL_law_528 : decode cL_law 528 = .ok (.iaload, 1) := by decide +kernel
theorem dL_law_529 : decode cL_law 529 = .ok (.invokevirtual 93, 3) := by decide +kernel
theorem dL_law_532 : decode cL_law 532 = .ok (.aload_n 2, 1) := by decide +kernel
theorem dL_law_533 : decode cL_law 533 = .ok (.aload_n 0, 1) := by decide +kernel
theorem dL_law_534 : decode cL_law 534 = .ok (.iload 4, 2) := by decide +kernel
theorem dL_law_536 : decode cL_law 536 = .ok (.iconst 1, 1) := by decide +kernel
theorem dL_law_537 : decode cL_law 537 = .ok (.iadd, 1) := by decide +kernel
theorem dL_law_538 : decode cL_law 538 = .ok (.iaload, 1) := by decide +kernel
theorem dL_law_539 : decode cL_law 539 = .ok (.invokevirtual 96, 3) := by decide +kernel
theorem dL_law_542 : decode cL_law 542 = .ok (.if_icmp .eq 121, 3) := by decide +kernel
theorem dL_law_545 : decode cL_law 545 = .ok (.iconst 0, 1) := by decide +kernel
theorem dL_law_546 : decode cL_law 546 = .ok (.ireturn, 1) := by decide +kernel
theorem dL_law_547 : decode cL_law 547 = .ok (.aload_n 1, 1) := by decide +kernel
theorem dL_law_548 : decode cL_law 548 = .ok (.aload_n 0, 1) := by decide +kernel
theorem dL_law_549 : decode cL_law 549 = .ok (.iload 4, 2) := by decide +kernel
theorem dL_law_551 : decode cL_law 551 = .ok (.iconst 1, 1) := by decide +kernel
theorem dL_law_552 : decode cL_law 552 = .ok (.iadd, 1) := by decide +kernel
theorem dL_law_553 : decode cL_law 553 = .ok (.iaload, 1) := by decide +kernel
theorem dL_law_554 : decode cL_law 554 = .ok (.aload_n 0, 1) := by decide +kernel
theorem dL_law_555 : decode cL_law 555 = .ok (.iload 4, 2) := by decide +kernel
theorem dL_law_557 : decode cL_law 557 = .ok (.iconst 2, 1) := by decide +kernel
theorem dL_law_558 : decode cL_law 558 = .ok (.iadd, 1) := by decide +kernel
theorem dL_law_559 : decode cL_law 559 = .ok (.iaload, 1) := by decide +kernel
theorem dL_law_560 : decode cL_law 560 = .ok (.aload_n 0, 1) := by decide +kernel
theorem dL_law_561 : decode cL_law 561 = .ok (.iload 4, 2) := by decide +kernel
theorem dL_law_563 : decode cL_law 563 = .ok (.iconst 3, 1) := by decide +kernel
theorem dL_law_564 : decode cL_law 564 = .ok (.iadd, 1) := by decide +kernel
theorem dL_law_565 : decode cL_law 565 = .ok (.iaload, 1) := by decide +kernel
theorem dL_law_566 : decode cL_law 566 = .ok (.invokevirtual 97, 3) := by decide +kernel
theorem dL_law_569 : decode cL_law 569 = .ok (.aload_n 2, 1) := by decide +kernel
theorem dL_law_570 : decode cL_law 570 = .ok (.aload_n 0, 1) := by decide +kernel
theorem dL_law_571 : decode cL_law 571 = .ok (.iload 4, 2) := by decide +kernel
theorem dL_law_573 : decode cL_law 573 = .ok (.iconst 1, 1) := by decide +kernel
theorem dL_law_574 : decode cL_law 574 = .ok (.iadd, 1) := by decide +kernel
theorem dL_law_575 : decode cL_law 575 = .ok (.iaload, 1) := by decide +kernel
theorem dL_law_576 : decode cL_law 576 = .ok (.aload_n 0, 1) := by decide +kernel
theorem dL_law_577 : decode cL_law 577 = .ok (.iload 4, 2) := by decide +kernel
theorem dL_law_579 : decode cL_law 579 = .ok (.iconst 2, 1) := by decide +kernel
theorem dL_law_580 : decode cL_law 580 = .ok (.iadd, 1) := by decide +kernel
theorem dL_law_581 : decode cL_law 581 = .ok (.iaload, 1) := by decide +kernel
theorem dL_law_582 : decode cL_law 582 = .ok (.aload_n 0, 1) := by decide +kernel
theorem dL_law_583 : decode cL_law 583 = .ok (.iload 4, 2) := by decide +kernel
theorem dL_law_585 : decode cL_law 585 = .ok (.iconst 3, 1) := by decide +kernel
theorem dL_law_586 : decode cL_law 586 = .ok (.iadd, 1) := by decide +kernel
theorem dL_law_587 : decode cL_law 587 = .ok (.iaload, 1) := by decide +kernel
theorem dL_law_588 : decode cL_law 588 = .ok (.invokevirtual 101, 3) := by decide +kernel
theorem dL_law_591 : decode cL_law 591 = .ok (.if_icmp .eq 72, 3) := by decide +kernel
theorem dL_law_594 : decode cL_law 594 = .ok (.iconst 0, 1) := by decide +kernel
theorem dL_law_595 : decode cL_law 595 = .ok (.ireturn, 1) := by decide +kernel
theorem dL_law_596 : decode cL_law 596 = .ok (.aload_n 1, 1) := by decide +kernel
theorem dL_law_597 : decode cL_law 597 = .ok (.aload_n 0, 1) := by decide +kernel
theorem dL_law_598 : decode cL_law 598 = .ok (.iload 4, 2) := by decide +kernel
theorem dL_law_600 : decode cL_law 600 = .ok (.iconst 1, 1) := by decide +kernel
theorem dL_law_601 : decode cL_law 601 = .ok (.iadd, 1) := by decide +kernel
theorem dL_law_602 : decode cL_law 602 = .ok (.iaload, 1) := by decide +kernel
theorem dL_law_603 : decode cL_law 603 = .ok (.aload_n 0, 1) := by decide +kernel
theorem dL_law_604 : decode cL_law 604 = .ok (.iload 4, 2) := by decide +kernel
theorem dL_law_606 : decode cL_law 606 = .ok (.iconst 2, 1) := by decide +kernel
theorem dL_law_607 : decode cL_law 607 = .ok (.iadd, 1) := by decide +kernel
theorem dL_law_608 : decode cL_law 608 = .ok (.iaload, 1) := by decide +kernel
theorem dL_law_609 : decode cL_law 609 = .ok (.invokevirtual 102, 3) := by decide +kernel
theorem dL_law_612 : decode cL_law 612 = .ok (.f2d, 1) := by decide +kernel
theorem dL_law_613 : decode cL_law 613 = .ok (.dstore 5, 2) := by decide +kernel
theorem dL_law_615 : decode cL_law 615 = .ok (.aload_n 2, 1) := by decide +kernel
theorem dL_law_616 : decode cL_law 616 = .ok (.aload_n 0, 1) := by decide +kernel
theorem dL_law_617 : decode cL_law 617 = .ok (.iload 4, 2) := by decide +kernel
theorem dL_law_619 : decode cL_law 619 = .ok (.iconst 1, 1) := by decide +kernel
theorem dL_law_620 : decode cL_law 620 = .ok (.iadd, 1) := by decide +kernel
theorem dL_law_621 : decode cL_law 621 = .ok (.iaload, 1) := by decide +kernel
theorem dL_law_622 : decode cL_law 622 = .ok (.aload_n 0, 1) := by decide +kernel
theorem dL_law_623 : decode cL_law 623 = .ok (.iload 4, 2) := by decide +kernel
theorem dL_law_625 : decode cL_law 625 = .ok (.iconst 2, 1) := by decide +kernel
theorem dL_law_626 : decode cL_law 626 = .ok (.iadd, 1) := by decide +kernel
theorem dL_law_627 : decode cL_law 627 = .ok (.iaload, 1) := by decide +kernel
theorem dL_law_628 : decode cL_law 628 = .ok (.invokevirtual 106, 3) := by decide +kernel
theorem dL_law_631 : decode cL_law 631 = .ok (.f2d, 1) := by decide +kernel
theorem dL_law_632 : decode cL_law 632 = .ok (.dstore 7, 2) := by decide +kernel
theorem dL_law_634 : decode cL_law 634 = .ok (.dload 5, 2) := by decide +kernel
theorem dL_law_636 : decode cL_law 636 = .ok (.dload 7, 2) := by decide +kernel
theorem dL_law_638 : decode cL_law 638 = .ok (.dcmp .l, 1) := by decide +kernel
theorem dL_law_639 : decode cL_law 639 = .ok (.ifCond .eq 21, 3) := by decide +kernel
theorem dL_law_642 : decode cL_law 642 = .ok (.dload 5, 2) := by decide +kernel
theorem dL_law_644 : decode cL_law 644 = .ok (.dload 5, 2) := by decide +kernel
theorem dL_law_646 : decode cL_law 646 = .ok (.dcmp .l, 1) := by decide +kernel
theorem dL_law_647 : decode cL_law 647 = .ok (.ifCond .eq 11, 3) := by decide +kernel
theorem dL_law_650 : decode cL_law 650 = .ok (.dload 7, 2) := by decide +kernel
theorem dL_law_652 : decode cL_law 652 = .ok (.dload 7, 2) := by decide +kernel
theorem dL_law_654 : decode cL_law 654 = .ok (.dcmp .l, 1) := by decide +kernel
theorem dL_law_655 : decode cL_law 655 = .ok (.ifCond .ne 5, 3) := by decide +kernel
theorem dL_law_658 : decode cL_law 658 = .ok (.iconst 0, 1) := by decide +kernel
theorem dL_law_659 : decode cL_law 659 = .ok (.ireturn, 1) := by decide +kernel
theorem dL_law_660 : decode cL_law 660 = .ok (.goto 3, 3) := by decide +kernel
theorem dL_law_663 : decode cL_law 663 = .ok (.iinc 4 4, 3) := by decide +kernel
theorem dL_law_666 : decode cL_law 666 = .ok (.goto (-633), 3) := by decide +kernel
theorem dL_law_669 : decode cL_law 669 = .ok (.iconst 1, 1) := by decide +kernel
theorem dL_law_670 : decode cL_law 670 = .ok (.ireturn, 1) := by decide +kernel
end
section
abbrev vwCl : List vw_C := [(RX0, TX0, 3), (RX1, TX1, 8), (RX2, TX2, 2), (RX3, TX3, 4), (RX4, TX4, 3), (RX5, TX5, 9), (RX6, TX6, 19)]
end
section
/-! ints: iI z, the int of an integer -/
def iI (z : Int) : Int32 := Int32.ofInt z
theorem iI_nI (n : Nat) : Int32.ofNat n = iI (n : Int) := Int32.ofInt_eq_ofNat.symm
theorem iI_self (x : Int32) : iI x.toInt = x := Int32.ofInt_toInt x
theorem iI_toInt {z : Int} (h1 : -2147483648 ≤ z) (h2 : z < 2147483648) : (iI z).toInt = z := Int32.toInt_ofInt_of_le h1 h2
theorem iI_add (a b : Int) : iI a + iI b = iI (a + b) := (Int32.ofInt_add a b).symm
theorem iI_sub (a b : Int) : iI a - iI b = iI (a - b) := (Int32.ofInt_sub a b).symm
theorem iI_mul (a b : Int) : iI a * iI b = iI (a * b) := (Int32.ofInt_mul a b).symm
theorem iI_neg (a : Int) : - iI a = iI (-a) := Int32.neg_ofInt
theorem iI_lt {a b : Int} (h1 : -2147483648 ≤ a) (h2 : a < 2147483648) (h3 : -2147483648 ≤ b) (h4 : b < 2147483648) : iI a < iI b ↔ a < b := by
  rw [Int32.lt_iff_toInt_lt, iI_toInt h1 h2, iI_toInt h3 h4]
theorem iI_le {a b : Int} (h1 : -2147483648 ≤ a) (h2 : a < 2147483648) (h3 : -2147483648 ≤ b) (h4 : b < 2147483648) : iI a ≤ iI b ↔ a ≤ b := by
  rw [Int32.le_iff_toInt_le, iI_toInt h1 h2, iI_toInt h3 h4]
theorem iI_inj {a b : Int} (h1 : -2147483648 ≤ a) (h2 : a < 2147483648) (h3 : -2147483648 ≤ b) (h4 : b < 2147483648) : iI a = iI b ↔ a = b := by
  rw [← Int32.toInt_inj, iI_toInt h1 h2, iI_toInt h3 h4]
theorem iI_of (x : Int32) : ∃ z : Int, x = iI z ∧ -2147483648 ≤ z ∧ z < 2147483648 := ⟨x.toInt, (iI_self x).symm, x.le_toInt, x.toInt_lt⟩
theorem iI_clamp {z : Int} {j : Nat} (h : z = (j : Int)) (h2 : j < 2147483648) : (iI z).toNatClampNeg = j := by
  subst h
  show (Int32.ofInt (j : Int)).toNatClampNeg = j
  rw [Int32.ofInt_eq_ofNat, Int32.toNatClampNeg_ofNat_of_lt h2]
theorem iI_in {z : Int} {j n : Nat} (h : z = (j : Int)) (h1 : j < n) (h2 : n ≤ 2147483648) : vp_in (iI z) n := by
  rintro (h3 | h3)
  · rw [show (0 : Int32) = iI 0 from rfl, iI_lt (by omega) (by omega) (by omega) (by omega)] at h3
    omega
  · rw [iI_clamp h (by omega)] at h3
    omega
theorem iI_0 : (0 : Int32) = iI 0 := rfl
theorem iI_i16 {z : Int} (h1 : -32768 ≤ z) (h2 : z < 32768) : (iI z).toInt16.toInt32 = iI z := by
  show (Int32.ofInt z).toInt16.toInt32 = Int32.ofInt z
  rw [Int32.toInt16_ofInt]
  apply Int32.toInt_inj.mp
  rw [Int16.toInt_toInt32, Int16.toInt_ofInt_of_le h1 h2, Int32.toInt_ofInt_of_le (by omega) (by omega)]
end
section
/-! the world: N cells by their numbers; ad: their addresses; ev: what they hold -/
def wd (N : Nat) (ad : Nat → Nat) (ev : Nat → va_E) : va_W := (List.range N).map (fun i => (ad i, ev i))
theorem wd_at {N : Nat} {ad : Nat → Nat} {ev : Nat → va_E} {i : Nat} (h : i < N) : (wd N ad ev)[i]? = some (ad i, ev i) := by
  simp [wd, h]
theorem wd_is {N : Nat} {ad : Nat → Nat} {ev : Nat → va_E} {i : Nat} {x : va_E} (h : i < N) (he : ev i = x) : (wd N ad ev)[i]? = some (ad i, x) := by
  rw [wd_at h, he]
theorem wd_get {N : Nat} {ad : Nat → Nat} {ev : Nat → va_E} {i : Nat} {q : Nat × va_E} (h : (wd N ad ev)[i]? = some q) : i < N ∧ q = (ad i, ev i) := by
  have hl : i < N := by
    have := (List.getElem?_eq_some_iff.mp h).1
    simpa [wd] using this
  rw [wd_at hl] at h
  exact ⟨hl, (Option.some.inj h).symm⟩
theorem wd_len {N : Nat} {ad : Nat → Nat} {ev : Nat → va_E} : (wd N ad ev).length = N := by simp [wd]
theorem wd_set {N : Nat} {ad : Nat → Nat} {ev : Nat → va_E} {i : Nat} (x : va_E) : (wd N ad ev).set i (ad i, x) = wd N ad (va_up ev i x) := by
  apply List.ext_getElem?
  intro j
  rw [List.getElem?_set]
  by_cases hj : j < N
  · rw [wd_at hj, wd_at hj, wd_len]
    by_cases e : i = j
    · subst e; simp [hj, va_up]
    · simp [e, va_up, Ne.symm e]
  · have h1 : (wd N ad ev)[j]? = none := List.getElem?_eq_none_iff.mpr (by rw [wd_len]; omega)
    have h2 : (wd N ad (va_up ev i x))[j]? = none := List.getElem?_eq_none_iff.mpr (by rw [wd_len]; omega)
    rw [h1, h2, wd_len]
    by_cases e : i = j
    · subst e; simp [hj]
    · simp [e]
theorem wd_push {N : Nat} {ad : Nat → Nat} {ev : Nat → va_E} (q : Nat) (x : va_E) : wd N ad ev ++ [(q, x)] = wd (N + 1) (va_up ad N q) (va_up ev N x) := by
  unfold wd
  rw [List.range_succ, List.map_append]
  congr 1
  · apply List.map_congr_left
    intro i hi
    have := List.mem_range.mp hi
    rw [va_up_ne _ _ (by omega), va_up_ne _ _ (by omega)]
  · simp [va_up]
/-- the addresses are apart -/
def nInj (N : Nat) (ad : Nat → Nat) : Prop := ∀ i j, i < N → j < N → ad i = ad j → i = j
theorem wd_D {N : Nat} {ad : Nat → Nat} {ev : Nat → va_E} {A : Nat → Prop} (h : nInj N ad) (hA : ∀ i, i < N → A (ad i)) : va_D A (wd N ad ev) := by
  refine ⟨fun i j p q hp hq e => ?_, fun k q hk => ?_⟩
  · obtain ⟨h1, rfl⟩ := wd_get hp
    obtain ⟨h2, rfl⟩ := wd_get hq
    exact h i j h1 h2 e
  · obtain ⟨h1, rfl⟩ := wd_get hk
    exact hA k h1
theorem wd_inj {N : Nat} {ad : Nat → Nat} {ev : Nat → va_E} {A : Nat → Prop} (h : va_D A (wd N ad ev)) : nInj N ad := fun i j hi hj e => h.1 i j _ _ (wd_at hi) (wd_at hj) e
theorem wd_A {N : Nat} {ad : Nat → Nat} {ev : Nat → va_E} {A : Nat → Prop} (h : va_D A (wd N ad ev)) : ∀ i, i < N → A (ad i) := fun i hi => h.2 i _ (wd_at hi)
theorem wd_D2 {N : Nat} {ad : Nat → Nat} {ev e2 : Nat → va_E} {A : Nat → Prop} (h : va_D A (wd N ad ev)) : va_D A (wd N ad e2) := wd_D (wd_inj h) (wd_A h)
/-- which cells a method may change -/
def nA (N : Nat) (ad : Nat → Nat) (sz : Nat) : Nat → Prop := fun q => (∃ i, i < N ∧ q = ad i) ∨ sz ≤ q
abbrev GG : Type := va_G × ClassId × ClassId × ClassId × ClassId
def tyG (G : GG) : List (ClassId × FieldType) := [(G.2.1, .int), (G.2.2.1, .object RX2), (G.2.2.2.1, .array .int), (G.2.2.2.2, .long)]
/-- private fields of nest mates, as the tables link them -/
def nW : List Cond := [.fieldLinkNest RX5 110 "DiffDesk$Script" "count" "I" "DiffDesk", .fieldLinkNest RX5 114 "DiffDesk$Script" "kinds" "[I" "DiffDesk", .fieldLinkNest RX5 118 "DiffDesk$Script" "places" "[I" "DiffDesk", .fieldLinkNest RX5 121 "DiffDesk$Script" "symbols" "[I" "DiffDesk", .fieldLinkNest RX5 80 "DiffDesk$Row" "count" "I" "DiffDesk", .fieldLinkNest RX0 28 "DiffDesk$Row" "count" "I" "DiffDesk", .fieldLinkNest RX0 64 "DiffDesk$Row" "items" "[I" "DiffDesk", .fieldLinkNest RX1 59 "DiffDesk$Row" "count" "I" "DiffDesk"]
def nWs (U : State) : Prop := ∀ w ∈ nW, va_Nw w U
theorem nWs.warm {s U : State} (hW : s.WarmedH U.vm) (h : nWs s) : nWs U := by
  intro w hw
  have h1 := h w hw
  simp only [nW, List.mem_cons, List.not_mem_nil, or_false] at hw
  rcases hw with rfl | rfl | rfl | rfl | rfl | rfl | rfl | rfl <;> exact va_Nw.warmF hW h1
theorem nWs.same {s U : State} (e : s.vm = U.vm) (h : nWs s) : nWs U := by
  intro w hw
  have h1 := h w hw
  simp only [nW, List.mem_cons, List.not_mem_nil, or_false] at hw
  rcases hw with rfl | rfl | rfl | rfl | rfl | rfl | rfl | rfl <;> exact va_Nw.same rfl e h1
/-- what a method knows of the tables beside its words -/
def KW (G : GG) (U : State) : Prop := va_K G.1 vwCl (tyG G) U ∧ nWs U
theorem KW.warm {G : GG} {s U : State} (hW : s.WarmedH U.vm) (h : KW G s) : KW G U := ⟨va_K.moved hW.alike h.1, h.2.warm hW⟩
theorem KW.same {G : GG} {s U : State} (hA : s.vm.Alike U.vm) (e : s.vm = U.vm) (h : KW G s) : KW G U := ⟨va_K.moved hA h.1, h.2.same e⟩
/-- the judgement: from pc on, with the world ev, the locals lv, the stack st -/
def V (p : Program) (l : Launch) (E : Env) (R : Room) (s : State) (m : MethodId) (args : Array Value) (below : List Frame) (meth : Method) (c : Code) (G : GG) (A : Nat → Prop) (nL : Nat) (Q : State → Prop) (N : Nat) (ad : Nat → Nat) (ev : Nat → va_E) (cells slots pc : Nat) (lv : List (Nat × Value)) (st : List Value) : Prop :=
  ∀ (H : Heap) (locs : List Loc) (ls : Array Slot), va_P G.1 vwCl (wd N ad ev) H → va_D A (wd N ad ev) → va_S A s.heap H locs → lv_has ls nL lv → W p l E R s m args below meth c H locs cells slots Q (F0 m pc ls st)
/-- what stays throughout a method's body -/
def Cx (p : Program) (s : State) (m : MethodId) (args : Array Value) (meth : Method) (c : Code) (G : GG) (A : Nat → Prop) (nL : Nat) (cc : ByteArray) (own : String) (Ts : List Cond) : Prop :=
  p.tables.exec = Jvm.exec ∧ c.code = cc ∧ c.maxLocals = nL ∧ s.vm.findClass own = some m.cls ∧ (∀ w ∈ Ts, w.before args s = true) ∧ KW G s ∧ (∀ q, s.heap.size ≤ q → A q) ∧ meth.locks = false
/-- a local's new value, in the order of the numbers -/
def lins0 (i : Nat) (v : Value) : List (Nat × Value) → List (Nat × Value)
  | [] => [(i, v)]
  | q :: r => if i < q.1 then (i, v) :: q :: r else q :: lins0 i v r
def lins (i : Nat) (v : Value) (lv : List (Nat × Value)) : List (Nat × Value) := lins0 i v (lv.filter (fun q => !(q.1 == i) && !(q.1 + 1 == i && q.2.category == 2)))
theorem lins0_mem {i : Nat} {v : Value} {q : Nat × Value} : ∀ {lv : List (Nat × Value)}, q ∈ lins0 i v lv → q ∈ (i, v) :: lv
  | [], h => h
  | r :: lv, h => by
    unfold lins0 at h
    split at h
    · exact h
    · rcases List.mem_cons.mp h with h | h
      · subst h; exact List.mem_cons_of_mem _ List.mem_cons_self
      · rcases List.mem_cons.mp (lins0_mem h) with h | h
        · subst h; exact List.mem_cons_self
        · exact List.mem_cons_of_mem _ (List.mem_cons_of_mem _ h)
theorem lins_has {ls : Array Slot} {nL i : Nat} {v : Value} {lv lv' : List (Nat × Value)} (hl : lins i v lv = lv') (h : lv_has ls nL ((i, v) :: lv.filter (fun q => !(q.1 == i) && !(q.1 + 1 == i && q.2.category == 2)))) : lv_has ls nL lv' := by
  subst hl
  exact ⟨h.1, h.2.1, fun q hq => h.2.2 q (lins0_mem hq)⟩
end
section
section Rows2
variable {p : Program} {l : Launch} {E : Env} {R : Room} {s : State} {m : MethodId} {args : Array Value} {below : List Frame} {meth : Method} {c : Code} {G : GG} {A : Nat → Prop} {nL : Nat} {Q : State → Prop} {N : Nat} {ad : Nat → Nat} {ev : Nat → va_E} {cells slots pc : Nat} {lv lv' : List (Nat × Value)} {st : List Value} {cc : ByteArray} {own : String} {Ts : List Cond}
theorem n_iconst (C : Cx p s m args meth c G A nL cc own Ts) {n : Int} (hd : decode cc pc = .ok (.iconst n, 1)) (k : V p l E R s m args below meth c G A nL Q N ad ev cells slots (pc + 1) lv (.int (iI n) :: st)) : V p l E R s m args below meth c G A nL Q N ad ev cells slots pc lv st := fun H locs ls hP hD hS hl => lv_iconst C.1 C.2.1 hd rfl (k H locs ls hP hD hS hl)
theorem n_bipush (C : Cx p s m args meth c G A nL cc own Ts) {n : Int} (hd : decode cc pc = .ok (.bipush n, 2)) (hv : (Int8.ofInt n).toInt32 = iI n) (k : V p l E R s m args below meth c G A nL Q N ad ev cells slots (pc + 2) lv (.int (iI n) :: st)) : V p l E R s m args below meth c G A nL Q N ad ev cells slots pc lv st := fun H locs ls hP hD hS hl => lv_bipush C.1 C.2.1 hd hv (k H locs ls hP hD hS hl)
theorem n_sipush (C : Cx p s m args meth c G A nL cc own Ts) {n : Int} (hd : decode cc pc = .ok (.sipush n, 3)) (hv : (Int16.ofInt n).toInt32 = iI n) (k : V p l E R s m args below meth c G A nL Q N ad ev cells slots (pc + 3) lv (.int (iI n) :: st)) : V p l E R s m args below meth c G A nL Q N ad ev cells slots pc lv st := fun H locs ls hP hD hS hl => lv_sipush C.1 C.2.1 hd hv (k H locs ls hP hD hS hl)
theorem n_iload_n (C : Cx p s m args meth c G A nL cc own Ts) {k9 : Fin 4} {i : Nat} {x : Int32} (hd : decode cc pc = .ok (.iload_n k9, 1)) (j : Nat) (hi : (k9 : Nat) = i) (hj : lv[j]? = some (i, .int x)) (k : V p l E R s m args below meth c G A nL Q N ad ev cells slots (pc + 1) lv (.int x :: st)) : V p l E R s m args below meth c G A nL Q N ad ev cells slots pc lv st := fun H locs ls hP hD hS hl => lv_iload_n C.1 C.2.1 hd hi (lv_at hl j hj) (k H locs ls hP hD hS hl)
theorem n_iload (C : Cx p s m args meth c G A nL cc own Ts) {i : Nat} {x : Int32} (hd : decode cc pc = .ok (.iload i, 2)) (j : Nat) (hj : lv[j]? = some (i, .int x)) (k : V p l E R s m args below meth c G A nL Q N ad ev cells slots (pc + 2) lv (.int x :: st)) : V p l E R s m args below meth c G A nL Q N ad ev cells slots pc lv st := fun H locs ls hP hD hS hl => lv_iload C.1 C.2.1 hd (lv_at hl j hj) (k H locs ls hP hD hS hl)
theorem n_aload_n (C : Cx p s m args meth c G A nL cc own Ts) {k9 : Fin 4} {i : Nat} {x : Nat} (hd : decode cc pc = .ok (.aload_n k9, 1)) (j : Nat) (hi : (k9 : Nat) = i) (hj : lv[j]? = some (i, .ref x)) (k : V p l E R s m args below meth c G A nL Q N ad ev cells slots (pc + 1) lv (.ref x :: st)) : V p l E R s m args below meth c G A nL Q N ad ev cells slots pc lv st := fun H locs ls hP hD hS hl => lv_aload_n C.1 C.2.1 hd hi (lv_at hl j hj) (k H locs ls hP hD hS hl)
theorem n_aload (C : Cx p s m args meth c G A nL cc own Ts) {i : Nat} {x : Nat} (hd : decode cc pc = .ok (.aload i, 2)) (j : Nat) (hj : lv[j]? = some (i, .ref x)) (k : V p l E R s m args below meth c G A nL Q N ad ev cells slots (pc + 2) lv (.ref x :: st)) : V p l E R s m args below meth c G A nL Q N ad ev cells slots pc lv st := fun H locs ls hP hD hS hl => lv_aload C.1 C.2.1 hd (lv_at hl j hj) (k H locs ls hP hD hS hl)
theorem n_dload (C : Cx p s m args meth c G A nL cc own Ts) {i : Nat} {x : UInt64} (hd : decode cc pc = .ok (.dload i, 2)) (j : Nat) (hj : lv[j]? = some (i, .double x)) (k : V p l E R s m args below meth c G A nL Q N ad ev cells slots (pc + 2) lv (.double x :: st)) : V p l E R s m args below meth c G A nL Q N ad ev cells slots pc lv st := fun H locs ls hP hD hS hl => lv_dload C.1 C.2.1 hd (lv_at hl j hj) (k H locs ls hP hD hS hl)
theorem n_istore_n (C : Cx p s m args meth c G A nL cc own Ts) {k9 : Fin 4} {i : Nat} {x : Int32} (hd : decode cc pc = .ok (.istore_n k9, 1)) (hi : (k9 : Nat) = i) (hn : i < nL) (h9 : lins i (.int x) lv = lv') (k : V p l E R s m args below meth c G A nL Q N ad ev cells slots (pc + 1) lv' st) : V p l E R s m args below meth c G A nL Q N ad ev cells slots pc lv (.int x :: st) := fun H locs ls hP hD hS hl => lv_istore_n C.1 C.2.1 hd hi hl hn rfl (fun ls2 hl2 => k H locs ls2 hP hD hS (lins_has h9 hl2))
theorem n_istore (C : Cx p s m args meth c G A nL cc own Ts) {i : Nat} {x : Int32} (hd : decode cc pc = .ok (.istore i, 2)) (hn : i < nL) (h9 : lins i (.int x) lv = lv') (k : V p l E R s m args below meth c G A nL Q N ad ev cells slots (pc + 2) lv' st) : V p l E R s m args below meth c G A nL Q N ad ev cells slots pc lv (.int x :: st) := fun H locs ls hP hD hS hl => lv_istore C.1 C.2.1 hd hl hn rfl (fun ls2 hl2 => k H locs ls2 hP hD hS (lins_has h9 hl2))
theorem n_astore_n (C : Cx p s m args meth c G A nL cc own Ts) {k9 : Fin 4} {i : Nat} {x : Nat} (hd : decode cc pc = .ok (.astore_n k9, 1)) (hi : (k9 : Nat) = i) (hn : i < nL) (h9 : lins i (.ref x) lv = lv') (k : V p l E R s m args below meth c G A nL Q N ad ev cells slots (pc + 1) lv' st) : V p l E R s m args below meth c G A nL Q N ad ev cells slots pc lv (.ref x :: st) := fun H locs ls hP hD hS hl => lv_astore_n C.1 C.2.1 hd hi hl hn rfl (fun ls2 hl2 => k H locs ls2 hP hD hS (lins_has h9 hl2))
theorem n_astore (C : Cx p s m args meth c G A nL cc own Ts) {i : Nat} {x : Nat} (hd : decode cc pc = .ok (.astore i, 2)) (hn : i < nL) (h9 : lins i (.ref x) lv = lv') (k : V p l E R s m args below meth c G A nL Q N ad ev cells slots (pc + 2) lv' st) : V p l E R s m args below meth c G A nL Q N ad ev cells slots pc lv (.ref x :: st) := fun H locs ls hP hD hS hl => lv_astore C.1 C.2.1 hd hl hn rfl (fun ls2 hl2 => k H locs ls2 hP hD hS (lins_has h9 hl2))
theorem n_iinc (C : Cx p s m args meth c G A nL cc own Ts) {i : Nat} {n z : Int} (hd : decode cc pc = .ok (.iinc i n, 3)) (j : Nat) (hj : lv[j]? = some (i, .int (iI z))) (hn : i < nL) (h9 : lins i (.int (iI (z + n))) lv = lv') (k : V p l E R s m args below meth c G A nL Q N ad ev cells slots (pc + 3) lv' st) : V p l E R s m args below meth c G A nL Q N ad ev cells slots pc lv st := fun H locs ls hP hD hS hl => lv_iinc C.1 C.2.1 hd hl hj (iI_add z n) hn rfl (fun ls2 hl2 => k H locs ls2 hP hD hS (lins_has h9 hl2))
theorem n_iadd (C : Cx p s m args meth c G A nL cc own Ts) {a b : Int} (hd : decode cc pc = .ok (.iadd, 1)) (k : V p l E R s m args below meth c G A nL Q N ad ev cells slots (pc + 1) lv (.int (iI (a + b)) :: st)) : V p l E R s m args below meth c G A nL Q N ad ev cells slots pc lv (.int (iI b) :: .int (iI a) :: st) := fun H locs ls hP hD hS hl => lv_iadd C.1 C.2.1 hd (by rw [iI_add]; exact k H locs ls hP hD hS hl)
theorem n_isub (C : Cx p s m args meth c G A nL cc own Ts) {a b : Int} (hd : decode cc pc = .ok (.isub, 1)) (k : V p l E R s m args below meth c G A nL Q N ad ev cells slots (pc + 1) lv (.int (iI (a - b)) :: st)) : V p l E R s m args below meth c G A nL Q N ad ev cells slots pc lv (.int (iI b) :: .int (iI a) :: st) := fun H locs ls hP hD hS hl => lv_isub C.1 C.2.1 hd (by rw [iI_sub]; exact k H locs ls hP hD hS hl)
theorem n_imul (C : Cx p s m args meth c G A nL cc own Ts) {a b : Int} (hd : decode cc pc = .ok (.imul, 1)) (k : V p l E R s m args below meth c G A nL Q N ad ev cells slots (pc + 1) lv (.int (iI (a * b)) :: st)) : V p l E R s m args below meth c G A nL Q N ad ev cells slots pc lv (.int (iI b) :: .int (iI a) :: st) := fun H locs ls hP hD hS hl => lv_imul C.1 C.2.1 hd (by rw [iI_mul]; exact k H locs ls hP hD hS hl)
theorem n_dup (C : Cx p s m args meth c G A nL cc own Ts) {w : Value} (hd : decode cc pc = .ok (.dup, 1)) (hw : w.category = 1) (k : V p l E R s m args below meth c G A nL Q N ad ev cells slots (pc + 1) lv (w :: w :: st)) : V p l E R s m args below meth c G A nL Q N ad ev cells slots pc lv (w :: st) := fun H locs ls hP hD hS hl => lv_dup C.1 C.2.1 hd hw (k H locs ls hP hD hS hl)
theorem n_pop (C : Cx p s m args meth c G A nL cc own Ts) {w : Value} (hd : decode cc pc = .ok (.pop, 1)) (hw : w.category = 1) (k : V p l E R s m args below meth c G A nL Q N ad ev cells slots (pc + 1) lv st) : V p l E R s m args below meth c G A nL Q N ad ev cells slots pc lv (w :: st) := fun H locs ls hP hD hS hl => lv_pop C.1 C.2.1 hd hw (k H locs ls hP hD hS hl)
theorem n_i2s (C : Cx p s m args meth c G A nL cc own Ts) {z : Int} (hd : decode cc pc = .ok (.i2s, 1)) (h1 : -32768 ≤ z) (h2 : z < 32768) (k : V p l E R s m args below meth c G A nL Q N ad ev cells slots (pc + 1) lv (.int (iI z) :: st)) : V p l E R s m args below meth c G A nL Q N ad ev cells slots pc lv (.int (iI z) :: st) := fun H locs ls hP hD hS hl => lv_i2s C.1 C.2.1 hd (iI_i16 h1 h2) (k H locs ls hP hD hS hl)
theorem n_i2sR (C : Cx p s m args meth c G A nL cc own Ts) {x : Int32} (hd : decode cc pc = .ok (.i2s, 1)) (k : V p l E R s m args below meth c G A nL Q N ad ev cells slots (pc + 1) lv (.int x.toInt16.toInt32 :: st)) : V p l E R s m args below meth c G A nL Q N ad ev cells slots pc lv (.int x :: st) := fun H locs ls hP hD hS hl => lv_i2s C.1 C.2.1 hd rfl (k H locs ls hP hD hS hl)
theorem n_goto (C : Cx p s m args meth c G A nL cc own Ts) {off : Int} {tgt : Nat} (hd : decode cc pc = .ok (.goto off, 3)) (ht : (pc : Int) + off = (tgt : Int)) (k : V p l E R s m args below meth c G A nL Q N ad ev cells slots tgt lv st) : V p l E R s m args below meth c G A nL Q N ad ev cells slots pc lv st := fun H locs ls hP hD hS hl => lv_goto C.1 C.2.1 hd ht (k H locs ls hP hD hS hl)
theorem n_icmp_eq (C : Cx p s m args meth c G A nL cc own Ts) {a b : Int} {off : Int} {tgt : Nat} (hd : decode cc pc = .ok (.if_icmp .eq off, 3)) (ht : (pc : Int) + off = (tgt : Int)) (h1 : -2147483648 ≤ a) (h2 : a < 2147483648) (h3 : -2147483648 ≤ b) (h4 : b < 2147483648)
    (kt : a = b → V p l E R s m args below meth c G A nL Q N ad ev cells slots tgt lv st) (kf : a ≠ b → V p l E R s m args below meth c G A nL Q N ad ev cells slots (pc + 3) lv st) : V p l E R s m args below meth c G A nL Q N ad ev cells slots pc lv (.int (iI b) :: .int (iI a) :: st) := by
  intro H locs ls hP hD hS hl
  refine lv_icmp_eq C.1 C.2.1 hd ht (fun h => kt ?_ H locs ls hP hD hS hl) (fun h => kf ?_ H locs ls hP hD hS hl)
  · have e1 := iI_lt h1 h2 h3 h4; have e2 := iI_le h1 h2 h3 h4; have e3 := iI_inj h1 h2 h3 h4; have e4 := iI_lt h3 h4 h1 h2; have e5 := iI_le h3 h4 h1 h2
    simp only [e1, e2, e3, e4, e5, ne_eq] at h
    omega
  · have e1 := iI_lt h1 h2 h3 h4; have e2 := iI_le h1 h2 h3 h4; have e3 := iI_inj h1 h2 h3 h4; have e4 := iI_lt h3 h4 h1 h2; have e5 := iI_le h3 h4 h1 h2
    simp only [e1, e2, e3, e4, e5, ne_eq] at h
    omega
theorem n_if_eq (C : Cx p s m args meth c G A nL cc own Ts) {a : Int} {off : Int} {tgt : Nat} (hd : decode cc pc = .ok (.ifCond .eq off, 3)) (ht : (pc : Int) + off = (tgt : Int)) (h1 : -2147483648 ≤ a) (h2 : a < 2147483648)
    (kt : a = 0 → V p l E R s m args below meth c G A nL Q N ad ev cells slots tgt lv st) (kf : a ≠ 0 → V p l E R s m args below meth c G A nL Q N ad ev cells slots (pc + 3) lv st) : V p l E R s m args below meth c G A nL Q N ad ev cells slots pc lv (.int (iI a) :: st) := by
  intro H locs ls hP hD hS hl
  refine lv_if_eq C.1 C.2.1 hd ht (fun h => kt ?_ H locs ls hP hD hS hl) (fun h => kf ?_ H locs ls hP hD hS hl)
  · have e1 := iI_lt h1 h2 (b := 0) (by omega) (by omega); have e2 := iI_le h1 h2 (b := 0) (by omega) (by omega); have e3 := iI_inj h1 h2 (b := 0) (by omega) (by omega); have e4 := iI_lt (a := 0) (by omega) (by omega) h1 h2; have e5 := iI_le (a := 0) (by omega) (by omega) h1 h2
    simp only [iI_0, e1, e2, e3, e4, e5, ne_eq] at h
    omega
  · have e1 := iI_lt h1 h2 (b := 0) (by omega) (by omega); have e2 := iI_le h1 h2 (b := 0) (by omega) (by omega); have e3 := iI_inj h1 h2 (b := 0) (by omega) (by omega); have e4 := iI_lt (a := 0) (by omega) (by omega) h1 h2; have e5 := iI_le (a := 0) (by omega) (by omega) h1 h2
    simp only [iI_0, e1, e2, e3, e4, e5, ne_eq] at h
    omega
theorem n_icmp_ne (C : Cx p s m args meth c G A nL cc own Ts) {a b : Int} {off : Int} {tgt : Nat} (hd : decode cc pc = .ok (.if_icmp .ne off, 3)) (ht : (pc : Int) + off = (tgt : Int)) (h1 : -2147483648 ≤ a) (h2 : a < 2147483648) (h3 : -2147483648 ≤ b) (h4 : b < 2147483648)
    (kt : a ≠ b → V p l E R s m args below meth c G A nL Q N ad ev cells slots tgt lv st) (kf : a = b → V p l E R s m args below meth c G A nL Q N ad ev cells slots (pc + 3) lv st) : V p l E R s m args below meth c G A nL Q N ad ev cells slots pc lv (.int (iI b) :: .int (iI a) :: st) := by
  intro H locs ls hP hD hS hl
  refine lv_icmp_ne C.1 C.2.1 hd ht (fun h => kt ?_ H locs ls hP hD hS hl) (fun h => kf ?_ H locs ls hP hD hS hl)
  · have e1 := iI_lt h1 h2 h3 h4; have e2 := iI_le h1 h2 h3 h4; have e3 := iI_inj h1 h2 h3 h4; have e4 := iI_lt h3 h4 h1 h2; have e5 := iI_le h3 h4 h1 h2
    simp only [e1, e2, e3, e4, e5, ne_eq] at h
    omega
  · have e1 := iI_lt h1 h2 h3 h4; have e2 := iI_le h1 h2 h3 h4; have e3 := iI_inj h1 h2 h3 h4; have e4 := iI_lt h3 h4 h1 h2; have e5 := iI_le h3 h4 h1 h2
    simp only [e1, e2, e3, e4, e5, ne_eq] at h
    omega
theorem n_if_ne (C : Cx p s m args meth c G A nL cc own Ts) {a : Int} {off : Int} {tgt : Nat} (hd : decode cc pc = .ok (.ifCond .ne off, 3)) (ht : (pc : Int) + off = (tgt : Int)) (h1 : -2147483648 ≤ a) (h2 : a < 2147483648)
    (kt : a ≠ 0 → V p l E R s m args below meth c G A nL Q N ad ev cells slots tgt lv st) (kf : a = 0 → V p l E R s m args below meth c G A nL Q N ad ev cells slots (pc + 3) lv st) : V p l E R s m args below meth c G A nL Q N ad ev cells slots pc lv (.int (iI a) :: st) := by
  intro H locs ls hP hD hS hl
  refine lv_if_ne C.1 C.2.1 hd ht (fun h => kt ?_ H locs ls hP hD hS hl) (fun h => kf ?_ H locs ls hP hD hS hl)
  · have e1 := iI_lt h1 h2 (b := 0) (by omega) (by omega); have e2 := iI_le h1 h2 (b := 0) (by omega) (by omega); have e3 := iI_inj h1 h2 (b := 0) (by omega) (by omega); have e4 := iI_lt (a := 0) (by omega) (by omega) h1 h2; have e5 := iI_le (a := 0) (by omega) (by omega) h1 h2
    simp only [iI_0, e1, e2, e3, e4, e5, ne_eq] at h
    omega
  · have e1 := iI_lt h1 h2 (b := 0) (by omega) (by omega); have e2 := iI_le h1 h2 (b := 0) (by omega) (by omega); have e3 := iI_inj h1 h2 (b := 0) (by omega) (by omega); have e4 := iI_lt (a := 0) (by omega) (by omega) h1 h2; have e5 := iI_le (a := 0) (by omega) (by omega) h1 h2
    simp only [iI_0, e1, e2, e3, e4, e5, ne_eq] at h
    omega
theorem n_icmp_lt (C : Cx p s m args meth c G A nL cc own Ts) {a b : Int} {off : Int} {tgt : Nat} (hd : decode cc pc = .ok (.if_icmp .lt off, 3)) (ht : (pc : Int) + off = (tgt : Int)) (h1 : -2147483648 ≤ a) (h2 : a < 2147483648) (h3 : -2147483648 ≤ b) (h4 : b < 2147483648)
    (kt : a < b → V p l E R s m args below meth c G A nL Q N ad ev cells slots tgt lv st) (kf : a ≥ b → V p l E R s m args below meth c G A nL Q N ad ev cells slots (pc + 3) lv st) : V p l E R s m args below meth c G A nL Q N ad ev cells slots pc lv (.int (iI b) :: .int (iI a) :: st) := by
  intro H locs ls hP hD hS hl
  refine lv_icmp_lt C.1 C.2.1 hd ht (fun h => kt ?_ H locs ls hP hD hS hl) (fun h => kf ?_ H locs ls hP hD hS hl)
  · have e1 := iI_lt h1 h2 h3 h4; have e2 := iI_le h1 h2 h3 h4; have e3 := iI_inj h1 h2 h3 h4; have e4 := iI_lt h3 h4 h1 h2; have e5 := iI_le h3 h4 h1 h2
    simp only [e1, e2, e3, e4, e5, ne_eq] at h
    omega
  · have e1 := iI_lt h1 h2 h3 h4; have e2 := iI_le h1 h2 h3 h4; have e3 := iI_inj h1 h2 h3 h4; have e4 := iI_lt h3 h4 h1 h2; have e5 := iI_le h3 h4 h1 h2
    simp only [e1, e2, e3, e4, e5, ne_eq] at h
    omega
theorem n_if_lt (C : Cx p s m args meth c G A nL cc own Ts) {a : Int} {off : Int} {tgt : Nat} (hd : decode cc pc = .ok (.ifCond .lt off, 3)) (ht : (pc : Int) + off = (tgt : Int)) (h1 : -2147483648 ≤ a) (h2 : a < 2147483648)
    (kt : a < 0 → V p l E R s m args below meth c G A nL Q N ad ev cells slots tgt lv st) (kf : a ≥ 0 → V p l E R s m args below meth c G A nL Q N ad ev cells slots (pc + 3) lv st) : V p l E R s m args below meth c G A nL Q N ad ev cells slots pc lv (.int (iI a) :: st) := by
  intro H locs ls hP hD hS hl
  refine lv_if_lt C.1 C.2.1 hd ht (fun h => kt ?_ H locs ls hP hD hS hl) (fun h => kf ?_ H locs ls hP hD hS hl)
  · have e1 := iI_lt h1 h2 (b := 0) (by omega) (by omega); have e2 := iI_le h1 h2 (b := 0) (by omega) (by omega); have e3 := iI_inj h1 h2 (b := 0) (by omega) (by omega); have e4 := iI_lt (a := 0) (by omega) (by omega) h1 h2; have e5 := iI_le (a := 0) (by omega) (by omega) h1 h2
    simp only [iI_0, e1, e2, e3, e4, e5, ne_eq] at h
    omega
  · have e1 := iI_lt h1 h2 (b := 0) (by omega) (by omega); have e2 := iI_le h1 h2 (b := 0) (by omega) (by omega); have e3 := iI_inj h1 h2 (b := 0) (by omega) (by omega); have e4 := iI_lt (a := 0) (by omega) (by omega) h1 h2; have e5 := iI_le (a := 0) (by omega) (by omega) h1 h2
    simp only [iI_0, e1, e2, e3, e4, e5, ne_eq] at h
    omega
theorem n_icmp_ge (C : Cx p s m args meth c G A nL cc own Ts) {a b : Int} {off : Int} {tgt : Nat} (hd : decode cc pc = .ok (.if_icmp .ge off, 3)) (ht : (pc : Int) + off = (tgt : Int)) (h1 : -2147483648 ≤ a) (h2 : a < 2147483648) (h3 : -2147483648 ≤ b) (h4 : b < 2147483648)
    (kt : a ≥ b → V p l E R s m args below meth c G A nL Q N ad ev cells slots tgt lv st) (kf : a < b → V p l E R s m args below meth c G A nL Q N ad ev cells slots (pc + 3) lv st) : V p l E R s m args below meth c G A nL Q N ad ev cells slots pc lv (.int (iI b) :: .int (iI a) :: st) := by
  intro H locs ls hP hD hS hl
  refine lv_icmp_ge C.1 C.2.1 hd ht (fun h => kt ?_ H locs ls hP hD hS hl) (fun h => kf ?_ H locs ls hP hD hS hl)
  · have e1 := iI_lt h1 h2 h3 h4; have e2 := iI_le h1 h2 h3 h4; have e3 := iI_inj h1 h2 h3 h4; have e4 := iI_lt h3 h4 h1 h2; have e5 := iI_le h3 h4 h1 h2
    simp only [e1, e2, e3, e4, e5, ne_eq] at h
    omega
  · have e1 := iI_lt h1 h2 h3 h4; have e2 := iI_le h1 h2 h3 h4; have e3 := iI_inj h1 h2 h3 h4; have e4 := iI_lt h3 h4 h1 h2; have e5 := iI_le h3 h4 h1 h2
    simp only [e1, e2, e3, e4, e5, ne_eq] at h
    omega
theorem n_if_ge (C : Cx p s m args meth c G A nL cc own Ts) {a : Int} {off : Int} {tgt : Nat} (hd : decode cc pc = .ok (.ifCond .ge off, 3)) (ht : (pc : Int) + off = (tgt : Int)) (h1 : -2147483648 ≤ a) (h2 : a < 2147483648)
    (kt : a ≥ 0 → V p l E R s m args below meth c G A nL Q N ad ev cells slots tgt lv st) (kf : a < 0 → V p l E R s m args below meth c G A nL Q N ad ev cells slots (pc + 3) lv st) : V p l E R s m args below meth c G A nL Q N ad ev cells slots pc lv (.int (iI a) :: st) := by
  intro H locs ls hP hD hS hl
  refine lv_if_ge C.1 C.2.1 hd ht (fun h => kt ?_ H locs ls hP hD hS hl) (fun h => kf ?_ H locs ls hP hD hS hl)
  · have e1 := iI_lt h1 h2 (b := 0) (by omega) (by omega); have e2 := iI_le h1 h2 (b := 0) (by omega) (by omega); have e3 := iI_inj h1 h2 (b := 0) (by omega) (by omega); have e4 := iI_lt (a := 0) (by omega) (by omega) h1 h2; have e5 := iI_le (a := 0) (by omega) (by omega) h1 h2
    simp only [iI_0, e1, e2, e3, e4, e5, ne_eq] at h
    omega
  · have e1 := iI_lt h1 h2 (b := 0) (by omega) (by omega); have e2 := iI_le h1 h2 (b := 0) (by omega) (by omega); have e3 := iI_inj h1 h2 (b := 0) (by omega) (by omega); have e4 := iI_lt (a := 0) (by omega) (by omega) h1 h2; have e5 := iI_le (a := 0) (by omega) (by omega) h1 h2
    simp only [iI_0, e1, e2, e3, e4, e5, ne_eq] at h
    omega
theorem n_icmp_gt (C : Cx p s m args meth c G A nL cc own Ts) {a b : Int} {off : Int} {tgt : Nat} (hd : decode cc pc = .ok (.if_icmp .gt off, 3)) (ht : (pc : Int) + off = (tgt : Int)) (h1 : -2147483648 ≤ a) (h2 : a < 2147483648) (h3 : -2147483648 ≤ b) (h4 : b < 2147483648)
    (kt : a > b → V p l E R s m args below meth c G A nL Q N ad ev cells slots tgt lv st) (kf : a ≤ b → V p l E R s m args below meth c G A nL Q N ad ev cells slots (pc + 3) lv st) : V p l E R s m args below meth c G A nL Q N ad ev cells slots pc lv (.int (iI b) :: .int (iI a) :: st) := by
  intro H locs ls hP hD hS hl
  refine lv_icmp_gt C.1 C.2.1 hd ht (fun h => kt ?_ H locs ls hP hD hS hl) (fun h => kf ?_ H locs ls hP hD hS hl)
  · have e1 := iI_lt h1 h2 h3 h4; have e2 := iI_le h1 h2 h3 h4; have e3 := iI_inj h1 h2 h3 h4; have e4 := iI_lt h3 h4 h1 h2; have e5 := iI_le h3 h4 h1 h2
    simp only [e1, e2, e3, e4, e5, ne_eq] at h
    omega
  · have e1 := iI_lt h1 h2 h3 h4; have e2 := iI_le h1 h2 h3 h4; have e3 := iI_inj h1 h2 h3 h4; have e4 := iI_lt h3 h4 h1 h2; have e5 := iI_le h3 h4 h1 h2
    simp only [e1, e2, e3, e4, e5, ne_eq] at h
    omega
theorem n_if_gt (C : Cx p s m args meth c G A nL cc own Ts) {a : Int} {off : Int} {tgt : Nat} (hd : decode cc pc = .ok (.ifCond .gt off, 3)) (ht : (pc : Int) + off = (tgt : Int)) (h1 : -2147483648 ≤ a) (h2 : a < 2147483648)
    (kt : a > 0 → V p l E R s m args below meth c G A nL Q N ad ev cells slots tgt lv st) (kf : a ≤ 0 → V p l E R s m args below meth c G A nL Q N ad ev cells slots (pc + 3) lv st) : V p l E R s m args below meth c G A nL Q N ad ev cells slots pc lv (.int (iI a) :: st) := by
  intro H locs ls hP hD hS hl
  refine lv_if_gt C.1 C.2.1 hd ht (fun h => kt ?_ H locs ls hP hD hS hl) (fun h => kf ?_ H locs ls hP hD hS hl)
  · have e1 := iI_lt h1 h2 (b := 0) (by omega) (by omega); have e2 := iI_le h1 h2 (b := 0) (by omega) (by omega); have e3 := iI_inj h1 h2 (b := 0) (by omega) (by omega); have e4 := iI_lt (a := 0) (by omega) (by omega) h1 h2; have e5 := iI_le (a := 0) (by omega) (by omega) h1 h2
    simp only [iI_0, e1, e2, e3, e4, e5, ne_eq] at h
    omega
  · have e1 := iI_lt h1 h2 (b := 0) (by omega) (by omega); have e2 := iI_le h1 h2 (b := 0) (by omega) (by omega); have e3 := iI_inj h1 h2 (b := 0) (by omega) (by omega); have e4 := iI_lt (a := 0) (by omega) (by omega) h1 h2; have e5 := iI_le (a := 0) (by omega) (by omega) h1 h2
    simp only [iI_0, e1, e2, e3, e4, e5, ne_eq] at h
    omega
theorem n_icmp_le (C : Cx p s m args meth c G A nL cc own Ts) {a b : Int} {off : Int} {tgt : Nat} (hd : decode cc pc = .ok (.if_icmp .le off, 3)) (ht : (pc : Int) + off = (tgt : Int)) (h1 : -2147483648 ≤ a) (h2 : a < 2147483648) (h3 : -2147483648 ≤ b) (h4 : b < 2147483648)
    (kt : a ≤ b → V p l E R s m args below meth c G A nL Q N ad ev cells slots tgt lv st) (kf : a > b → V p l E R s m args below meth c G A nL Q N ad ev cells slots (pc + 3) lv st) : V p l E R s m args below meth c G A nL Q N ad ev cells slots pc lv (.int (iI b) :: .int (iI a) :: st) := by
  intro H locs ls hP hD hS hl
  refine lv_icmp_le C.1 C.2.1 hd ht (fun h => kt ?_ H locs ls hP hD hS hl) (fun h => kf ?_ H locs ls hP hD hS hl)
  · have e1 := iI_lt h1 h2 h3 h4; have e2 := iI_le h1 h2 h3 h4; have e3 := iI_inj h1 h2 h3 h4; have e4 := iI_lt h3 h4 h1 h2; have e5 := iI_le h3 h4 h1 h2
    simp only [e1, e2, e3, e4, e5, ne_eq] at h
    omega
  · have e1 := iI_lt h1 h2 h3 h4; have e2 := iI_le h1 h2 h3 h4; have e3 := iI_inj h1 h2 h3 h4; have e4 := iI_lt h3 h4 h1 h2; have e5 := iI_le h3 h4 h1 h2
    simp only [e1, e2, e3, e4, e5, ne_eq] at h
    omega
theorem n_if_le (C : Cx p s m args meth c G A nL cc own Ts) {a : Int} {off : Int} {tgt : Nat} (hd : decode cc pc = .ok (.ifCond .le off, 3)) (ht : (pc : Int) + off = (tgt : Int)) (h1 : -2147483648 ≤ a) (h2 : a < 2147483648)
    (kt : a ≤ 0 → V p l E R s m args below meth c G A nL Q N ad ev cells slots tgt lv st) (kf : a > 0 → V p l E R s m args below meth c G A nL Q N ad ev cells slots (pc + 3) lv st) : V p l E R s m args below meth c G A nL Q N ad ev cells slots pc lv (.int (iI a) :: st) := by
  intro H locs ls hP hD hS hl
  refine lv_if_le C.1 C.2.1 hd ht (fun h => kt ?_ H locs ls hP hD hS hl) (fun h => kf ?_ H locs ls hP hD hS hl)
  · have e1 := iI_lt h1 h2 (b := 0) (by omega) (by omega); have e2 := iI_le h1 h2 (b := 0) (by omega) (by omega); have e3 := iI_inj h1 h2 (b := 0) (by omega) (by omega); have e4 := iI_lt (a := 0) (by omega) (by omega) h1 h2; have e5 := iI_le (a := 0) (by omega) (by omega) h1 h2
    simp only [iI_0, e1, e2, e3, e4, e5, ne_eq] at h
    omega
  · have e1 := iI_lt h1 h2 (b := 0) (by omega) (by omega); have e2 := iI_le h1 h2 (b := 0) (by omega) (by omega); have e3 := iI_inj h1 h2 (b := 0) (by omega) (by omega); have e4 := iI_lt (a := 0) (by omega) (by omega) h1 h2; have e5 := iI_le (a := 0) (by omega) (by omega) h1 h2
    simp only [iI_0, e1, e2, e3, e4, e5, ne_eq] at h
    omega
theorem n_icmp_eqR (C : Cx p s m args meth c G A nL cc own Ts) {x y : Int32} {off : Int} {tgt : Nat} (hd : decode cc pc = .ok (.if_icmp .eq off, 3)) (ht : (pc : Int) + off = (tgt : Int))
    (kt : x = y → V p l E R s m args below meth c G A nL Q N ad ev cells slots tgt lv st) (kf : x ≠ y → V p l E R s m args below meth c G A nL Q N ad ev cells slots (pc + 3) lv st) : V p l E R s m args below meth c G A nL Q N ad ev cells slots pc lv (.int y :: .int x :: st) := by
  intro H locs ls hP hD hS hl
  refine lv_icmp_eq C.1 C.2.1 hd ht (fun h => kt ?_ H locs ls hP hD hS hl) (fun h => kf ?_ H locs ls hP hD hS hl)
  · first | exact h | simpa using h
  · first | exact h | simpa using h
theorem n_icmp_neR (C : Cx p s m args meth c G A nL cc own Ts) {x y : Int32} {off : Int} {tgt : Nat} (hd : decode cc pc = .ok (.if_icmp .ne off, 3)) (ht : (pc : Int) + off = (tgt : Int))
    (kt : x ≠ y → V p l E R s m args below meth c G A nL Q N ad ev cells slots tgt lv st) (kf : x = y → V p l E R s m args below meth c G A nL Q N ad ev cells slots (pc + 3) lv st) : V p l E R s m args below meth c G A nL Q N ad ev cells slots pc lv (.int y :: .int x :: st) := by
  intro H locs ls hP hD hS hl
  refine lv_icmp_ne C.1 C.2.1 hd ht (fun h => kt ?_ H locs ls hP hD hS hl) (fun h => kf ?_ H locs ls hP hD hS hl)
  · first | exact h | simpa using h
  · first | exact h | simpa using h
theorem n_if_eqR (C : Cx p s m args meth c G A nL cc own Ts) {x : Int32} {off : Int} {tgt : Nat} (hd : decode cc pc = .ok (.ifCond .eq off, 3)) (ht : (pc : Int) + off = (tgt : Int))
    (kt : x = iI 0 → V p l E R s m args below meth c G A nL Q N ad ev cells slots tgt lv st) (kf : x ≠ iI 0 → V p l E R s m args below meth c G A nL Q N ad ev cells slots (pc + 3) lv st) : V p l E R s m args below meth c G A nL Q N ad ev cells slots pc lv (.int x :: st) := by
  intro H locs ls hP hD hS hl
  refine lv_if_eq C.1 C.2.1 hd ht (fun h => kt ?_ H locs ls hP hD hS hl) (fun h => kf ?_ H locs ls hP hD hS hl)
  · first | exact h | (rw [iI_0] at h; simpa using h)
  · first | exact h | (rw [iI_0] at h; simpa using h)
theorem n_if_neR (C : Cx p s m args meth c G A nL cc own Ts) {x : Int32} {off : Int} {tgt : Nat} (hd : decode cc pc = .ok (.ifCond .ne off, 3)) (ht : (pc : Int) + off = (tgt : Int))
    (kt : x ≠ iI 0 → V p l E R s m args below meth c G A nL Q N ad ev cells slots tgt lv st) (kf : x = iI 0 → V p l E R s m args below meth c G A nL Q N ad ev cells slots (pc + 3) lv st) : V p l E R s m args below meth c G A nL Q N ad ev cells slots pc lv (.int x :: st) := by
  intro H locs ls hP hD hS hl
  refine lv_if_ne C.1 C.2.1 hd ht (fun h => kt ?_ H locs ls hP hD hS hl) (fun h => kf ?_ H locs ls hP hD hS hl)
  · first | exact h | (rw [iI_0] at h; simpa using h)
  · first | exact h | (rw [iI_0] at h; simpa using h)
def bI (b : Bool) : Int32 := if b then 1 else 0
theorem bI_1 : bI true = iI 1 := rfl
theorem bI_0 : bI false = iI 0 := rfl
theorem n_if_eqB (C : Cx p s m args meth c G A nL cc own Ts) {b : Bool} {off : Int} {tgt : Nat} (hd : decode cc pc = .ok (.ifCond .eq off, 3)) (ht : (pc : Int) + off = (tgt : Int))
    (kt : b = false → V p l E R s m args below meth c G A nL Q N ad ev cells slots tgt lv st) (kf : b = true → V p l E R s m args below meth c G A nL Q N ad ev cells slots (pc + 3) lv st) : V p l E R s m args below meth c G A nL Q N ad ev cells slots pc lv (.int (bI b) :: st) := by
  intro H locs ls hP hD hS hl
  refine lv_if_eq C.1 C.2.1 hd ht (fun h => kt ?_ H locs ls hP hD hS hl) (fun h => kf ?_ H locs ls hP hD hS hl)
  · cases b <;> simp [bI] at h ⊢
  · cases b <;> simp [bI] at h ⊢
theorem n_if_neB (C : Cx p s m args meth c G A nL cc own Ts) {b : Bool} {off : Int} {tgt : Nat} (hd : decode cc pc = .ok (.ifCond .ne off, 3)) (ht : (pc : Int) + off = (tgt : Int))
    (kt : b = true → V p l E R s m args below meth c G A nL Q N ad ev cells slots tgt lv st) (kf : b = false → V p l E R s m args below meth c G A nL Q N ad ev cells slots (pc + 3) lv st) : V p l E R s m args below meth c G A nL Q N ad ev cells slots pc lv (.int (bI b) :: st) := by
  intro H locs ls hP hD hS hl
  refine lv_if_ne C.1 C.2.1 hd ht (fun h => kt ?_ H locs ls hP hD hS hl) (fun h => kf ?_ H locs ls hP hD hS hl)
  · cases b <;> simp [bI] at h ⊢
  · cases b <;> simp [bI] at h ⊢
theorem n_top {w w2 : Value} (h : w = w2) (k : V p l E R s m args below meth c G A nL Q N ad ev cells slots pc lv (w2 :: st)) : V p l E R s m args below meth c G A nL Q N ad ev cells slots pc lv (w :: st) := by subst h; exact k
theorem n_topI {x y : Int32} (h : x = y) (k : V p l E R s m args below meth c G A nL Q N ad ev cells slots pc lv (.int y :: st)) : V p l E R s m args below meth c G A nL Q N ad ev cells slots pc lv (.int x :: st) := by subst h; exact k
theorem n_st {st2 : List Value} (h : st = st2) (k : V p l E R s m args below meth c G A nL Q N ad ev cells slots pc lv st2) : V p l E R s m args below meth c G A nL Q N ad ev cells slots pc lv st := by subst h; exact k
theorem n_pc {pc2 : Nat} (h : pc = pc2) (k : V p l E R s m args below meth c G A nL Q N ad ev cells slots pc2 lv st) : V p l E R s m args below meth c G A nL Q N ad ev cells slots pc lv st := by subst h; exact k
theorem n_lv {lv2 : List (Nat × Value)} (h : lv = lv2) (k : V p l E R s m args below meth c G A nL Q N ad ev cells slots pc lv2 st) : V p l E R s m args below meth c G A nL Q N ad ev cells slots pc lv st := by subst h; exact k
theorem n_ev {e2 : Nat → va_E} (h : ev = e2) (k : V p l E R s m args below meth c G A nL Q N ad e2 cells slots pc lv st) : V p l E R s m args below meth c G A nL Q N ad ev cells slots pc lv st := by subst h; exact k
theorem n_sub {lv2 : List (Nat × Value)} (ks : List Nat) (h : lv_pick lv ks = lv2) (k : V p l E R s m args below meth c G A nL Q N ad ev cells slots pc lv2 st) : V p l E R s m args below meth c G A nL Q N ad ev cells slots pc lv st := fun H locs ls hP hD hS hl => k H locs ls hP hD hS (lv_sub hl ks h)
theorem n_widen {c2 s2 : Nat} (h1 : cells ≤ c2) (h2 : slots ≤ s2) (k : V p l E R s m args below meth c G A nL Q N ad ev c2 s2 pc lv st) : V p l E R s m args below meth c G A nL Q N ad ev cells slots pc lv st := fun H locs ls hP hD hS hl => W.widen h1 h2 (k H locs ls hP hD hS hl)
theorem n_tswIn (C : Cx p s m args meth c G A nL cc own Ts) {z dflt lo hi off : Int} {offs : Array Int} {len tgt : Nat} (hd : decode cc pc = .ok (.tableswitch dflt lo hi offs, len)) (h1 : -2147483648 ≤ z) (h2 : z < 2147483648) (hlo : lo ≤ z) (hhi : z ≤ hi) (ho : offs[(z - lo).toNat]? = some off) (ht : (pc : Int) + off = (tgt : Int)) (k : V p l E R s m args below meth c G A nL Q N ad ev cells slots tgt lv st) : V p l E R s m args below meth c G A nL Q N ad ev cells slots pc lv (.int (iI z) :: st) :=
  fun H locs ls hP hD hS hl => lv_tableIn C.1 C.2.1 hd (by rw [iI_toInt h1 h2]; omega) (by rw [iI_toInt h1 h2]; omega) (by rw [iI_toInt h1 h2]; exact ho) ht (k H locs ls hP hD hS hl)
theorem n_tswOut (C : Cx p s m args meth c G A nL cc own Ts) {z dflt lo hi : Int} {offs : Array Int} {len tgt : Nat} (hd : decode cc pc = .ok (.tableswitch dflt lo hi offs, len)) (h1 : -2147483648 ≤ z) (h2 : z < 2147483648) (ho : z < lo ∨ hi < z) (ht : (pc : Int) + dflt = (tgt : Int)) (k : V p l E R s m args below meth c G A nL Q N ad ev cells slots tgt lv st) : V p l E R s m args below meth c G A nL Q N ad ev cells slots pc lv (.int (iI z) :: st) :=
  fun H locs ls hP hD hS hl => lv_tableOut C.1 C.2.1 hd (by rw [iI_toInt h1 h2]; exact ho) ht (k H locs ls hP hD hS hl)
theorem n_ldcf (C : Cx p s m args meth c G A nL cc own Ts) {idx : Nat} {x : UInt32} (hd : decode cc pc = .ok (.ldc idx, 2)) (hc : Cond.constantFloat own idx x ∈ Ts) (k : V p l E R s m args below meth c G A nL Q N ad ev cells slots (pc + 2) lv (.float x :: st)) : V p l E R s m args below meth c G A nL Q N ad ev cells slots pc lv st := fun H locs ls hP hD hS hl => lv_ldcf C.1 C.2.1 C.2.2.2.1 (C.2.2.2.2.1 _ hc) hd (k H locs ls hP hD hS hl)
theorem n_fconst1 (C : Cx p s m args meth c G A nL cc own Ts) (hd : decode cc pc = .ok (.fconst 1, 1)) (k : V p l E R s m args below meth c G A nL Q N ad ev cells slots (pc + 1) lv (.float FP.fconst1 :: st)) : V p l E R s m args below meth c G A nL Q N ad ev cells slots pc lv st := fun H locs ls hP hD hS hl => lv_fconst1 C.1 C.2.1 hd (k H locs ls hP hD hS hl)
theorem n_i2f (C : Cx p s m args meth c G A nL cc own Ts) {x : Int32} (hd : decode cc pc = .ok (.i2f, 1)) (k : V p l E R s m args below meth c G A nL Q N ad ev cells slots (pc + 1) lv (.float (FP.i2f x) :: st)) : V p l E R s m args below meth c G A nL Q N ad ev cells slots pc lv (.int x :: st) := fun H locs ls hP hD hS hl => lv_i2f C.1 C.2.1 hd (k H locs ls hP hD hS hl)
theorem n_fdiv (C : Cx p s m args meth c G A nL cc own Ts) {x y : UInt32} (hd : decode cc pc = .ok (.fdiv, 1)) (hne : vf_n32 (FP.fdiv x y)) (k : V p l E R s m args below meth c G A nL Q N ad ev cells slots (pc + 1) lv (.float (FP.fdiv x y) :: st)) : V p l E R s m args below meth c G A nL Q N ad ev cells slots pc lv (.float y :: .float x :: st) := fun H locs ls hP hD hS hl => lv_fdiv C.1 C.2.1 hd hne (k H locs ls hP hD hS hl)
theorem n_f2d (C : Cx p s m args meth c G A nL cc own Ts) {x : UInt32} (hd : decode cc pc = .ok (.f2d, 1)) (hne : vf_n64 (FP.f2d x)) (k : V p l E R s m args below meth c G A nL Q N ad ev cells slots (pc + 1) lv (.double (FP.f2d x) :: st)) : V p l E R s m args below meth c G A nL Q N ad ev cells slots pc lv (.float x :: st) := fun H locs ls hP hD hS hl => lv_f2d C.1 C.2.1 hd hne (k H locs ls hP hD hS hl)
theorem n_get (C : Cx p s m args meth c G A nL cc own Ts) {i ci idx Nf k9 : Nat} {fs : List Value} {Cn : String} {T : u_T} {v : Value} (hd : decode cc pc = .ok (.getfield idx, 3)) (hi : i < N) (he : ev i = .inr (ci, fs)) (hin : ∀ w ∈ u_ws Cn T Nf, w ∈ Ts) (hc : vwCl[ci]? = some (Cn, T, Nf)) (hk : k9 < Nf)
    (hlk : Cond.fieldLink own idx (T k9).1 (T k9).2.1 (T k9).2.2.1 ∈ Ts) (hv : fs[k9]? = some v) (k : V p l E R s m args below meth c G A nL Q N ad ev cells slots (pc + 3) lv (v :: st)) : V p l E R s m args below meth c G A nL Q N ad ev cells slots pc lv (.ref (ad i) :: st) :=
  fun H locs ls hP hD hS hl => va_get C.1 C.2.1 C.2.2.2.2.1 hin C.2.2.2.1 C.2.2.2.2.2.1.1 hP i (wd_is hi he) hc k9 hk (C.2.2.2.2.1 _ hlk) (fun _ h9 => h9) hv hd (k H locs ls hP hD hS hl)
theorem n_getN (C : Cx p s m args meth c G A nL cc own Ts) {i ci idx Nf k9 : Nat} {fs : List Value} {Cn : String} {T : u_T} {v : Value} (hd : decode cc pc = .ok (.getfield idx, 3)) (hi : i < N) (he : ev i = .inr (ci, fs)) (hin : ∀ w ∈ u_ws Cn T Nf, w ∈ Ts) (hc : vwCl[ci]? = some (Cn, T, Nf)) (hk : k9 < Nf)
    (hlk : Cond.fieldLinkNest own idx (T k9).1 (T k9).2.1 (T k9).2.2.1 "DiffDesk" ∈ nW) (hv : fs[k9]? = some v) (k : V p l E R s m args below meth c G A nL Q N ad ev cells slots (pc + 3) lv (v :: st)) : V p l E R s m args below meth c G A nL Q N ad ev cells slots pc lv (.ref (ad i) :: st) :=
  fun H locs ls hP hD hS hl => va_getN C.1 C.2.1 C.2.2.2.2.1 hin C.2.2.2.1 C.2.2.2.2.2.1.1 hP i (wd_is hi he) hc k9 hk (va_Nw.use rfl (C.2.2.2.2.2.1.2 _ hlk)) (fun _ h9 => h9) hv hd (k H locs ls hP hD hS hl)
theorem n_put (C : Cx p s m args meth c G A nL cc own Ts) {i ci idx Nf k9 : Nat} {fs fs2 : List Value} {Cn : String} {T : u_T} {v : Value} {ty0 : Nat → FieldType} (hd : decode cc pc = .ok (.putfield idx, 3)) (hi : i < N) (he : ev i = .inr (ci, fs)) (hin : ∀ w ∈ u_ws Cn T Nf, w ∈ Ts) (hty : ∀ k, k < Nf → parseFieldDescriptor (T k).2.2.1 = some (ty0 k)) (hnm : ∀ a, a < Nf → ∀ b, b < Nf → a ≠ b → (T a).2.1 ≠ (T b).2.1) (hc : vwCl[ci]? = some (Cn, T, Nf)) (hk : k9 < Nf)
    (hlk : Cond.fieldLink own idx (T k9).1 (T k9).2.1 (T k9).2.2.1 ∈ Ts) (hfin : (T k9).2.2.2 = false) (hn : narrow (ty0 k9) v = v) (hfit : fits (ty0 k9) v = true) (hl : k9 < fs.length) (hfs : fs.set k9 v = fs2) (k : ∀ e1 : Nat → va_E, e1 i = .inr (ci, fs2) → (∀ j9, j9 ≠ i → e1 j9 = ev j9) → V p l E R s m args below meth c G A nL Q N ad e1 cells slots (pc + 3) lv st) : V p l E R s m args below meth c G A nL Q N ad ev cells slots pc lv (v :: .ref (ad i) :: st) := by
  intro H locs ls hP hD hS hl9
  refine va_put C.1 C.2.1 C.2.2.2.2.1 hin ty0 hty hnm C.2.2.2.1 C.2.2.2.2.2.1.1 hP hD hS i (wd_is hi he) hc k9 hk (C.2.2.2.2.1 _ hlk) (fun _ h9 => h9) hfin (hty k9 hk) hn hfit hl hd fun H1 locs1 hP1 hD1 hS1 => ?_
  rw [wd_set, hfs] at hP1 hD1
  exact k _ (va_up_self _ _ _) (fun j hj => va_up_ne _ _ hj) H1 locs1 ls hP1 hD1 hS1 hl9
theorem n_putF (C : Cx p s m args meth c G A nL cc own Ts) {i ci idx Nf k9 : Nat} {fs fs2 : List Value} {Cn : String} {T : u_T} {v : Value} {ty0 : Nat → FieldType} (hd : decode cc pc = .ok (.putfield idx, 3)) (hi : i < N) (he : ev i = .inr (ci, fs)) (hin : ∀ w ∈ u_ws Cn T Nf, w ∈ Ts) (hty : ∀ k, k < Nf → parseFieldDescriptor (T k).2.2.1 = some (ty0 k)) (hnm : ∀ a, a < Nf → ∀ b, b < Nf → a ≠ b → (T a).2.1 ≠ (T b).2.1) (hc : vwCl[ci]? = some (Cn, T, Nf)) (hk : k9 < Nf)
    (hlk : Cond.fieldLink own idx (T k9).1 (T k9).2.1 (T k9).2.2.1 ∈ Ts) (hfin : (T k9).2.2.2 = true) (hin2 : meth.name = "<init>") (hdecl : (T k9).1 = own) (hn : narrow (ty0 k9) v = v) (hfit : fits (ty0 k9) v = true) (hl : k9 < fs.length) (hfs : fs.set k9 v = fs2) (k : ∀ e1 : Nat → va_E, e1 i = .inr (ci, fs2) → (∀ j9, j9 ≠ i → e1 j9 = ev j9) → V p l E R s m args below meth c G A nL Q N ad e1 cells slots (pc + 3) lv st) : V p l E R s m args below meth c G A nL Q N ad ev cells slots pc lv (v :: .ref (ad i) :: st) := by
  intro H locs ls hP hD hS hl9
  refine va_putF C.1 C.2.1 C.2.2.2.2.1 hin ty0 hty hnm C.2.2.2.1 C.2.2.2.2.2.1.1 hP hD hS i (wd_is hi he) hc k9 hk (C.2.2.2.2.1 _ hlk) (fun _ h9 => h9) hfin hin2 hdecl (hty k9 hk) hn hfit hl hd fun H1 locs1 hP1 hD1 hS1 => ?_
  rw [wd_set, hfs] at hP1 hD1
  exact k _ (va_up_self _ _ _) (fun j hj => va_up_ne _ _ hj) H1 locs1 ls hP1 hD1 hS1 hl9
theorem n_iald (C : Cx p s m args meth c G A nL cc own Ts) {i n j : Nat} {z : Int} {f : Nat → Int32} (hd : decode cc pc = .ok (.iaload, 1)) (hi : i < N) (he : ev i = .inl (G.2.1, n, .inl f)) (hz : z = (j : Int)) (hj : j < n) (hn : n ≤ 2147483648) (k : V p l E R s m args below meth c G A nL Q N ad ev cells slots (pc + 1) lv (.int (f j) :: st)) : V p l E R s m args below meth c G A nL Q N ad ev cells slots pc lv (.int (iI z) :: .ref (ad i) :: st) := by
  intro H locs ls hP hD hS hl
  refine va_iald C.1 C.2.1 C.2.2.2.2.2.1.1 hP i 0 (wd_is hi he) rfl (iI_in hz hj hn) hd ?_
  rw [iI_clamp hz (by omega)]
  exact k H locs ls hP hD hS hl
theorem n_iast (C : Cx p s m args meth c G A nL cc own Ts) {i n j : Nat} {z : Int} {x : Int32} {f : Nat → Int32} (hd : decode cc pc = .ok (.iastore, 1)) (hi : i < N) (he : ev i = .inl (G.2.1, n, .inl f)) (hz : z = (j : Int)) (hj : j < n) (hn : n ≤ 2147483648) (k : ∀ e1 : Nat → va_E, e1 i = .inl (G.2.1, n, .inl (upd f j x)) → (∀ j9, j9 ≠ i → e1 j9 = ev j9) → V p l E R s m args below meth c G A nL Q N ad e1 cells slots (pc + 1) lv st) : V p l E R s m args below meth c G A nL Q N ad ev cells slots pc lv (.int x :: .int (iI z) :: .ref (ad i) :: st) := by
  intro H locs ls hP hD hS hl
  refine va_iast C.1 C.2.1 C.2.2.2.2.2.1.1 hP hD hS i 0 (wd_is hi he) rfl (iI_in hz hj hn) hd fun H1 locs1 hP1 hD1 hS1 => ?_
  rw [wd_set, iI_clamp hz (by omega)] at hP1 hD1
  exact k _ (va_up_self _ _ _) (fun j hj => va_up_ne _ _ hj) H1 locs1 ls hP1 hD1 hS1 hl
theorem n_alen (C : Cx p s m args meth c G A nL cc own Ts) {i : Nat} {x : vp_A} (hd : decode cc pc = .ok (.arraylength, 1)) (hi : i < N) (he : ev i = .inl (G.2.1, x)) (k : V p l E R s m args below meth c G A nL Q N ad ev cells slots (pc + 1) lv (.int (iI (x.1 : Int)) :: st)) : V p l E R s m args below meth c G A nL Q N ad ev cells slots pc lv (.ref (ad i) :: st) :=
  fun H locs ls hP hD hS hl => va_alen C.1 C.2.1 C.2.2.2.2.2.1.1 hP i 0 (wd_is hi he) rfl (iI_nI x.1) hd (k H locs ls hP hD hS hl)
theorem n_aald (C : Cx p s m args meth c G A nL cc own Ts) {i n j q : Nat} {z : Int} {g : Nat → Option Nat} (hd : decode cc pc = .ok (.aaload, 1)) (hi : i < N) (he : ev i = .inl (G.2.2.1, n, .inr (.inr (.inr (.inr g))))) (hz : z = (j : Int)) (hj : j < n) (hn : n ≤ 2147483648) (hg : g j = some q) (k : V p l E R s m args below meth c G A nL Q N ad ev cells slots (pc + 1) lv (.ref q :: st)) : V p l E R s m args below meth c G A nL Q N ad ev cells slots pc lv (.int (iI z) :: .ref (ad i) :: st) := by
  intro H locs ls hP hD hS hl
  refine va_aldq C.1 C.2.1 C.2.2.2.2.2.1.1 hP i 1 (wd_is hi he) rfl (iI_in hz hj hn) hd ?_
  rw [iI_clamp hz (by omega), hg]
  exact k H locs ls hP hD hS hl
theorem n_aaldI (C : Cx p s m args meth c G A nL cc own Ts) {i n j q : Nat} {z : Int} {g : Nat → Option Nat} (hd : decode cc pc = .ok (.aaload, 1)) (hi : i < N) (he : ev i = .inl (G.2.2.2.1, n, .inr (.inr (.inr (.inr g))))) (hz : z = (j : Int)) (hj : j < n) (hn : n ≤ 2147483648) (hg : g j = some q) (k : V p l E R s m args below meth c G A nL Q N ad ev cells slots (pc + 1) lv (.ref q :: st)) : V p l E R s m args below meth c G A nL Q N ad ev cells slots pc lv (.int (iI z) :: .ref (ad i) :: st) := by
  intro H locs ls hP hD hS hl
  have hlt : (iI z).toNatClampNeg < n := by rw [iI_clamp hz (by omega)]; exact hj
  refine W.aald (v := va_rf (g (iI z).toNatClampNeg)) (ty := .array .int) C.1 C.2.1 (hP i _ (wd_is hi he)) ((C.2.2.2.2.2.1.1.2 2 _ rfl).1 n (fun j => va_rf (g j))) rfl (fun q => by cases q) (by show ¬ (iI z < 0 ∨ (arrV _ _ _).slots.size ≤ _); rw [arrV_size]; exact iI_in hz hj hn) (by show (arrV _ _ _).slots[_]? = _; rw [arrV_read _ _ hlt]) rfl rfl hd ?_
  rw [iI_clamp hz (by omega), hg]
  exact k H locs ls hP hD hS hl
theorem n_mmin (C : Cx p s m args meth c G A nL cc own Ts) {a b : Int} {idx : Nat} (hd : decode cc pc = .ok (.invokestatic idx, 3)) (g1 : Cond.methodLink own idx Lib.Math.min.name ∈ Ts) (g2 : Cond.static Lib.Math.min.name ∈ Ts) (g3 : Cond.initialized "java/lang/Math" ∈ Ts) (g4 : Cond.code Lib.Math.min.name Lib.Math.min.code 2 (some .int) ∈ Ts)
    (hf : 1 ≤ R.frames) (hlo : (st.map fun v => v.category).sum + 13 ≤ R.locals) (hc : cells ≤ R.cells) (hs : slots ≤ R.slots) (h1 : -2147483648 ≤ a) (h2 : a < 2147483648) (h3 : -2147483648 ≤ b) (h4 : b < 2147483648) (k : V p l E R s m args below meth c G A nL Q N ad ev cells slots (pc + 3) lv (.int (iI (min a b)) :: st)) : V p l E R s m args below meth c G A nL Q N ad ev cells slots pc lv (.int (iI b) :: .int (iI a) :: st) := by
  intro H locs ls hP hD hS hl
  refine va_mmin C.1 C.2.1 (C.2.2.1.trans hl.1.symm) C.2.2.2.1 (C.2.2.2.2.1 _ g1) (C.2.2.2.2.1 _ g2) (C.2.2.2.2.1 _ g3) (C.2.2.2.2.1 _ g4) hf hlo hc hs hd ?_
  have e : (if iI b < iI a then iI b else iI a) = iI (min a b) := by
    by_cases h : iI b < iI a
    · rw [if_pos h]
      rw [iI_lt (by assumption) (by assumption) (by assumption) (by assumption)] at h
      congr 1
      omega
    · rw [if_neg h]
      rw [iI_lt (by assumption) (by assumption) (by assumption) (by assumption)] at h
      congr 1
      omega
  rw [e]
  exact k H locs ls hP hD hS hl
theorem n_mmax (C : Cx p s m args meth c G A nL cc own Ts) {a b : Int} {idx : Nat} (hd : decode cc pc = .ok (.invokestatic idx, 3)) (g1 : Cond.methodLink own idx Lib.Math.max.name ∈ Ts) (g2 : Cond.static Lib.Math.max.name ∈ Ts) (g3 : Cond.initialized "java/lang/Math" ∈ Ts) (g4 : Cond.code Lib.Math.max.name Lib.Math.max.code 2 (some .int) ∈ Ts)
    (hf : 1 ≤ R.frames) (hlo : (st.map fun v => v.category).sum + 13 ≤ R.locals) (hc : cells ≤ R.cells) (hs : slots ≤ R.slots) (h1 : -2147483648 ≤ a) (h2 : a < 2147483648) (h3 : -2147483648 ≤ b) (h4 : b < 2147483648) (k : V p l E R s m args below meth c G A nL Q N ad ev cells slots (pc + 3) lv (.int (iI (max a b)) :: st)) : V p l E R s m args below meth c G A nL Q N ad ev cells slots pc lv (.int (iI b) :: .int (iI a) :: st) := by
  intro H locs ls hP hD hS hl
  refine va_mmax C.1 C.2.1 (C.2.2.1.trans hl.1.symm) C.2.2.2.1 (C.2.2.2.2.1 _ g1) (C.2.2.2.2.1 _ g2) (C.2.2.2.2.1 _ g3) (C.2.2.2.2.1 _ g4) hf hlo hc hs hd ?_
  have e : (if iI a < iI b then iI b else iI a) = iI (max a b) := by
    by_cases h : iI a < iI b
    · rw [if_pos h]
      rw [iI_lt (by assumption) (by assumption) (by assumption) (by assumption)] at h
      congr 1
      omega
    · rw [if_neg h]
      rw [iI_lt (by assumption) (by assumption) (by assumption) (by assumption)] at h
      congr 1
      omega
  rw [e]
  exact k H locs ls hP hD hS hl
/-- a method's end: it has answered v and left the world e2 -/
def Qg (G : GG) (N : Nat) (ad : Nat → Nat) (A : Nat → Prop) (post : Option Value → (Nat → va_E) → Prop) : Array Value → State → Outcome → State → Prop := fun _ st oc t =>
  (∃ (v : Option Value) (e2 : Nat → va_E), oc = .returned v ∧ post v e2 ∧ va_P G.1 vwCl (wd N ad e2) t.heap) ∧ va_F A st t
/-- a method's contract -/
def Ct (l : Launch) (y : MethodName) (ws : List Cond) (rm : Room) (av : List Value) (G : GG) (N : Nat) (ad : Nat → Nat) (ev : Nat → va_E) (mc ms : Nat) (post : Option Value → (Nat → va_E) → Prop) : Prop :=
  ∀ sz : Nat, Met l y ws rm (va_Pc av (fun U => U.heap.size = sz ∧ va_P G.1 vwCl (wd N ad ev) U.heap ∧ KW G U ∧ nInj N ad)) (Qg G N ad (nA N ad sz) post) mc ms (nA N ad sz)
theorem n_iret (C : Cx p s m args meth c G A nL cc own Ts) {post : Option Value → (Nat → va_E) → Prop} {x : Int32} (hr : meth.sig.returnType = some .int) (hd : decode cc pc = .ok (.ireturn, 1)) (hp : post (some (.int x)) ev) : V p l E R s m args below meth c G A nL (MQ below (Qg G N ad A post) args s cells slots A) N ad ev cells slots pc lv [.int x] :=
  fun H locs ls hP hD hS hl => W.iret C.1 C.2.1 hr (fun t ht hW => ⟨⟨_, ev, rfl, hp, by rw [ht]; exact hP⟩, hS.F ht⟩) hS.2.2 hd C.2.2.2.2.2.2.2
theorem n_iretX (C : Cx p s m args meth c G A nL cc own Ts) {post : Option Value → (Nat → va_E) → Prop} {XC : String → State → State → Prop} {x : Int32} (hr : meth.sig.returnType = some .int) (hd : decode cc pc = .ok (.ireturn, 1)) (hp : post (some (.int x)) ev) : V p l E R s m args below meth c G A nL (vx_MQ below (Qg G N ad A post) XC args s cells slots A) N ad ev cells slots pc lv [.int x] :=
  fun H locs ls hP hD hS hl => vx_ret (W.iret C.1 C.2.1 hr (fun t ht hW => ⟨⟨_, ev, rfl, hp, by rw [ht]; exact hP⟩, hS.F ht⟩) hS.2.2 hd C.2.2.2.2.2.2.2)
theorem n_vret (C : Cx p s m args meth c G A nL cc own Ts) {post : Option Value → (Nat → va_E) → Prop}  (hr : meth.sig.returnType = none) (hd : decode cc pc = .ok (.return_, 1)) (hp : post (none) ev) : V p l E R s m args below meth c G A nL (MQ below (Qg G N ad A post) args s cells slots A) N ad ev cells slots pc lv [] :=
  fun H locs ls hP hD hS hl => W.vret C.1 C.2.1 hr (fun t ht hW => ⟨⟨_, ev, rfl, hp, by rw [ht]; exact hP⟩, hS.F ht⟩) hS.2.2 hd C.2.2.2.2.2.2.2
theorem n_vretX (C : Cx p s m args meth c G A nL cc own Ts) {post : Option Value → (Nat → va_E) → Prop} {XC : String → State → State → Prop}  (hr : meth.sig.returnType = none) (hd : decode cc pc = .ok (.return_, 1)) (hp : post (none) ev) : V p l E R s m args below meth c G A nL (vx_MQ below (Qg G N ad A post) XC args s cells slots A) N ad ev cells slots pc lv [] :=
  fun H locs ls hP hD hS hl => vx_ret (W.vret C.1 C.2.1 hr (fun t ht hW => ⟨⟨_, ev, rfl, hp, by rw [ht]; exact hP⟩, hS.F ht⟩) hS.2.2 hd C.2.2.2.2.2.2.2)
theorem n_fret (C : Cx p s m args meth c G A nL cc own Ts) {post : Option Value → (Nat → va_E) → Prop} {x : UInt32} (hr : meth.sig.returnType = some .float) (hd : decode cc pc = .ok (.freturn, 1)) (hp : post (some (.float x)) ev) : V p l E R s m args below meth c G A nL (MQ below (Qg G N ad A post) args s cells slots A) N ad ev cells slots pc lv [.float x] :=
  fun H locs ls hP hD hS hl => W.fret C.1 C.2.1 hr (fun t ht hW => ⟨⟨_, ev, rfl, hp, by rw [ht]; exact hP⟩, hS.F ht⟩) hS.2.2 hd C.2.2.2.2.2.2.2
theorem n_fretX (C : Cx p s m args meth c G A nL cc own Ts) {post : Option Value → (Nat → va_E) → Prop} {XC : String → State → State → Prop} {x : UInt32} (hr : meth.sig.returnType = some .float) (hd : decode cc pc = .ok (.freturn, 1)) (hp : post (some (.float x)) ev) : V p l E R s m args below meth c G A nL (vx_MQ below (Qg G N ad A post) XC args s cells slots A) N ad ev cells slots pc lv [.float x] :=
  fun H locs ls hP hD hS hl => vx_ret (W.fret C.1 C.2.1 hr (fun t ht hW => ⟨⟨_, ev, rfl, hp, by rw [ht]; exact hP⟩, hS.F ht⟩) hS.2.2 hd C.2.2.2.2.2.2.2)
theorem n_zret (C : Cx p s m args meth c G A nL cc own Ts) {post : Option Value → (Nat → va_E) → Prop} {x : Int32} {ty : FieldType} (hr : meth.sig.returnType = some ty) (hd : decode cc pc = .ok (.ireturn, 1)) (hn : narrow ty (.int x) = .int x) (hp : post (some (.int x)) ev) : V p l E R s m args below meth c G A nL (MQ below (Qg G N ad A post) args s cells slots A) N ad ev cells slots pc lv [.int x] :=
  fun H locs ls hP hD hS hl => W.zret C.1 C.2.1 hr hn (fun t ht hW => ⟨⟨_, ev, rfl, hp, by rw [ht]; exact hP⟩, hS.F ht⟩) hS.2.2 hd C.2.2.2.2.2.2.2
theorem n_pre {rest As : List Value} {H : Heap} {locs : List Loc} (C : Cx p s m args meth c G A nL cc own Ts) {av : List Value} (hP : va_P G.1 vwCl (wd N ad ev) H) (hD : va_D A (wd N ad ev)) : ∀ U : State, U.heap = H → s.WarmedH U.vm → va_Pc av (fun U => U.heap.size = H.size ∧ va_P G.1 vwCl (wd N ad ev) U.heap ∧ KW G U ∧ nInj N ad) av.toArray U :=
  fun U hU hW => ⟨rfl, by rw [hU], by rw [hU]; exact hP, C.2.2.2.2.2.1.warm hW, wd_inj hD⟩
theorem n_blind {av : List Value} {sz : Nat} : FrameBlind (va_Pc av (fun U => U.heap.size = sz ∧ va_P G.1 vwCl (wd N ad ev) U.heap ∧ KW G U ∧ nInj N ad)) :=
  fun a U g mk q => ⟨q.1, q.2.1, q.2.2.1, q.2.2.2.1.same (Vm.Alike.refl U.vm) rfl, q.2.2.2.2⟩
theorem n_nA {H : Heap} {locs : List Loc} (C : Cx p s m args meth c G A nL cc own Ts) (hD : va_D A (wd N ad ev)) (hS : va_S A s.heap H locs) : ∀ q, nA N ad H.size q → A q := by
  rintro q (⟨i, hi, rfl⟩ | h)
  · exact wd_A hD i hi
  · exact C.2.2.2.2.2.2.1 q (Nat.le_trans hS.1 h)
/-- behind a call -/
theorem n_back (C : Cx p s m args meth c G A nL cc own Ts) {mc ms : Nat} {rest : List Value} {a : Array Value} {post : Option Value → (Nat → va_E) → Prop} {H : Heap} {locs : List Loc} {ls : Array Slot} (hD : va_D A (wd N ad ev)) (hS : va_S A s.heap H locs) (hl : lv_has ls nL lv)
    (hr : va_Run p l E R s m args below meth c H locs cells slots mc ms (F0 m pc ls st) rest (Qg G N ad (nA N ad H.size) post a) (nA N ad H.size))
    (kk : ∀ (v : Option Value) (e2 : Nat → va_E), post v e2 → V p l E R s m args below meth c G A nL Q N ad e2 (cells + mc) (slots + ms) (pc + 3) lv (v.toList ++ rest)) : W p l E R s m args below meth c H locs cells slots Q (F0 m pc ls st) := by
  have hA := n_nA C hD hS
  intro T hT X
  obtain ⟨v, st₀, t, T', L, h0, X', hL, e1, e2, ⟨⟨v2, ev2, hv, hp, hb⟩, hz, hk⟩, stp⟩ := hr T hT X
  cases hv
  rw [h0] at hz hk
  obtain ⟨t2, a1, b1⟩ := kk _ ev2 hp T'.heap (locs ++ L) ls (by rw [e1]; exact hb) (wd_D2 hD)
    ⟨Nat.le_trans hS.1 (by rw [e1]; exact hz), fun q h1 h2 => by rw [e1, hk q (Nat.lt_of_lt_of_le h1 hS.1) (fun z => h2 (hA q z))]; exact hS.2.1 q h1 h2, fun q hq => by
      rcases List.mem_append.mp hq with h | h
      · exact hS.2.2 q h
      · exact hA _ (hL q h)⟩ hl T' rfl X'
  exact ⟨t2, stp t2 a1, b1⟩
theorem n_callV (C : Cx p s m args meth c G A nL cc own Ts) {y : MethodName} {bytes : ByteArray} {maxL mc ms n idx : Nat} {ret : Option FieldType} {ws : List Cond} {rm : Room} {As rest : List Value} {post : Option Value → (Nat → va_E) → Prop} {i ci Nf : Nat} {fs : List Value} {Cn : String} {T : u_T} (hd : decode cc pc = .ok (.invokevirtual idx, 3)) (hM : Ct l y ws rm (.ref (ad i) :: As) G N ad ev mc ms post) (cw : CallW R s args own Cn idx y bytes maxL ret ws rm mc ms n) (hi : i < N) (he : ev i = .inr (ci, fs)) (hc : vwCl[ci]? = some (Cn, T, Nf)) (hn : As.length = n) (hst : st = As.reverse ++ .ref (ad i) :: rest) (hrm : (rest.map fun v => v.category).sum ≤ 8) (hf : cells + mc ≤ R.cells ∧ slots + ms ≤ R.slots)
    (kk : ∀ (v : Option Value) (e2 : Nat → va_E), post v e2 → V p l E R s m args below meth c G A nL Q N ad e2 (cells + mc) (slots + ms) (pc + 3) lv (v.toList ++ rest)) : V p l E R s m args below meth c G A nL Q N ad ev cells slots pc lv st := by
  intro H locs ls hP hD hS hl
  refine n_back C hD hS hl (va_runV (As := As) (rest := rest) (b := ad i) ⟨C.1, C.2.1, C.2.2.1, C.2.2.2.1, C.2.2.2.2.1⟩ (hM H.size) cw ⟨n_blind, va_recv C.2.2.2.2.2.1.1 hP hc (wd_is hi he), n_pre (rest := []) (As := []) (locs := []) C hP hD⟩ rfl hn hl.1 hst (lv_room hrm) hd hf) kk
theorem n_callS (C : Cx p s m args meth c G A nL cc own Ts) {y : MethodName} {bytes : ByteArray} {maxL mc ms n idx : Nat} {ret : Option FieldType} {ws : List Cond} {rm : Room} {As rest : List Value} {post : Option Value → (Nat → va_E) → Prop} (hd : decode cc pc = .ok (.invokestatic idx, 3)) (hM : Ct l y ws rm As G N ad ev mc ms post) (cw : CallB R s args own idx y bytes maxL ret ws rm mc ms n ∧ (Cond.static y).before args s = true) (hn : As.length = n) (hst : st = As.reverse ++ rest) (hrm : (rest.map fun v => v.category).sum ≤ 8) (hf : cells + mc ≤ R.cells ∧ slots + ms ≤ R.slots)
    (kk : ∀ (v : Option Value) (e2 : Nat → va_E), post v e2 → V p l E R s m args below meth c G A nL Q N ad e2 (cells + mc) (slots + ms) (pc + 3) lv (v.toList ++ rest)) : V p l E R s m args below meth c G A nL Q N ad ev cells slots pc lv st := by
  intro H locs ls hP hD hS hl
  refine n_back C hD hS hl (va_runS (As := As) (rest := rest) ⟨C.1, C.2.1, C.2.2.1, C.2.2.2.1, C.2.2.2.2.1⟩ (hM H.size) cw ⟨n_blind, n_pre (rest := []) (As := []) (locs := []) C hP hD⟩ rfl hn hl.1 hst (lv_room hrm) hd hf) kk
end Rows2
/-- a contract out of its body -/
theorem Ct_of {l : Launch} {y : MethodName} {ws ws' : List Cond} {rm : Room} {av : List Value} {G : GG} {N : Nat} {ad : Nat → Nat} {ev : Nat → va_E} {mc ms : Nat} {post : Option Value → (Nat → va_E) → Prop} {cc : ByteArray} {maxL : Nat} {ret : Option FieldType} {lv : List (Nat × Value)}
    (hy : plainName y.cls = true) (hw : ws = Cond.code y cc maxL ret :: ws') (hav : (lg_sl av).length ≤ maxL) (hlv : lv_args 0 av = lv)
    (body : ∀ (p : Program) (E : Env) (s : State) (m : MethodId) (args : Array Value) (below : List Frame) (meth : Method) (c : Code) (A : Nat → Prop), Cx p s m args meth c G A maxL cc y.cls ws → meth.sig.returnType = ret → meth.name = y.name →
      V p l E rm s m args below meth c G A maxL (MQ below (Qg G N ad A post) args s mc ms A) N ad ev 0 0 0 lv []) : Ct l y ws rm av G N ad ev mc ms post := by
  intro sz
  refine Met.ofW (cc := cc) (maxL := maxL) (ret := ret) hy hw ?_
  intro p e s m args below meth c s₁ B hml hv
  obtain ⟨rfl, hsz, hP, hK, hI⟩ := hv
  subst hsz
  have hts := atoms_spec (ws := ws) B.pre
  have hin : meth.name = y.name := (name_of_methodNamed B.named B.method).1
  have hl := lv_entry av hav
  rw [lg_entry_eq]
  rw [hlv] at hl
  exact body p e s m av.toArray below meth c (nA N ad s.heap.size) ⟨B.exec, B.bytes, hml, findClass_of_methodNamed B.named, hts, hK, fun q h => Or.inr h, B.notSynchronized⟩ B.returns hin s.heap [] _ hP (wd_D hI (fun i hi => Or.inl ⟨i, hi, rfl⟩)) va_S.rf hl
end
section
set_option maxRecDepth 100000 in
theorem hX0_init_X0 : ∀ w ∈ u_ws RX0 TX0 3, w ∈ wsX0_init := mem_places [18, 19, 20] rfl
set_option maxRecDepth 100000 in
theorem hX0_init_X2 : ∀ w ∈ u_ws RX2 TX2 2, w ∈ wsX0_init := mem_places [21, 22] rfl
set_option maxRecDepth 100000 in
theorem kX0_init_11 : Cond.fieldLink RX0 11 (TX0 0).1 (TX0 0).2.1 (TX0 0).2.2.1 ∈ wsX0_init := List.mem_of_getElem? (i := 6) rfl
set_option maxRecDepth 100000 in
theorem kX0_init_21 : Cond.fieldLink RX0 21 (TX0 1).1 (TX0 1).2.1 (TX0 1).2.2.1 ∈ wsX0_init := List.mem_of_getElem? (i := 10) rfl
set_option maxRecDepth 100000 in
theorem kX0_init_25 : Cond.fieldLink RX0 25 (TX0 2).1 (TX0 2).2.1 (TX0 2).2.2.1 ∈ wsX0_init := List.mem_of_getElem? (i := 11) rfl
set_option maxRecDepth 100000 in
theorem hX0_compare_X0 : ∀ w ∈ u_ws RX0 TX0 3, w ∈ wsX0_compare := mem_places [17, 18, 19] rfl
set_option maxRecDepth 100000 in
theorem hX0_compare_X2 : ∀ w ∈ u_ws RX2 TX2 2, w ∈ wsX0_compare := mem_places [20, 21] rfl
set_option maxRecDepth 100000 in
theorem kX0_compare_21 : Cond.fieldLink RX0 21 (TX0 1).1 (TX0 1).2.1 (TX0 1).2.2.1 ∈ wsX0_compare := List.mem_of_getElem? (i := 1) rfl
set_option maxRecDepth 100000 in
theorem kX0_compare_25 : Cond.fieldLink RX0 25 (TX0 2).1 (TX0 2).2.1 (TX0 2).2.2.1 ∈ wsX0_compare := List.mem_of_getElem? (i := 2) rfl
set_option maxRecDepth 100000 in
theorem kX0_compare_11 : Cond.fieldLink RX0 11 (TX0 0).1 (TX0 0).2.1 (TX0 0).2.2.1 ∈ wsX0_compare := List.mem_of_getElem? (i := 3) rfl
set_option maxRecDepth 100000 in
theorem hX0_operations_X0 : ∀ w ∈ u_ws RX0 TX0 3, w ∈ wsX0_operations := mem_places [2, 3, 4] rfl
set_option maxRecDepth 100000 in
theorem kX0_operations_11 : Cond.fieldLink RX0 11 (TX0 0).1 (TX0 0).2.1 (TX0 0).2.2.1 ∈ wsX0_operations := List.mem_of_getElem? (i := 1) rfl
set_option maxRecDepth 100000 in
theorem hX0_writeTo_X0 : ∀ w ∈ u_ws RX0 TX0 3, w ∈ wsX0_writeTo := mem_places [33, 34, 35] rfl
set_option maxRecDepth 100000 in
theorem hX0_writeTo_X2 : ∀ w ∈ u_ws RX2 TX2 2, w ∈ wsX0_writeTo := mem_places [36, 37] rfl
set_option maxRecDepth 100000 in
theorem hX0_writeTo_X3 : ∀ w ∈ u_ws RX3 TX3 4, w ∈ wsX0_writeTo := mem_places [38, 39, 40, 41] rfl
set_option maxRecDepth 100000 in
theorem kX0_writeTo_21 : Cond.fieldLink RX0 21 (TX0 1).1 (TX0 1).2.1 (TX0 1).2.2.1 ∈ wsX0_writeTo := List.mem_of_getElem? (i := 1) rfl
set_option maxRecDepth 100000 in
theorem kX0_writeTo_25 : Cond.fieldLink RX0 25 (TX0 2).1 (TX0 2).2.1 (TX0 2).2.2.1 ∈ wsX0_writeTo := List.mem_of_getElem? (i := 2) rfl
set_option maxRecDepth 100000 in
theorem hX0_pairTo_X0 : ∀ w ∈ u_ws RX0 TX0 3, w ∈ wsX0_pairTo := mem_places [24, 25, 26] rfl
set_option maxRecDepth 100000 in
theorem hX0_pairTo_X2 : ∀ w ∈ u_ws RX2 TX2 2, w ∈ wsX0_pairTo := mem_places [27, 28] rfl
set_option maxRecDepth 100000 in
theorem kX0_pairTo_21 : Cond.fieldLink RX0 21 (TX0 1).1 (TX0 1).2.1 (TX0 1).2.2.1 ∈ wsX0_pairTo := List.mem_of_getElem? (i := 1) rfl
set_option maxRecDepth 100000 in
theorem kX0_pairTo_25 : Cond.fieldLink RX0 25 (TX0 2).1 (TX0 2).2.1 (TX0 2).2.2.1 ∈ wsX0_pairTo := List.mem_of_getElem? (i := 2) rfl
set_option maxRecDepth 100000 in
theorem hX0_restAt_X0 : ∀ w ∈ u_ws RX0 TX0 3, w ∈ wsX0_restAt := mem_places [13, 14, 15] rfl
set_option maxRecDepth 100000 in
theorem hX0_restAt_X2 : ∀ w ∈ u_ws RX2 TX2 2, w ∈ wsX0_restAt := mem_places [16, 17] rfl
set_option maxRecDepth 100000 in
theorem kX0_restAt_21 : Cond.fieldLink RX0 21 (TX0 1).1 (TX0 1).2.1 (TX0 1).2.2.1 ∈ wsX0_restAt := List.mem_of_getElem? (i := 1) rfl
set_option maxRecDepth 100000 in
theorem kX0_restAt_25 : Cond.fieldLink RX0 25 (TX0 2).1 (TX0 2).2.1 (TX0 2).2.2.1 ∈ wsX0_restAt := List.mem_of_getElem? (i := 2) rfl
set_option maxRecDepth 100000 in
theorem kX0_restAt_11 : Cond.fieldLink RX0 11 (TX0 0).1 (TX0 0).2.1 (TX0 0).2.2.1 ∈ wsX0_restAt := List.mem_of_getElem? (i := 3) rfl
set_option maxRecDepth 100000 in
theorem hX0_stepAt_X0 : ∀ w ∈ u_ws RX0 TX0 3, w ∈ wsX0_stepAt := mem_places [9, 10, 11] rfl
set_option maxRecDepth 100000 in
theorem hX0_stepAt_X2 : ∀ w ∈ u_ws RX2 TX2 2, w ∈ wsX0_stepAt := mem_places [12, 13] rfl
set_option maxRecDepth 100000 in
theorem kX0_stepAt_21 : Cond.fieldLink RX0 21 (TX0 1).1 (TX0 1).2.1 (TX0 1).2.2.1 ∈ wsX0_stepAt := List.mem_of_getElem? (i := 1) rfl
set_option maxRecDepth 100000 in
theorem kX0_stepAt_11 : Cond.fieldLink RX0 11 (TX0 0).1 (TX0 0).2.1 (TX0 0).2.2.1 ∈ wsX0_stepAt := List.mem_of_getElem? (i := 2) rfl
set_option maxRecDepth 100000 in
theorem hX0_isSame_X0 : ∀ w ∈ u_ws RX0 TX0 3, w ∈ wsX0_isSame := mem_places [3, 4, 5] rfl
set_option maxRecDepth 100000 in
theorem hX0_isSame_X2 : ∀ w ∈ u_ws RX2 TX2 2, w ∈ wsX0_isSame := mem_places [6, 7] rfl
set_option maxRecDepth 100000 in
theorem kX0_isSame_21 : Cond.fieldLink RX0 21 (TX0 1).1 (TX0 1).2.1 (TX0 1).2.2.1 ∈ wsX0_isSame := List.mem_of_getElem? (i := 1) rfl
set_option maxRecDepth 100000 in
theorem kX0_isSame_25 : Cond.fieldLink RX0 25 (TX0 2).1 (TX0 2).2.1 (TX0 2).2.2.1 ∈ wsX0_isSame := List.mem_of_getElem? (i := 2) rfl
set_option maxRecDepth 100000 in
theorem hX1_init_X1 : ∀ w ∈ u_ws RX1 TX1 8, w ∈ wsX1_init := mem_places [32, 33, 34, 35, 36, 37, 38, 39] rfl
set_option maxRecDepth 100000 in
theorem hX1_init_X2 : ∀ w ∈ u_ws RX2 TX2 2, w ∈ wsX1_init := mem_places [40, 41] rfl
set_option maxRecDepth 100000 in
theorem hX1_init_X4 : ∀ w ∈ u_ws RX4 TX4 3, w ∈ wsX1_init := mem_places [42, 43, 44] rfl
set_option maxRecDepth 100000 in
theorem kX1_init_9 : Cond.fieldLink RX1 9 (TX1 0).1 (TX1 0).2.1 (TX1 0).2.2.1 ∈ wsX1_init := List.mem_of_getElem? (i := 4) rfl
set_option maxRecDepth 100000 in
theorem kX1_init_15 : Cond.fieldLink RX1 15 (TX1 1).1 (TX1 1).2.1 (TX1 1).2.2.1 ∈ wsX1_init := List.mem_of_getElem? (i := 5) rfl
set_option maxRecDepth 100000 in
theorem kX1_init_18 : Cond.fieldLink RX1 18 (TX1 2).1 (TX1 2).2.1 (TX1 2).2.2.1 ∈ wsX1_init := List.mem_of_getElem? (i := 6) rfl
set_option maxRecDepth 100000 in
theorem kX1_init_26 : Cond.fieldLink RX1 26 (TX1 3).1 (TX1 3).2.1 (TX1 3).2.2.1 ∈ wsX1_init := List.mem_of_getElem? (i := 10) rfl
set_option maxRecDepth 100000 in
theorem kX1_init_29 : Cond.fieldLink RX1 29 (TX1 4).1 (TX1 4).2.1 (TX1 4).2.2.1 ∈ wsX1_init := List.mem_of_getElem? (i := 11) rfl
set_option maxRecDepth 100000 in
theorem kX1_init_37 : Cond.fieldLink RX1 37 (TX1 5).1 (TX1 5).2.1 (TX1 5).2.2.1 ∈ wsX1_init := List.mem_of_getElem? (i := 15) rfl
set_option maxRecDepth 100000 in
theorem kX1_init_41 : Cond.fieldLink RX1 41 (TX1 6).1 (TX1 6).2.1 (TX1 6).2.2.1 ∈ wsX1_init := List.mem_of_getElem? (i := 16) rfl
set_option maxRecDepth 100000 in
theorem kX1_init_44 : Cond.fieldLink RX1 44 (TX1 7).1 (TX1 7).2.1 (TX1 7).2.2.1 ∈ wsX1_init := List.mem_of_getElem? (i := 17) rfl
set_option maxRecDepth 100000 in
theorem hX1_mergeTo_X0 : ∀ w ∈ u_ws RX0 TX0 3, w ∈ wsX1_mergeTo := mem_places [111, 112, 113] rfl
set_option maxRecDepth 100000 in
theorem hX1_mergeTo_X1 : ∀ w ∈ u_ws RX1 TX1 8, w ∈ wsX1_mergeTo := mem_places [101, 102, 103, 104, 105, 106, 107, 108] rfl
set_option maxRecDepth 100000 in
theorem hX1_mergeTo_X2 : ∀ w ∈ u_ws RX2 TX2 2, w ∈ wsX1_mergeTo := mem_places [109, 110] rfl
set_option maxRecDepth 100000 in
theorem hX1_mergeTo_X4 : ∀ w ∈ u_ws RX4 TX4 3, w ∈ wsX1_mergeTo := mem_places [114, 115, 116] rfl
set_option maxRecDepth 100000 in
theorem kX1_mergeTo_9 : Cond.fieldLink RX1 9 (TX1 0).1 (TX1 0).2.1 (TX1 0).2.2.1 ∈ wsX1_mergeTo := List.mem_of_getElem? (i := 1) rfl
set_option maxRecDepth 100000 in
theorem kX1_mergeTo_15 : Cond.fieldLink RX1 15 (TX1 1).1 (TX1 1).2.1 (TX1 1).2.2.1 ∈ wsX1_mergeTo := List.mem_of_getElem? (i := 2) rfl
set_option maxRecDepth 100000 in
theorem kX1_mergeTo_26 : Cond.fieldLink RX1 26 (TX1 3).1 (TX1 3).2.1 (TX1 3).2.2.1 ∈ wsX1_mergeTo := List.mem_of_getElem? (i := 3) rfl
set_option maxRecDepth 100000 in
theorem kX1_mergeTo_18 : Cond.fieldLink RX1 18 (TX1 2).1 (TX1 2).2.1 (TX1 2).2.2.1 ∈ wsX1_mergeTo := List.mem_of_getElem? (i := 4) rfl
set_option maxRecDepth 100000 in
theorem kX1_mergeTo_29 : Cond.fieldLink RX1 29 (TX1 4).1 (TX1 4).2.1 (TX1 4).2.2.1 ∈ wsX1_mergeTo := List.mem_of_getElem? (i := 5) rfl
set_option maxRecDepth 100000 in
theorem kX1_mergeTo_37 : Cond.fieldLink RX1 37 (TX1 5).1 (TX1 5).2.1 (TX1 5).2.2.1 ∈ wsX1_mergeTo := List.mem_of_getElem? (i := 6) rfl
set_option maxRecDepth 100000 in
theorem kX1_mergeTo_41 : Cond.fieldLink RX1 41 (TX1 6).1 (TX1 6).2.1 (TX1 6).2.2.1 ∈ wsX1_mergeTo := List.mem_of_getElem? (i := 7) rfl
set_option maxRecDepth 100000 in
theorem kX1_mergeTo_44 : Cond.fieldLink RX1 44 (TX1 7).1 (TX1 7).2.1 (TX1 7).2.2.1 ∈ wsX1_mergeTo := List.mem_of_getElem? (i := 8) rfl
set_option maxRecDepth 100000 in
theorem hX1_isStable_X1 : ∀ w ∈ u_ws RX1 TX1 8, w ∈ wsX1_isStable := mem_places [10, 11, 12, 13, 14, 15, 16, 17] rfl
set_option maxRecDepth 100000 in
theorem hX1_isStable_X2 : ∀ w ∈ u_ws RX2 TX2 2, w ∈ wsX1_isStable := mem_places [18, 19] rfl
set_option maxRecDepth 100000 in
theorem kX1_isStable_26 : Cond.fieldLink RX1 26 (TX1 3).1 (TX1 3).2.1 (TX1 3).2.2.1 ∈ wsX1_isStable := List.mem_of_getElem? (i := 1) rfl
set_option maxRecDepth 100000 in
theorem kX1_isStable_29 : Cond.fieldLink RX1 29 (TX1 4).1 (TX1 4).2.1 (TX1 4).2.2.1 ∈ wsX1_isStable := List.mem_of_getElem? (i := 2) rfl
set_option maxRecDepth 100000 in
theorem hX1_endStretches_X1 : ∀ w ∈ u_ws RX1 TX1 8, w ∈ wsX1_endStretches := mem_places [10, 11, 12, 13, 14, 15, 16, 17] rfl
set_option maxRecDepth 100000 in
theorem hX1_endStretches_X4 : ∀ w ∈ u_ws RX4 TX4 3, w ∈ wsX1_endStretches := mem_places [18, 19, 20] rfl
set_option maxRecDepth 100000 in
theorem kX1_endStretches_37 : Cond.fieldLink RX1 37 (TX1 5).1 (TX1 5).2.1 (TX1 5).2.2.1 ∈ wsX1_endStretches := List.mem_of_getElem? (i := 1) rfl
set_option maxRecDepth 100000 in
theorem kX1_endStretches_41 : Cond.fieldLink RX1 41 (TX1 6).1 (TX1 6).2.1 (TX1 6).2.2.1 ∈ wsX1_endStretches := List.mem_of_getElem? (i := 2) rfl
set_option maxRecDepth 100000 in
theorem kX1_endStretches_44 : Cond.fieldLink RX1 44 (TX1 7).1 (TX1 7).2.1 (TX1 7).2.2.1 ∈ wsX1_endStretches := List.mem_of_getElem? (i := 3) rfl
set_option maxRecDepth 100000 in
theorem hX1_goOnBehindStable_X1 : ∀ w ∈ u_ws RX1 TX1 8, w ∈ wsX1_goOnBehindStable := mem_places [11, 12, 13, 14, 15, 16, 17, 18] rfl
set_option maxRecDepth 100000 in
theorem hX1_goOnBehindStable_X4 : ∀ w ∈ u_ws RX4 TX4 3, w ∈ wsX1_goOnBehindStable := mem_places [19, 20, 21] rfl
set_option maxRecDepth 100000 in
theorem kX1_goOnBehindStable_37 : Cond.fieldLink RX1 37 (TX1 5).1 (TX1 5).2.1 (TX1 5).2.2.1 ∈ wsX1_goOnBehindStable := List.mem_of_getElem? (i := 1) rfl
set_option maxRecDepth 100000 in
theorem kX1_goOnBehindStable_41 : Cond.fieldLink RX1 41 (TX1 6).1 (TX1 6).2.1 (TX1 6).2.2.1 ∈ wsX1_goOnBehindStable := List.mem_of_getElem? (i := 2) rfl
set_option maxRecDepth 100000 in
theorem kX1_goOnBehindStable_44 : Cond.fieldLink RX1 44 (TX1 7).1 (TX1 7).2.1 (TX1 7).2.2.1 ∈ wsX1_goOnBehindStable := List.mem_of_getElem? (i := 3) rfl
set_option maxRecDepth 100000 in
theorem hX1_mergeStretch_X1 : ∀ w ∈ u_ws RX1 TX1 8, w ∈ wsX1_mergeStretch := mem_places [33, 34, 35, 36, 37, 38, 39, 40] rfl
set_option maxRecDepth 100000 in
theorem hX1_mergeStretch_X2 : ∀ w ∈ u_ws RX2 TX2 2, w ∈ wsX1_mergeStretch := mem_places [44, 45] rfl
set_option maxRecDepth 100000 in
theorem hX1_mergeStretch_X4 : ∀ w ∈ u_ws RX4 TX4 3, w ∈ wsX1_mergeStretch := mem_places [41, 42, 43] rfl
set_option maxRecDepth 100000 in
theorem kX1_mergeStretch_41 : Cond.fieldLink RX1 41 (TX1 6).1 (TX1 6).2.1 (TX1 6).2.2.1 ∈ wsX1_mergeStretch := List.mem_of_getElem? (i := 1) rfl
set_option maxRecDepth 100000 in
theorem kX1_mergeStretch_44 : Cond.fieldLink RX1 44 (TX1 7).1 (TX1 7).2.1 (TX1 7).2.2.1 ∈ wsX1_mergeStretch := List.mem_of_getElem? (i := 2) rfl
set_option maxRecDepth 100000 in
theorem kX1_mergeStretch_37 : Cond.fieldLink RX1 37 (TX1 5).1 (TX1 5).2.1 (TX1 5).2.2.1 ∈ wsX1_mergeStretch := List.mem_of_getElem? (i := 3) rfl
set_option maxRecDepth 100000 in
theorem hX2_init_X2 : ∀ w ∈ u_ws RX2 TX2 2, w ∈ wsX2_init := mem_places [7, 8] rfl
set_option maxRecDepth 100000 in
theorem kX2_init_9 : Cond.fieldLink RX2 9 (TX2 0).1 (TX2 0).2.1 (TX2 0).2.2.1 ∈ wsX2_init := List.mem_of_getElem? (i := 5) rfl
set_option maxRecDepth 100000 in
theorem kX2_init_15 : Cond.fieldLink RX2 15 (TX2 1).1 (TX2 1).2.1 (TX2 1).2.2.1 ∈ wsX2_init := List.mem_of_getElem? (i := 6) rfl
set_option maxRecDepth 100000 in
theorem hX2_empty_X2 : ∀ w ∈ u_ws RX2 TX2 2, w ∈ wsX2_empty := mem_places [2, 3] rfl
set_option maxRecDepth 100000 in
theorem kX2_empty_15 : Cond.fieldLink RX2 15 (TX2 1).1 (TX2 1).2.1 (TX2 1).2.2.1 ∈ wsX2_empty := List.mem_of_getElem? (i := 1) rfl
set_option maxRecDepth 100000 in
theorem hX2_add_X2 : ∀ w ∈ u_ws RX2 TX2 2, w ∈ wsX2_add := mem_places [3, 4] rfl
set_option maxRecDepth 100000 in
theorem kX2_add_15 : Cond.fieldLink RX2 15 (TX2 1).1 (TX2 1).2.1 (TX2 1).2.2.1 ∈ wsX2_add := List.mem_of_getElem? (i := 1) rfl
set_option maxRecDepth 100000 in
theorem kX2_add_9 : Cond.fieldLink RX2 9 (TX2 0).1 (TX2 0).2.1 (TX2 0).2.2.1 ∈ wsX2_add := List.mem_of_getElem? (i := 2) rfl
set_option maxRecDepth 100000 in
theorem hX2_addAll_X2 : ∀ w ∈ u_ws RX2 TX2 2, w ∈ wsX2_addAll := mem_places [12, 13] rfl
set_option maxRecDepth 100000 in
theorem hX2_at_X2 : ∀ w ∈ u_ws RX2 TX2 2, w ∈ wsX2_at := mem_places [3, 4] rfl
set_option maxRecDepth 100000 in
theorem kX2_at_15 : Cond.fieldLink RX2 15 (TX2 1).1 (TX2 1).2.1 (TX2 1).2.2.1 ∈ wsX2_at := List.mem_of_getElem? (i := 1) rfl
set_option maxRecDepth 100000 in
theorem kX2_at_9 : Cond.fieldLink RX2 9 (TX2 0).1 (TX2 0).2.1 (TX2 0).2.2.1 ∈ wsX2_at := List.mem_of_getElem? (i := 2) rfl
set_option maxRecDepth 100000 in
theorem hX3_init_X3 : ∀ w ∈ u_ws RX3 TX3 4, w ∈ wsX3_init := mem_places [9, 10, 11, 12] rfl
set_option maxRecDepth 100000 in
theorem kX3_init_9 : Cond.fieldLink RX3 9 (TX3 0).1 (TX3 0).2.1 (TX3 0).2.2.1 ∈ wsX3_init := List.mem_of_getElem? (i := 5) rfl
set_option maxRecDepth 100000 in
theorem kX3_init_15 : Cond.fieldLink RX3 15 (TX3 1).1 (TX3 1).2.1 (TX3 1).2.2.1 ∈ wsX3_init := List.mem_of_getElem? (i := 6) rfl
set_option maxRecDepth 100000 in
theorem kX3_init_18 : Cond.fieldLink RX3 18 (TX3 2).1 (TX3 2).2.1 (TX3 2).2.2.1 ∈ wsX3_init := List.mem_of_getElem? (i := 7) rfl
set_option maxRecDepth 100000 in
theorem kX3_init_21 : Cond.fieldLink RX3 21 (TX3 3).1 (TX3 3).2.1 (TX3 3).2.2.1 ∈ wsX3_init := List.mem_of_getElem? (i := 8) rfl
set_option maxRecDepth 100000 in
theorem hX3_empty_X3 : ∀ w ∈ u_ws RX3 TX3 4, w ∈ wsX3_empty := mem_places [2, 3, 4, 5] rfl
set_option maxRecDepth 100000 in
theorem kX3_empty_21 : Cond.fieldLink RX3 21 (TX3 3).1 (TX3 3).2.1 (TX3 3).2.2.1 ∈ wsX3_empty := List.mem_of_getElem? (i := 1) rfl
set_option maxRecDepth 100000 in
theorem hX3_add_X3 : ∀ w ∈ u_ws RX3 TX3 4, w ∈ wsX3_add := mem_places [5, 6, 7, 8] rfl
set_option maxRecDepth 100000 in
theorem kX3_add_21 : Cond.fieldLink RX3 21 (TX3 3).1 (TX3 3).2.1 (TX3 3).2.2.1 ∈ wsX3_add := List.mem_of_getElem? (i := 1) rfl
set_option maxRecDepth 100000 in
theorem kX3_add_9 : Cond.fieldLink RX3 9 (TX3 0).1 (TX3 0).2.1 (TX3 0).2.2.1 ∈ wsX3_add := List.mem_of_getElem? (i := 2) rfl
set_option maxRecDepth 100000 in
theorem kX3_add_15 : Cond.fieldLink RX3 15 (TX3 1).1 (TX3 1).2.1 (TX3 1).2.2.1 ∈ wsX3_add := List.mem_of_getElem? (i := 3) rfl
set_option maxRecDepth 100000 in
theorem kX3_add_18 : Cond.fieldLink RX3 18 (TX3 2).1 (TX3 2).2.1 (TX3 2).2.2.1 ∈ wsX3_add := List.mem_of_getElem? (i := 4) rfl
set_option maxRecDepth 100000 in
theorem hX3_has_X3 : ∀ w ∈ u_ws RX3 TX3 4, w ∈ wsX3_has := mem_places [2, 3, 4, 5] rfl
set_option maxRecDepth 100000 in
theorem kX3_has_21 : Cond.fieldLink RX3 21 (TX3 3).1 (TX3 3).2.1 (TX3 3).2.2.1 ∈ wsX3_has := List.mem_of_getElem? (i := 1) rfl
set_option maxRecDepth 100000 in
theorem hX3_placeOf_X3 : ∀ w ∈ u_ws RX3 TX3 4, w ∈ wsX3_placeOf := mem_places [8, 9, 10, 11] rfl
set_option maxRecDepth 100000 in
theorem kX3_placeOf_15 : Cond.fieldLink RX3 15 (TX3 1).1 (TX3 1).2.1 (TX3 1).2.2.1 ∈ wsX3_placeOf := List.mem_of_getElem? (i := 1) rfl
set_option maxRecDepth 100000 in
theorem hX3_behind_X3 : ∀ w ∈ u_ws RX3 TX3 4, w ∈ wsX3_behind := mem_places [9, 10, 11, 12] rfl
set_option maxRecDepth 100000 in
theorem kX3_behind_9 : Cond.fieldLink RX3 9 (TX3 0).1 (TX3 0).2.1 (TX3 0).2.2.1 ∈ wsX3_behind := List.mem_of_getElem? (i := 1) rfl
set_option maxRecDepth 100000 in
theorem kX3_behind_15 : Cond.fieldLink RX3 15 (TX3 1).1 (TX3 1).2.1 (TX3 1).2.2.1 ∈ wsX3_behind := List.mem_of_getElem? (i := 2) rfl
set_option maxRecDepth 100000 in
theorem hX3_beginsHunk_X3 : ∀ w ∈ u_ws RX3 TX3 4, w ∈ wsX3_beginsHunk := mem_places [17, 18, 19, 20] rfl
set_option maxRecDepth 100000 in
theorem hX3_firstOfHunk_X3 : ∀ w ∈ u_ws RX3 TX3 4, w ∈ wsX3_firstOfHunk := mem_places [21, 22, 23, 24] rfl
set_option maxRecDepth 100000 in
theorem kX3_firstOfHunk_21 : Cond.fieldLink RX3 21 (TX3 3).1 (TX3 3).2.1 (TX3 3).2.2.1 ∈ wsX3_firstOfHunk := List.mem_of_getElem? (i := 1) rfl
set_option maxRecDepth 100000 in
theorem hX3_lastOfHunk_X3 : ∀ w ∈ u_ws RX3 TX3 4, w ∈ wsX3_lastOfHunk := mem_places [21, 22, 23, 24] rfl
set_option maxRecDepth 100000 in
theorem kX3_lastOfHunk_21 : Cond.fieldLink RX3 21 (TX3 3).1 (TX3 3).2.1 (TX3 3).2.2.1 ∈ wsX3_lastOfHunk := List.mem_of_getElem? (i := 1) rfl
set_option maxRecDepth 100000 in
theorem hX3_countKind_X3 : ∀ w ∈ u_ws RX3 TX3 4, w ∈ wsX3_countKind := mem_places [8, 9, 10, 11] rfl
set_option maxRecDepth 100000 in
theorem kX3_countKind_9 : Cond.fieldLink RX3 9 (TX3 0).1 (TX3 0).2.1 (TX3 0).2.2.1 ∈ wsX3_countKind := List.mem_of_getElem? (i := 1) rfl
set_option maxRecDepth 100000 in
theorem hX4_init_X4 : ∀ w ∈ u_ws RX4 TX4 3, w ∈ wsX4_init := mem_places [7, 8, 9] rfl
set_option maxRecDepth 100000 in
theorem kX4_init_9 : Cond.fieldLink RX4 9 (TX4 0).1 (TX4 0).2.1 (TX4 0).2.2.1 ∈ wsX4_init := List.mem_of_getElem? (i := 4) rfl
set_option maxRecDepth 100000 in
theorem kX4_init_15 : Cond.fieldLink RX4 15 (TX4 1).1 (TX4 1).2.1 (TX4 1).2.2.1 ∈ wsX4_init := List.mem_of_getElem? (i := 5) rfl
set_option maxRecDepth 100000 in
theorem kX4_init_19 : Cond.fieldLink RX4 19 (TX4 2).1 (TX4 2).2.1 (TX4 2).2.2.1 ∈ wsX4_init := List.mem_of_getElem? (i := 6) rfl
set_option maxRecDepth 100000 in
theorem hX4_begin_X4 : ∀ w ∈ u_ws RX4 TX4 3, w ∈ wsX4_begin := mem_places [3, 4, 5] rfl
set_option maxRecDepth 100000 in
theorem kX4_begin_15 : Cond.fieldLink RX4 15 (TX4 1).1 (TX4 1).2.1 (TX4 1).2.2.1 ∈ wsX4_begin := List.mem_of_getElem? (i := 1) rfl
set_option maxRecDepth 100000 in
theorem kX4_begin_19 : Cond.fieldLink RX4 19 (TX4 2).1 (TX4 2).2.1 (TX4 2).2.2.1 ∈ wsX4_begin := List.mem_of_getElem? (i := 2) rfl
set_option maxRecDepth 100000 in
theorem hX4_endBefore_X4 : ∀ w ∈ u_ws RX4 TX4 3, w ∈ wsX4_endBefore := mem_places [2, 3, 4] rfl
set_option maxRecDepth 100000 in
theorem kX4_endBefore_19 : Cond.fieldLink RX4 19 (TX4 2).1 (TX4 2).2.1 (TX4 2).2.2.1 ∈ wsX4_endBefore := List.mem_of_getElem? (i := 1) rfl
set_option maxRecDepth 100000 in
theorem hX4_goOnBehindStable_X4 : ∀ w ∈ u_ws RX4 TX4 3, w ∈ wsX4_goOnBehindStable := mem_places [3, 4, 5] rfl
set_option maxRecDepth 100000 in
theorem kX4_goOnBehindStable_19 : Cond.fieldLink RX4 19 (TX4 2).1 (TX4 2).2.1 (TX4 2).2.2.1 ∈ wsX4_goOnBehindStable := List.mem_of_getElem? (i := 1) rfl
set_option maxRecDepth 100000 in
theorem kX4_goOnBehindStable_15 : Cond.fieldLink RX4 15 (TX4 1).1 (TX4 1).2.1 (TX4 1).2.2.1 ∈ wsX4_goOnBehindStable := List.mem_of_getElem? (i := 2) rfl
set_option maxRecDepth 100000 in
theorem hX4_isSameAs_X2 : ∀ w ∈ u_ws RX2 TX2 2, w ∈ wsX4_isSameAs := mem_places [14, 15] rfl
set_option maxRecDepth 100000 in
theorem hX4_isSameAs_X4 : ∀ w ∈ u_ws RX4 TX4 3, w ∈ wsX4_isSameAs := mem_places [11, 12, 13] rfl
set_option maxRecDepth 100000 in
theorem kX4_isSameAs_19 : Cond.fieldLink RX4 19 (TX4 2).1 (TX4 2).2.1 (TX4 2).2.2.1 ∈ wsX4_isSameAs := List.mem_of_getElem? (i := 1) rfl
set_option maxRecDepth 100000 in
theorem kX4_isSameAs_15 : Cond.fieldLink RX4 15 (TX4 1).1 (TX4 1).2.1 (TX4 1).2.2.1 ∈ wsX4_isSameAs := List.mem_of_getElem? (i := 2) rfl
set_option maxRecDepth 100000 in
theorem kX4_isSameAs_9 : Cond.fieldLink RX4 9 (TX4 0).1 (TX4 0).2.1 (TX4 0).2.2.1 ∈ wsX4_isSameAs := List.mem_of_getElem? (i := 3) rfl
set_option maxRecDepth 100000 in
theorem hX4_addTo_X2 : ∀ w ∈ u_ws RX2 TX2 2, w ∈ wsX4_addTo := mem_places [22, 23] rfl
set_option maxRecDepth 100000 in
theorem hX4_addTo_X4 : ∀ w ∈ u_ws RX4 TX4 3, w ∈ wsX4_addTo := mem_places [19, 20, 21] rfl
set_option maxRecDepth 100000 in
theorem kX4_addTo_9 : Cond.fieldLink RX4 9 (TX4 0).1 (TX4 0).2.1 (TX4 0).2.2.1 ∈ wsX4_addTo := List.mem_of_getElem? (i := 1) rfl
set_option maxRecDepth 100000 in
theorem kX4_addTo_15 : Cond.fieldLink RX4 15 (TX4 1).1 (TX4 1).2.1 (TX4 1).2.2.1 ∈ wsX4_addTo := List.mem_of_getElem? (i := 2) rfl
set_option maxRecDepth 100000 in
theorem kX4_addTo_19 : Cond.fieldLink RX4 19 (TX4 2).1 (TX4 2).2.1 (TX4 2).2.2.1 ∈ wsX4_addTo := List.mem_of_getElem? (i := 3) rfl
set_option maxRecDepth 100000 in
theorem hX5_init_X0 : ∀ w ∈ u_ws RX0 TX0 3, w ∈ wsX5_init := mem_places [96, 97, 98] rfl
set_option maxRecDepth 100000 in
theorem hX5_init_X1 : ∀ w ∈ u_ws RX1 TX1 8, w ∈ wsX5_init := mem_places [99, 100, 101, 102, 103, 104, 105, 106] rfl
set_option maxRecDepth 100000 in
theorem hX5_init_X2 : ∀ w ∈ u_ws RX2 TX2 2, w ∈ wsX5_init := mem_places [90, 91] rfl
set_option maxRecDepth 100000 in
theorem hX5_init_X3 : ∀ w ∈ u_ws RX3 TX3 4, w ∈ wsX5_init := mem_places [92, 93, 94, 95] rfl
set_option maxRecDepth 100000 in
theorem hX5_init_X4 : ∀ w ∈ u_ws RX4 TX4 3, w ∈ wsX5_init := mem_places [107, 108, 109] rfl
set_option maxRecDepth 100000 in
theorem hX5_init_X5 : ∀ w ∈ u_ws RX5 TX5 9, w ∈ wsX5_init := mem_places [81, 82, 83, 84, 85, 86, 87, 88, 89] rfl
set_option maxRecDepth 100000 in
theorem kX5_init_18 : Cond.fieldLink RX5 18 (TX5 0).1 (TX5 0).2.1 (TX5 0).2.2.1 ∈ wsX5_init := List.mem_of_getElem? (i := 11) rfl
set_option maxRecDepth 100000 in
theorem kX5_init_24 : Cond.fieldLink RX5 24 (TX5 1).1 (TX5 1).2.1 (TX5 1).2.2.1 ∈ wsX5_init := List.mem_of_getElem? (i := 13) rfl
set_option maxRecDepth 100000 in
theorem kX5_init_34 : Cond.fieldLink RX5 34 (TX5 2).1 (TX5 2).2.1 (TX5 2).2.2.1 ∈ wsX5_init := List.mem_of_getElem? (i := 19) rfl
set_option maxRecDepth 100000 in
theorem kX5_init_38 : Cond.fieldLink RX5 38 (TX5 3).1 (TX5 3).2.1 (TX5 3).2.2.1 ∈ wsX5_init := List.mem_of_getElem? (i := 20) rfl
set_option maxRecDepth 100000 in
theorem kX5_init_41 : Cond.fieldLink RX5 41 (TX5 4).1 (TX5 4).2.1 (TX5 4).2.2.1 ∈ wsX5_init := List.mem_of_getElem? (i := 21) rfl
set_option maxRecDepth 100000 in
theorem kX5_init_47 : Cond.fieldLink RX5 47 (TX5 5).1 (TX5 5).2.1 (TX5 5).2.2.1 ∈ wsX5_init := List.mem_of_getElem? (i := 25) rfl
set_option maxRecDepth 100000 in
theorem kX5_init_56 : Cond.fieldLink RX5 56 (TX5 6).1 (TX5 6).2.1 (TX5 6).2.2.1 ∈ wsX5_init := List.mem_of_getElem? (i := 29) rfl
set_option maxRecDepth 100000 in
theorem kX5_init_60 : Cond.fieldLink RX5 60 (TX5 7).1 (TX5 7).2.1 (TX5 7).2.2.1 ∈ wsX5_init := List.mem_of_getElem? (i := 30) rfl
set_option maxRecDepth 100000 in
theorem kX5_init_64 : Cond.fieldLink RX5 64 (TX5 8).1 (TX5 8).2.1 (TX5 8).2.2.1 ∈ wsX5_init := List.mem_of_getElem? (i := 31) rfl
set_option maxRecDepth 100000 in
theorem hX5_feed_X2 : ∀ w ∈ u_ws RX2 TX2 2, w ∈ wsX5_feed := mem_places [25, 26] rfl
set_option maxRecDepth 100000 in
theorem hX5_feed_X5 : ∀ w ∈ u_ws RX5 TX5 9, w ∈ wsX5_feed := mem_places [16, 17, 18, 19, 20, 21, 22, 23, 24] rfl
set_option maxRecDepth 100000 in
theorem kX5_feed_24 : Cond.fieldLink RX5 24 (TX5 1).1 (TX5 1).2.1 (TX5 1).2.2.1 ∈ wsX5_feed := List.mem_of_getElem? (i := 1) rfl
set_option maxRecDepth 100000 in
theorem hX5_clear_X2 : ∀ w ∈ u_ws RX2 TX2 2, w ∈ wsX5_clear := mem_places [21, 22] rfl
set_option maxRecDepth 100000 in
theorem hX5_clear_X5 : ∀ w ∈ u_ws RX5 TX5 9, w ∈ wsX5_clear := mem_places [12, 13, 14, 15, 16, 17, 18, 19, 20] rfl
set_option maxRecDepth 100000 in
theorem kX5_clear_24 : Cond.fieldLink RX5 24 (TX5 1).1 (TX5 1).2.1 (TX5 1).2.2.1 ∈ wsX5_clear := List.mem_of_getElem? (i := 1) rfl
set_option maxRecDepth 100000 in
theorem hX5_size_X2 : ∀ w ∈ u_ws RX2 TX2 2, w ∈ wsX5_size := mem_places [15, 16] rfl
set_option maxRecDepth 100000 in
theorem hX5_size_X5 : ∀ w ∈ u_ws RX5 TX5 9, w ∈ wsX5_size := mem_places [6, 7, 8, 9, 10, 11, 12, 13, 14] rfl
set_option maxRecDepth 100000 in
theorem kX5_size_24 : Cond.fieldLink RX5 24 (TX5 1).1 (TX5 1).2.1 (TX5 1).2.2.1 ∈ wsX5_size := List.mem_of_getElem? (i := 1) rfl
set_option maxRecDepth 100000 in
theorem hX5_symbol_X2 : ∀ w ∈ u_ws RX2 TX2 2, w ∈ wsX5_symbol := mem_places [22, 23] rfl
set_option maxRecDepth 100000 in
theorem hX5_symbol_X5 : ∀ w ∈ u_ws RX5 TX5 9, w ∈ wsX5_symbol := mem_places [13, 14, 15, 16, 17, 18, 19, 20, 21] rfl
set_option maxRecDepth 100000 in
theorem kX5_symbol_24 : Cond.fieldLink RX5 24 (TX5 1).1 (TX5 1).2.1 (TX5 1).2.2.1 ∈ wsX5_symbol := List.mem_of_getElem? (i := 1) rfl
set_option maxRecDepth 100000 in
theorem hX5_diff_X0 : ∀ w ∈ u_ws RX0 TX0 3, w ∈ wsX5_diff := mem_places [82, 83, 84] rfl
set_option maxRecDepth 100000 in
theorem hX5_diff_X2 : ∀ w ∈ u_ws RX2 TX2 2, w ∈ wsX5_diff := mem_places [76, 77] rfl
set_option maxRecDepth 100000 in
theorem hX5_diff_X3 : ∀ w ∈ u_ws RX3 TX3 4, w ∈ wsX5_diff := mem_places [78, 79, 80, 81] rfl
set_option maxRecDepth 100000 in
theorem hX5_diff_X5 : ∀ w ∈ u_ws RX5 TX5 9, w ∈ wsX5_diff := mem_places [67, 68, 69, 70, 71, 72, 73, 74, 75] rfl
set_option maxRecDepth 100000 in
theorem kX5_diff_47 : Cond.fieldLink RX5 47 (TX5 5).1 (TX5 5).2.1 (TX5 5).2.2.1 ∈ wsX5_diff := List.mem_of_getElem? (i := 5) rfl
set_option maxRecDepth 100000 in
theorem kX5_diff_24 : Cond.fieldLink RX5 24 (TX5 1).1 (TX5 1).2.1 (TX5 1).2.2.1 ∈ wsX5_diff := List.mem_of_getElem? (i := 6) rfl
set_option maxRecDepth 100000 in
theorem kX5_diff_18 : Cond.fieldLink RX5 18 (TX5 0).1 (TX5 0).2.1 (TX5 0).2.2.1 ∈ wsX5_diff := List.mem_of_getElem? (i := 7) rfl
set_option maxRecDepth 100000 in
theorem kX5_diff_34 : Cond.fieldLink RX5 34 (TX5 2).1 (TX5 2).2.1 (TX5 2).2.2.1 ∈ wsX5_diff := List.mem_of_getElem? (i := 8) rfl
set_option maxRecDepth 100000 in
theorem kX5_diff_38 : Cond.fieldLink RX5 38 (TX5 3).1 (TX5 3).2.1 (TX5 3).2.2.1 ∈ wsX5_diff := List.mem_of_getElem? (i := 9) rfl
set_option maxRecDepth 100000 in
theorem kX5_diff_41 : Cond.fieldLink RX5 41 (TX5 4).1 (TX5 4).2.1 (TX5 4).2.2.1 ∈ wsX5_diff := List.mem_of_getElem? (i := 10) rfl
set_option maxRecDepth 100000 in
theorem hX5_operation_X3 : ∀ w ∈ u_ws RX3 TX3 4, w ∈ wsX5_operation := mem_places [17, 18, 19, 20] rfl
set_option maxRecDepth 100000 in
theorem hX5_operation_X5 : ∀ w ∈ u_ws RX5 TX5 9, w ∈ wsX5_operation := mem_places [8, 9, 10, 11, 12, 13, 14, 15, 16] rfl
set_option maxRecDepth 100000 in
theorem kX5_operation_34 : Cond.fieldLink RX5 34 (TX5 2).1 (TX5 2).2.1 (TX5 2).2.2.1 ∈ wsX5_operation := List.mem_of_getElem? (i := 1) rfl
set_option maxRecDepth 100000 in
theorem hX5_forget_X3 : ∀ w ∈ u_ws RX3 TX3 4, w ∈ wsX5_forget := mem_places [17, 18, 19, 20] rfl
set_option maxRecDepth 100000 in
theorem hX5_forget_X5 : ∀ w ∈ u_ws RX5 TX5 9, w ∈ wsX5_forget := mem_places [8, 9, 10, 11, 12, 13, 14, 15, 16] rfl
set_option maxRecDepth 100000 in
theorem kX5_forget_34 : Cond.fieldLink RX5 34 (TX5 2).1 (TX5 2).2.1 (TX5 2).2.2.1 ∈ wsX5_forget := List.mem_of_getElem? (i := 1) rfl
set_option maxRecDepth 100000 in
theorem hX5_load_X3 : ∀ w ∈ u_ws RX3 TX3 4, w ∈ wsX5_load := mem_places [20, 21, 22, 23] rfl
set_option maxRecDepth 100000 in
theorem hX5_load_X5 : ∀ w ∈ u_ws RX5 TX5 9, w ∈ wsX5_load := mem_places [11, 12, 13, 14, 15, 16, 17, 18, 19] rfl
set_option maxRecDepth 100000 in
theorem kX5_load_34 : Cond.fieldLink RX5 34 (TX5 2).1 (TX5 2).2.1 (TX5 2).2.2.1 ∈ wsX5_load := List.mem_of_getElem? (i := 1) rfl
set_option maxRecDepth 100000 in
theorem hX5_patch_X2 : ∀ w ∈ u_ws RX2 TX2 2, w ∈ wsX5_patch := mem_places [78, 79] rfl
set_option maxRecDepth 100000 in
theorem hX5_patch_X3 : ∀ w ∈ u_ws RX3 TX3 4, w ∈ wsX5_patch := mem_places [74, 75, 76, 77] rfl
set_option maxRecDepth 100000 in
theorem hX5_patch_X5 : ∀ w ∈ u_ws RX5 TX5 9, w ∈ wsX5_patch := mem_places [65, 66, 67, 68, 69, 70, 71, 72, 73] rfl
set_option maxRecDepth 100000 in
theorem kX5_patch_24 : Cond.fieldLink RX5 24 (TX5 1).1 (TX5 1).2.1 (TX5 1).2.2.1 ∈ wsX5_patch := List.mem_of_getElem? (i := 3) rfl
set_option maxRecDepth 100000 in
theorem kX5_patch_64 : Cond.fieldLink RX5 64 (TX5 8).1 (TX5 8).2.1 (TX5 8).2.2.1 ∈ wsX5_patch := List.mem_of_getElem? (i := 4) rfl
set_option maxRecDepth 100000 in
theorem kX5_patch_34 : Cond.fieldLink RX5 34 (TX5 2).1 (TX5 2).2.1 (TX5 2).2.2.1 ∈ wsX5_patch := List.mem_of_getElem? (i := 5) rfl
set_option maxRecDepth 100000 in
theorem kX5_patch_60 : Cond.fieldLink RX5 60 (TX5 7).1 (TX5 7).2.1 (TX5 7).2.2.1 ∈ wsX5_patch := List.mem_of_getElem? (i := 6) rfl
set_option maxRecDepth 100000 in
theorem hX5_merge_X0 : ∀ w ∈ u_ws RX0 TX0 3, w ∈ wsX5_merge := mem_places [128, 129, 130] rfl
set_option maxRecDepth 100000 in
theorem hX5_merge_X1 : ∀ w ∈ u_ws RX1 TX1 8, w ∈ wsX5_merge := mem_places [120, 121, 122, 123, 124, 125, 126, 127] rfl
set_option maxRecDepth 100000 in
theorem hX5_merge_X2 : ∀ w ∈ u_ws RX2 TX2 2, w ∈ wsX5_merge := mem_places [118, 119] rfl
set_option maxRecDepth 100000 in
theorem hX5_merge_X4 : ∀ w ∈ u_ws RX4 TX4 3, w ∈ wsX5_merge := mem_places [131, 132, 133] rfl
set_option maxRecDepth 100000 in
theorem hX5_merge_X5 : ∀ w ∈ u_ws RX5 TX5 9, w ∈ wsX5_merge := mem_places [109, 110, 111, 112, 113, 114, 115, 116, 117] rfl
set_option maxRecDepth 100000 in
theorem kX5_merge_60 : Cond.fieldLink RX5 60 (TX5 7).1 (TX5 7).2.1 (TX5 7).2.2.1 ∈ wsX5_merge := List.mem_of_getElem? (i := 1) rfl
set_option maxRecDepth 100000 in
theorem kX5_merge_56 : Cond.fieldLink RX5 56 (TX5 6).1 (TX5 6).2.1 (TX5 6).2.2.1 ∈ wsX5_merge := List.mem_of_getElem? (i := 2) rfl
set_option maxRecDepth 100000 in
theorem kX5_merge_47 : Cond.fieldLink RX5 47 (TX5 5).1 (TX5 5).2.1 (TX5 5).2.2.1 ∈ wsX5_merge := List.mem_of_getElem? (i := 3) rfl
set_option maxRecDepth 100000 in
theorem hX5_result_X2 : ∀ w ∈ u_ws RX2 TX2 2, w ∈ wsX5_result := mem_places [18, 19] rfl
set_option maxRecDepth 100000 in
theorem hX5_result_X5 : ∀ w ∈ u_ws RX5 TX5 9, w ∈ wsX5_result := mem_places [9, 10, 11, 12, 13, 14, 15, 16, 17] rfl
set_option maxRecDepth 100000 in
theorem kX5_result_60 : Cond.fieldLink RX5 60 (TX5 7).1 (TX5 7).2.1 (TX5 7).2.2.1 ∈ wsX5_result := List.mem_of_getElem? (i := 1) rfl
set_option maxRecDepth 100000 in
theorem hX5_results_X2 : ∀ w ∈ u_ws RX2 TX2 2, w ∈ wsX5_results := mem_places [11, 12] rfl
set_option maxRecDepth 100000 in
theorem hX5_results_X5 : ∀ w ∈ u_ws RX5 TX5 9, w ∈ wsX5_results := mem_places [2, 3, 4, 5, 6, 7, 8, 9, 10] rfl
set_option maxRecDepth 100000 in
theorem kX5_results_60 : Cond.fieldLink RX5 60 (TX5 7).1 (TX5 7).2.1 (TX5 7).2.2.1 ∈ wsX5_results := List.mem_of_getElem? (i := 1) rfl
set_option maxRecDepth 100000 in
theorem hX5_hunks_X3 : ∀ w ∈ u_ws RX3 TX3 4, w ∈ wsX5_hunks := mem_places [35, 36, 37, 38] rfl
set_option maxRecDepth 100000 in
theorem hX5_hunks_X5 : ∀ w ∈ u_ws RX5 TX5 9, w ∈ wsX5_hunks := mem_places [26, 27, 28, 29, 30, 31, 32, 33, 34] rfl
set_option maxRecDepth 100000 in
theorem kX5_hunks_38 : Cond.fieldLink RX5 38 (TX5 3).1 (TX5 3).2.1 (TX5 3).2.2.1 ∈ wsX5_hunks := List.mem_of_getElem? (i := 1) rfl
set_option maxRecDepth 100000 in
theorem hX5_hunk_X3 : ∀ w ∈ u_ws RX3 TX3 4, w ∈ wsX5_hunk := mem_places [62, 63, 64, 65] rfl
set_option maxRecDepth 100000 in
theorem hX5_hunk_X5 : ∀ w ∈ u_ws RX5 TX5 9, w ∈ wsX5_hunk := mem_places [53, 54, 55, 56, 57, 58, 59, 60, 61] rfl
set_option maxRecDepth 100000 in
theorem kX5_hunk_38 : Cond.fieldLink RX5 38 (TX5 3).1 (TX5 3).2.1 (TX5 3).2.2.1 ∈ wsX5_hunk := List.mem_of_getElem? (i := 1) rfl
set_option maxRecDepth 100000 in
theorem kX5_hunk_41 : Cond.fieldLink RX5 41 (TX5 4).1 (TX5 4).2.1 (TX5 4).2.2.1 ∈ wsX5_hunk := List.mem_of_getElem? (i := 6) rfl
set_option maxRecDepth 100000 in
theorem hX5_alike_X0 : ∀ w ∈ u_ws RX0 TX0 3, w ∈ wsX5_alike := mem_places [43, 44, 45] rfl
set_option maxRecDepth 100000 in
theorem hX5_alike_X2 : ∀ w ∈ u_ws RX2 TX2 2, w ∈ wsX5_alike := mem_places [41, 42] rfl
set_option maxRecDepth 100000 in
theorem hX5_alike_X5 : ∀ w ∈ u_ws RX5 TX5 9, w ∈ wsX5_alike := mem_places [32, 33, 34, 35, 36, 37, 38, 39, 40] rfl
set_option maxRecDepth 100000 in
theorem kX5_alike_24 : Cond.fieldLink RX5 24 (TX5 1).1 (TX5 1).2.1 (TX5 1).2.2.1 ∈ wsX5_alike := List.mem_of_getElem? (i := 2) rfl
set_option maxRecDepth 100000 in
theorem kX5_alike_47 : Cond.fieldLink RX5 47 (TX5 5).1 (TX5 5).2.1 (TX5 5).2.2.1 ∈ wsX5_alike := List.mem_of_getElem? (i := 3) rfl
set_option maxRecDepth 100000 in
theorem hX5_checkOperation_X2 : ∀ w ∈ u_ws RX2 TX2 2, w ∈ wsX5_checkOperation := mem_places [44, 45] rfl
set_option maxRecDepth 100000 in
theorem hX5_checkOperation_X3 : ∀ w ∈ u_ws RX3 TX3 4, w ∈ wsX5_checkOperation := mem_places [40, 41, 42, 43] rfl
set_option maxRecDepth 100000 in
theorem hX5_checkOperation_X5 : ∀ w ∈ u_ws RX5 TX5 9, w ∈ wsX5_checkOperation := mem_places [31, 32, 33, 34, 35, 36, 37, 38, 39] rfl
set_option maxRecDepth 100000 in
theorem kX5_checkOperation_34 : Cond.fieldLink RX5 34 (TX5 2).1 (TX5 2).2.1 (TX5 2).2.2.1 ∈ wsX5_checkOperation := List.mem_of_getElem? (i := 7) rfl
set_option maxRecDepth 100000 in
theorem hX5_checkRoom_X2 : ∀ w ∈ u_ws RX2 TX2 2, w ∈ wsX5_checkRoom := mem_places [13, 14] rfl
set_option maxRecDepth 100000 in
theorem hX5_checkRoom_X5 : ∀ w ∈ u_ws RX5 TX5 9, w ∈ wsX5_checkRoom := mem_places [4, 5, 6, 7, 8, 9, 10, 11, 12] rfl
set_option maxRecDepth 100000 in
theorem kX5_checkRoom_64 : Cond.fieldLink RX5 64 (TX5 8).1 (TX5 8).2.1 (TX5 8).2.2.1 ∈ wsX5_checkRoom := List.mem_of_getElem? (i := 3) rfl
set_option maxRecDepth 100000 in
theorem hX5_swapResultAndDraft_X5 : ∀ w ∈ u_ws RX5 TX5 9, w ∈ wsX5_swapResultAndDraft := mem_places [3, 4, 5, 6, 7, 8, 9, 10, 11] rfl
set_option maxRecDepth 100000 in
theorem kX5_swapResultAndDraft_60 : Cond.fieldLink RX5 60 (TX5 7).1 (TX5 7).2.1 (TX5 7).2.2.1 ∈ wsX5_swapResultAndDraft := List.mem_of_getElem? (i := 1) rfl
set_option maxRecDepth 100000 in
theorem kX5_swapResultAndDraft_64 : Cond.fieldLink RX5 64 (TX5 8).1 (TX5 8).2.1 (TX5 8).2.2.1 ∈ wsX5_swapResultAndDraft := List.mem_of_getElem? (i := 2) rfl
set_option maxRecDepth 100000 in
theorem hX6_init_X6 : ∀ w ∈ u_ws RX6 TX6 19, w ∈ wsX6_init := mem_places [18, 19, 20, 21, 22, 23, 24, 25, 26, 27, 28, 29, 30, 31, 32, 33, 34, 35, 36] rfl
set_option maxRecDepth 100000 in
theorem kX6_init_7 : Cond.fieldLink RX6 7 (TX6 2).1 (TX6 2).2.1 (TX6 2).2.2.1 ∈ wsX6_init := List.mem_of_getElem? (i := 5) rfl
set_option maxRecDepth 100000 in
theorem kX6_init_13 : Cond.fieldLink RX6 13 (TX6 3).1 (TX6 3).2.1 (TX6 3).2.2.1 ∈ wsX6_init := List.mem_of_getElem? (i := 6) rfl
set_option maxRecDepth 100000 in
theorem kX6_init_16 : Cond.fieldLink RX6 16 (TX6 5).1 (TX6 5).2.1 (TX6 5).2.2.1 ∈ wsX6_init := List.mem_of_getElem? (i := 7) rfl
set_option maxRecDepth 100000 in
theorem kX6_init_19 : Cond.fieldLink RX6 19 (TX6 6).1 (TX6 6).2.1 (TX6 6).2.2.1 ∈ wsX6_init := List.mem_of_getElem? (i := 8) rfl
set_option maxRecDepth 100000 in
theorem kX6_init_22 : Cond.fieldLink RX6 22 (TX6 7).1 (TX6 7).2.1 (TX6 7).2.2.1 ∈ wsX6_init := List.mem_of_getElem? (i := 9) rfl
set_option maxRecDepth 100000 in
theorem kX6_init_25 : Cond.fieldLink RX6 25 (TX6 11).1 (TX6 11).2.1 (TX6 11).2.2.1 ∈ wsX6_init := List.mem_of_getElem? (i := 10) rfl
set_option maxRecDepth 100000 in
theorem kX6_init_28 : Cond.fieldLink RX6 28 (TX6 12).1 (TX6 12).2.1 (TX6 12).2.2.1 ∈ wsX6_init := List.mem_of_getElem? (i := 11) rfl
set_option maxRecDepth 100000 in
theorem kX6_init_31 : Cond.fieldLink RX6 31 (TX6 14).1 (TX6 14).2.1 (TX6 14).2.2.1 ∈ wsX6_init := List.mem_of_getElem? (i := 12) rfl
set_option maxRecDepth 100000 in
theorem kX6_init_34 : Cond.fieldLink RX6 34 (TX6 15).1 (TX6 15).2.1 (TX6 15).2.2.1 ∈ wsX6_init := List.mem_of_getElem? (i := 13) rfl
set_option maxRecDepth 100000 in
theorem kX6_init_37 : Cond.fieldLink RX6 37 (TX6 16).1 (TX6 16).2.1 (TX6 16).2.2.1 ∈ wsX6_init := List.mem_of_getElem? (i := 14) rfl
set_option maxRecDepth 100000 in
theorem kX6_init_40 : Cond.fieldLink RX6 40 (TX6 17).1 (TX6 17).2.1 (TX6 17).2.2.1 ∈ wsX6_init := List.mem_of_getElem? (i := 15) rfl
set_option maxRecDepth 100000 in
theorem kX6_init_43 : Cond.fieldLink RX6 43 (TX6 18).1 (TX6 18).2.1 (TX6 18).2.2.1 ∈ wsX6_init := List.mem_of_getElem? (i := 16) rfl
set_option maxRecDepth 100000 in
theorem kX6_init_46 : Cond.fieldLink RX6 46 (TX6 0).1 (TX6 0).2.1 (TX6 0).2.2.1 ∈ wsX6_init := List.mem_of_getElem? (i := 17) rfl
set_option maxRecDepth 100000 in
theorem hX6_thrown_X6 : ∀ w ∈ u_ws RX6 TX6 19, w ∈ wsX6_thrown := mem_places [2, 3, 4, 5, 6, 7, 8, 9, 10, 11, 12, 13, 14, 15, 16, 17, 18, 19, 20] rfl
set_option maxRecDepth 100000 in
theorem kX6_thrown_50 : Cond.fieldLink RX6 50 (TX6 1).1 (TX6 1).2.1 (TX6 1).2.2.1 ∈ wsX6_thrown := List.mem_of_getElem? (i := 1) rfl
set_option maxRecDepth 100000 in
theorem hX6_feed_X6 : ∀ w ∈ u_ws RX6 TX6 19, w ∈ wsX6_feed := mem_places [8, 9, 10, 11, 12, 13, 14, 15, 16, 17, 18, 19, 20, 21, 22, 23, 24, 25, 26] rfl
set_option maxRecDepth 100000 in
theorem kX6_feed_50 : Cond.fieldLink RX6 50 (TX6 1).1 (TX6 1).2.1 (TX6 1).2.2.1 ∈ wsX6_feed := List.mem_of_getElem? (i := 1) rfl
set_option maxRecDepth 100000 in
theorem kX6_feed_7 : Cond.fieldLink RX6 7 (TX6 2).1 (TX6 2).2.1 (TX6 2).2.2.1 ∈ wsX6_feed := List.mem_of_getElem? (i := 2) rfl
set_option maxRecDepth 100000 in
theorem kX6_feed_13 : Cond.fieldLink RX6 13 (TX6 3).1 (TX6 3).2.1 (TX6 3).2.2.1 ∈ wsX6_feed := List.mem_of_getElem? (i := 3) rfl
set_option maxRecDepth 100000 in
theorem hX6_clear_X6 : ∀ w ∈ u_ws RX6 TX6 19, w ∈ wsX6_clear := mem_places [7, 8, 9, 10, 11, 12, 13, 14, 15, 16, 17, 18, 19, 20, 21, 22, 23, 24, 25] rfl
set_option maxRecDepth 100000 in
theorem kX6_clear_50 : Cond.fieldLink RX6 50 (TX6 1).1 (TX6 1).2.1 (TX6 1).2.2.1 ∈ wsX6_clear := List.mem_of_getElem? (i := 1) rfl
set_option maxRecDepth 100000 in
theorem kX6_clear_7 : Cond.fieldLink RX6 7 (TX6 2).1 (TX6 2).2.1 (TX6 2).2.2.1 ∈ wsX6_clear := List.mem_of_getElem? (i := 2) rfl
set_option maxRecDepth 100000 in
theorem hX6_size_X6 : ∀ w ∈ u_ws RX6 TX6 19, w ∈ wsX6_size := mem_places [7, 8, 9, 10, 11, 12, 13, 14, 15, 16, 17, 18, 19, 20, 21, 22, 23, 24, 25] rfl
set_option maxRecDepth 100000 in
theorem kX6_size_50 : Cond.fieldLink RX6 50 (TX6 1).1 (TX6 1).2.1 (TX6 1).2.2.1 ∈ wsX6_size := List.mem_of_getElem? (i := 1) rfl
set_option maxRecDepth 100000 in
theorem kX6_size_7 : Cond.fieldLink RX6 7 (TX6 2).1 (TX6 2).2.1 (TX6 2).2.2.1 ∈ wsX6_size := List.mem_of_getElem? (i := 2) rfl
set_option maxRecDepth 100000 in
theorem hX6_symbol_X6 : ∀ w ∈ u_ws RX6 TX6 19, w ∈ wsX6_symbol := mem_places [8, 9, 10, 11, 12, 13, 14, 15, 16, 17, 18, 19, 20, 21, 22, 23, 24, 25, 26] rfl
set_option maxRecDepth 100000 in
theorem kX6_symbol_50 : Cond.fieldLink RX6 50 (TX6 1).1 (TX6 1).2.1 (TX6 1).2.2.1 ∈ wsX6_symbol := List.mem_of_getElem? (i := 1) rfl
set_option maxRecDepth 100000 in
theorem kX6_symbol_7 : Cond.fieldLink RX6 7 (TX6 2).1 (TX6 2).2.1 (TX6 2).2.2.1 ∈ wsX6_symbol := List.mem_of_getElem? (i := 2) rfl
set_option maxRecDepth 100000 in
theorem kX6_symbol_13 : Cond.fieldLink RX6 13 (TX6 3).1 (TX6 3).2.1 (TX6 3).2.2.1 ∈ wsX6_symbol := List.mem_of_getElem? (i := 3) rfl
set_option maxRecDepth 100000 in
theorem hX6_same_X6 : ∀ w ∈ u_ws RX6 TX6 19, w ∈ wsX6_same := mem_places [2, 3, 4, 5, 6, 7, 8, 9, 10, 11, 12, 13, 14, 15, 16, 17, 18, 19, 20] rfl
set_option maxRecDepth 100000 in
theorem kX6_same_13 : Cond.fieldLink RX6 13 (TX6 3).1 (TX6 3).2.1 (TX6 3).2.2.1 ∈ wsX6_same := List.mem_of_getElem? (i := 1) rfl
set_option maxRecDepth 100000 in
theorem hX6_fill_X6 : ∀ w ∈ u_ws RX6 TX6 19, w ∈ wsX6_fill := mem_places [9, 10, 11, 12, 13, 14, 15, 16, 17, 18, 19, 20, 21, 22, 23, 24, 25, 26, 27] rfl
set_option maxRecDepth 100000 in
theorem kX6_fill_7 : Cond.fieldLink RX6 7 (TX6 2).1 (TX6 2).2.1 (TX6 2).2.2.1 ∈ wsX6_fill := List.mem_of_getElem? (i := 1) rfl
set_option maxRecDepth 100000 in
theorem kX6_fill_34 : Cond.fieldLink RX6 34 (TX6 15).1 (TX6 15).2.1 (TX6 15).2.2.1 ∈ wsX6_fill := List.mem_of_getElem? (i := 2) rfl
set_option maxRecDepth 100000 in
theorem hX6_deletes_X6 : ∀ w ∈ u_ws RX6 TX6 19, w ∈ wsX6_deletes := mem_places [3, 4, 5, 6, 7, 8, 9, 10, 11, 12, 13, 14, 15, 16, 17, 18, 19, 20, 21] rfl
set_option maxRecDepth 100000 in
theorem kX6_deletes_7 : Cond.fieldLink RX6 7 (TX6 2).1 (TX6 2).2.1 (TX6 2).2.2.1 ∈ wsX6_deletes := List.mem_of_getElem? (i := 1) rfl
set_option maxRecDepth 100000 in
theorem kX6_deletes_34 : Cond.fieldLink RX6 34 (TX6 15).1 (TX6 15).2.1 (TX6 15).2.2.1 ∈ wsX6_deletes := List.mem_of_getElem? (i := 2) rfl
set_option maxRecDepth 100000 in
theorem hX6_diff_X6 : ∀ w ∈ u_ws RX6 TX6 19, w ∈ wsX6_diff := mem_places [35, 36, 37, 38, 39, 40, 41, 42, 43, 44, 45, 46, 47, 48, 49, 50, 51, 52, 53] rfl
set_option maxRecDepth 100000 in
theorem kX6_diff_34 : Cond.fieldLink RX6 34 (TX6 15).1 (TX6 15).2.1 (TX6 15).2.2.1 ∈ wsX6_diff := List.mem_of_getElem? (i := 1) rfl
set_option maxRecDepth 100000 in
theorem kX6_diff_46 : Cond.fieldLink RX6 46 (TX6 0).1 (TX6 0).2.1 (TX6 0).2.2.1 ∈ wsX6_diff := List.mem_of_getElem? (i := 2) rfl
set_option maxRecDepth 100000 in
theorem kX6_diff_50 : Cond.fieldLink RX6 50 (TX6 1).1 (TX6 1).2.1 (TX6 1).2.2.1 ∈ wsX6_diff := List.mem_of_getElem? (i := 3) rfl
set_option maxRecDepth 100000 in
theorem kX6_diff_65 : Cond.fieldLink RX6 65 (TX6 4).1 (TX6 4).2.1 (TX6 4).2.2.1 ∈ wsX6_diff := List.mem_of_getElem? (i := 4) rfl
set_option maxRecDepth 100000 in
theorem kX6_diff_7 : Cond.fieldLink RX6 7 (TX6 2).1 (TX6 2).2.1 (TX6 2).2.2.1 ∈ wsX6_diff := List.mem_of_getElem? (i := 5) rfl
set_option maxRecDepth 100000 in
theorem kX6_diff_13 : Cond.fieldLink RX6 13 (TX6 3).1 (TX6 3).2.1 (TX6 3).2.2.1 ∈ wsX6_diff := List.mem_of_getElem? (i := 6) rfl
set_option maxRecDepth 100000 in
theorem kX6_diff_76 : Cond.fieldLink RX6 76 (TX6 8).1 (TX6 8).2.1 (TX6 8).2.2.1 ∈ wsX6_diff := List.mem_of_getElem? (i := 7) rfl
set_option maxRecDepth 100000 in
theorem kX6_diff_80 : Cond.fieldLink RX6 80 (TX6 9).1 (TX6 9).2.1 (TX6 9).2.2.1 ∈ wsX6_diff := List.mem_of_getElem? (i := 8) rfl
set_option maxRecDepth 100000 in
theorem kX6_diff_83 : Cond.fieldLink RX6 83 (TX6 10).1 (TX6 10).2.1 (TX6 10).2.2.1 ∈ wsX6_diff := List.mem_of_getElem? (i := 9) rfl
set_option maxRecDepth 100000 in
theorem kX6_diff_25 : Cond.fieldLink RX6 25 (TX6 11).1 (TX6 11).2.1 (TX6 11).2.2.1 ∈ wsX6_diff := List.mem_of_getElem? (i := 10) rfl
set_option maxRecDepth 100000 in
theorem kX6_diff_16 : Cond.fieldLink RX6 16 (TX6 5).1 (TX6 5).2.1 (TX6 5).2.2.1 ∈ wsX6_diff := List.mem_of_getElem? (i := 11) rfl
set_option maxRecDepth 100000 in
theorem kX6_diff_28 : Cond.fieldLink RX6 28 (TX6 12).1 (TX6 12).2.1 (TX6 12).2.2.1 ∈ wsX6_diff := List.mem_of_getElem? (i := 12) rfl
set_option maxRecDepth 100000 in
theorem kX6_diff_19 : Cond.fieldLink RX6 19 (TX6 6).1 (TX6 6).2.1 (TX6 6).2.2.1 ∈ wsX6_diff := List.mem_of_getElem? (i := 13) rfl
set_option maxRecDepth 100000 in
theorem hX6_put_X6 : ∀ w ∈ u_ws RX6 TX6 19, w ∈ wsX6_put := mem_places [5, 6, 7, 8, 9, 10, 11, 12, 13, 14, 15, 16, 17, 18, 19, 20, 21, 22, 23] rfl
set_option maxRecDepth 100000 in
theorem kX6_put_16 : Cond.fieldLink RX6 16 (TX6 5).1 (TX6 5).2.1 (TX6 5).2.2.1 ∈ wsX6_put := List.mem_of_getElem? (i := 1) rfl
set_option maxRecDepth 100000 in
theorem kX6_put_65 : Cond.fieldLink RX6 65 (TX6 4).1 (TX6 4).2.1 (TX6 4).2.2.1 ∈ wsX6_put := List.mem_of_getElem? (i := 2) rfl
set_option maxRecDepth 100000 in
theorem kX6_put_19 : Cond.fieldLink RX6 19 (TX6 6).1 (TX6 6).2.1 (TX6 6).2.2.1 ∈ wsX6_put := List.mem_of_getElem? (i := 3) rfl
set_option maxRecDepth 100000 in
theorem kX6_put_22 : Cond.fieldLink RX6 22 (TX6 7).1 (TX6 7).2.1 (TX6 7).2.2.1 ∈ wsX6_put := List.mem_of_getElem? (i := 4) rfl
set_option maxRecDepth 100000 in
theorem hX6_operation_X6 : ∀ w ∈ u_ws RX6 TX6 19, w ∈ wsX6_operation := mem_places [6, 7, 8, 9, 10, 11, 12, 13, 14, 15, 16, 17, 18, 19, 20, 21, 22, 23, 24] rfl
set_option maxRecDepth 100000 in
theorem kX6_operation_50 : Cond.fieldLink RX6 50 (TX6 1).1 (TX6 1).2.1 (TX6 1).2.2.1 ∈ wsX6_operation := List.mem_of_getElem? (i := 1) rfl
set_option maxRecDepth 100000 in
theorem kX6_operation_65 : Cond.fieldLink RX6 65 (TX6 4).1 (TX6 4).2.1 (TX6 4).2.2.1 ∈ wsX6_operation := List.mem_of_getElem? (i := 2) rfl
set_option maxRecDepth 100000 in
theorem kX6_operation_16 : Cond.fieldLink RX6 16 (TX6 5).1 (TX6 5).2.1 (TX6 5).2.2.1 ∈ wsX6_operation := List.mem_of_getElem? (i := 3) rfl
set_option maxRecDepth 100000 in
theorem kX6_operation_19 : Cond.fieldLink RX6 19 (TX6 6).1 (TX6 6).2.1 (TX6 6).2.2.1 ∈ wsX6_operation := List.mem_of_getElem? (i := 4) rfl
set_option maxRecDepth 100000 in
theorem kX6_operation_22 : Cond.fieldLink RX6 22 (TX6 7).1 (TX6 7).2.1 (TX6 7).2.2.1 ∈ wsX6_operation := List.mem_of_getElem? (i := 5) rfl
set_option maxRecDepth 100000 in
theorem hX6_forget_X6 : ∀ w ∈ u_ws RX6 TX6 19, w ∈ wsX6_forget := mem_places [3, 4, 5, 6, 7, 8, 9, 10, 11, 12, 13, 14, 15, 16, 17, 18, 19, 20, 21] rfl
set_option maxRecDepth 100000 in
theorem kX6_forget_50 : Cond.fieldLink RX6 50 (TX6 1).1 (TX6 1).2.1 (TX6 1).2.2.1 ∈ wsX6_forget := List.mem_of_getElem? (i := 1) rfl
set_option maxRecDepth 100000 in
theorem kX6_forget_65 : Cond.fieldLink RX6 65 (TX6 4).1 (TX6 4).2.1 (TX6 4).2.2.1 ∈ wsX6_forget := List.mem_of_getElem? (i := 2) rfl
set_option maxRecDepth 100000 in
theorem hX6_load_X6 : ∀ w ∈ u_ws RX6 TX6 19, w ∈ wsX6_load := mem_places [11, 12, 13, 14, 15, 16, 17, 18, 19, 20, 21, 22, 23, 24, 25, 26, 27, 28, 29] rfl
set_option maxRecDepth 100000 in
theorem kX6_load_50 : Cond.fieldLink RX6 50 (TX6 1).1 (TX6 1).2.1 (TX6 1).2.2.1 ∈ wsX6_load := List.mem_of_getElem? (i := 1) rfl
set_option maxRecDepth 100000 in
theorem kX6_load_65 : Cond.fieldLink RX6 65 (TX6 4).1 (TX6 4).2.1 (TX6 4).2.2.1 ∈ wsX6_load := List.mem_of_getElem? (i := 2) rfl
set_option maxRecDepth 100000 in
theorem hX6_trouble_X6 : ∀ w ∈ u_ws RX6 TX6 19, w ∈ wsX6_trouble := mem_places [6, 7, 8, 9, 10, 11, 12, 13, 14, 15, 16, 17, 18, 19, 20, 21, 22, 23, 24] rfl
set_option maxRecDepth 100000 in
theorem kX6_trouble_7 : Cond.fieldLink RX6 7 (TX6 2).1 (TX6 2).2.1 (TX6 2).2.2.1 ∈ wsX6_trouble := List.mem_of_getElem? (i := 1) rfl
set_option maxRecDepth 100000 in
theorem kX6_trouble_16 : Cond.fieldLink RX6 16 (TX6 5).1 (TX6 5).2.1 (TX6 5).2.2.1 ∈ wsX6_trouble := List.mem_of_getElem? (i := 2) rfl
set_option maxRecDepth 100000 in
theorem kX6_trouble_19 : Cond.fieldLink RX6 19 (TX6 6).1 (TX6 6).2.1 (TX6 6).2.2.1 ∈ wsX6_trouble := List.mem_of_getElem? (i := 3) rfl
set_option maxRecDepth 100000 in
theorem kX6_trouble_22 : Cond.fieldLink RX6 22 (TX6 7).1 (TX6 7).2.1 (TX6 7).2.2.1 ∈ wsX6_trouble := List.mem_of_getElem? (i := 4) rfl
set_option maxRecDepth 100000 in
theorem kX6_trouble_13 : Cond.fieldLink RX6 13 (TX6 3).1 (TX6 3).2.1 (TX6 3).2.2.1 ∈ wsX6_trouble := List.mem_of_getElem? (i := 5) rfl
set_option maxRecDepth 100000 in
theorem hX6_wrong_X6 : ∀ w ∈ u_ws RX6 TX6 19, w ∈ wsX6_wrong := mem_places [12, 13, 14, 15, 16, 17, 18, 19, 20, 21, 22, 23, 24, 25, 26, 27, 28, 29, 30] rfl
set_option maxRecDepth 100000 in
theorem kX6_wrong_65 : Cond.fieldLink RX6 65 (TX6 4).1 (TX6 4).2.1 (TX6 4).2.2.1 ∈ wsX6_wrong := List.mem_of_getElem? (i := 1) rfl
set_option maxRecDepth 100000 in
theorem kX6_wrong_19 : Cond.fieldLink RX6 19 (TX6 6).1 (TX6 6).2.1 (TX6 6).2.2.1 ∈ wsX6_wrong := List.mem_of_getElem? (i := 2) rfl
set_option maxRecDepth 100000 in
theorem kX6_wrong_16 : Cond.fieldLink RX6 16 (TX6 5).1 (TX6 5).2.1 (TX6 5).2.2.1 ∈ wsX6_wrong := List.mem_of_getElem? (i := 3) rfl
set_option maxRecDepth 100000 in
theorem kX6_wrong_7 : Cond.fieldLink RX6 7 (TX6 2).1 (TX6 2).2.1 (TX6 2).2.2.1 ∈ wsX6_wrong := List.mem_of_getElem? (i := 4) rfl
set_option maxRecDepth 100000 in
theorem hX6_take_X6 : ∀ w ∈ u_ws RX6 TX6 19, w ∈ wsX6_take := mem_places [3, 4, 5, 6, 7, 8, 9, 10, 11, 12, 13, 14, 15, 16, 17, 18, 19, 20, 21] rfl
set_option maxRecDepth 100000 in
theorem kX6_take_31 : Cond.fieldLink RX6 31 (TX6 14).1 (TX6 14).2.1 (TX6 14).2.2.1 ∈ wsX6_take := List.mem_of_getElem? (i := 1) rfl
set_option maxRecDepth 100000 in
theorem kX6_take_90 : Cond.fieldLink RX6 90 (TX6 13).1 (TX6 13).2.1 (TX6 13).2.2.1 ∈ wsX6_take := List.mem_of_getElem? (i := 2) rfl
set_option maxRecDepth 100000 in
theorem hX6_patch_X6 : ∀ w ∈ u_ws RX6 TX6 19, w ∈ wsX6_patch := mem_places [26, 27, 28, 29, 30, 31, 32, 33, 34, 35, 36, 37, 38, 39, 40, 41, 42, 43, 44] rfl
set_option maxRecDepth 100000 in
theorem kX6_patch_50 : Cond.fieldLink RX6 50 (TX6 1).1 (TX6 1).2.1 (TX6 1).2.2.1 ∈ wsX6_patch := List.mem_of_getElem? (i := 1) rfl
set_option maxRecDepth 100000 in
theorem kX6_patch_90 : Cond.fieldLink RX6 90 (TX6 13).1 (TX6 13).2.1 (TX6 13).2.2.1 ∈ wsX6_patch := List.mem_of_getElem? (i := 2) rfl
set_option maxRecDepth 100000 in
theorem kX6_patch_7 : Cond.fieldLink RX6 7 (TX6 2).1 (TX6 2).2.1 (TX6 2).2.2.1 ∈ wsX6_patch := List.mem_of_getElem? (i := 3) rfl
set_option maxRecDepth 100000 in
theorem kX6_patch_65 : Cond.fieldLink RX6 65 (TX6 4).1 (TX6 4).2.1 (TX6 4).2.2.1 ∈ wsX6_patch := List.mem_of_getElem? (i := 4) rfl
set_option maxRecDepth 100000 in
theorem kX6_patch_19 : Cond.fieldLink RX6 19 (TX6 6).1 (TX6 6).2.1 (TX6 6).2.2.1 ∈ wsX6_patch := List.mem_of_getElem? (i := 5) rfl
set_option maxRecDepth 100000 in
theorem kX6_patch_16 : Cond.fieldLink RX6 16 (TX6 5).1 (TX6 5).2.1 (TX6 5).2.2.1 ∈ wsX6_patch := List.mem_of_getElem? (i := 6) rfl
set_option maxRecDepth 100000 in
theorem kX6_patch_22 : Cond.fieldLink RX6 22 (TX6 7).1 (TX6 7).2.1 (TX6 7).2.2.1 ∈ wsX6_patch := List.mem_of_getElem? (i := 7) rfl
set_option maxRecDepth 100000 in
theorem kX6_patch_13 : Cond.fieldLink RX6 13 (TX6 3).1 (TX6 3).2.1 (TX6 3).2.2.1 ∈ wsX6_patch := List.mem_of_getElem? (i := 8) rfl
set_option maxRecDepth 100000 in
theorem hX6_keep_X6 : ∀ w ∈ u_ws RX6 TX6 19, w ∈ wsX6_keep := mem_places [17, 18, 19, 20, 21, 22, 23, 24, 25, 26, 27, 28, 29, 30, 31, 32, 33, 34, 35] rfl
set_option maxRecDepth 100000 in
theorem kX6_keep_7 : Cond.fieldLink RX6 7 (TX6 2).1 (TX6 2).2.1 (TX6 2).2.2.1 ∈ wsX6_keep := List.mem_of_getElem? (i := 1) rfl
set_option maxRecDepth 100000 in
theorem hX6_alikeParts_X6 : ∀ w ∈ u_ws RX6 TX6 19, w ∈ wsX6_alikeParts := mem_places [7, 8, 9, 10, 11, 12, 13, 14, 15, 16, 17, 18, 19, 20, 21, 22, 23, 24, 25] rfl
set_option maxRecDepth 100000 in
theorem hX6_copy_X6 : ∀ w ∈ u_ws RX6 TX6 19, w ∈ wsX6_copy := mem_places [9, 10, 11, 12, 13, 14, 15, 16, 17, 18, 19, 20, 21, 22, 23, 24, 25, 26, 27] rfl
set_option maxRecDepth 100000 in
theorem kX6_copy_13 : Cond.fieldLink RX6 13 (TX6 3).1 (TX6 3).2.1 (TX6 3).2.2.1 ∈ wsX6_copy := List.mem_of_getElem? (i := 1) rfl
set_option maxRecDepth 100000 in
theorem hX6_between_X6 : ∀ w ∈ u_ws RX6 TX6 19, w ∈ wsX6_between := mem_places [21, 22, 23, 24, 25, 26, 27, 28, 29, 30, 31, 32, 33, 34, 35, 36, 37, 38, 39] rfl
set_option maxRecDepth 100000 in
theorem hX6_merge_X6 : ∀ w ∈ u_ws RX6 TX6 19, w ∈ wsX6_merge := mem_places [42, 43, 44, 45, 46, 47, 48, 49, 50, 51, 52, 53, 54, 55, 56, 57, 58, 59, 60] rfl
set_option maxRecDepth 100000 in
theorem kX6_merge_50 : Cond.fieldLink RX6 50 (TX6 1).1 (TX6 1).2.1 (TX6 1).2.2.1 ∈ wsX6_merge := List.mem_of_getElem? (i := 1) rfl
set_option maxRecDepth 100000 in
theorem kX6_merge_37 : Cond.fieldLink RX6 37 (TX6 16).1 (TX6 16).2.1 (TX6 16).2.2.1 ∈ wsX6_merge := List.mem_of_getElem? (i := 2) rfl
set_option maxRecDepth 100000 in
theorem kX6_merge_40 : Cond.fieldLink RX6 40 (TX6 17).1 (TX6 17).2.1 (TX6 17).2.2.1 ∈ wsX6_merge := List.mem_of_getElem? (i := 3) rfl
set_option maxRecDepth 100000 in
theorem kX6_merge_90 : Cond.fieldLink RX6 90 (TX6 13).1 (TX6 13).2.1 (TX6 13).2.2.1 ∈ wsX6_merge := List.mem_of_getElem? (i := 4) rfl
set_option maxRecDepth 100000 in
theorem kX6_merge_7 : Cond.fieldLink RX6 7 (TX6 2).1 (TX6 2).2.1 (TX6 2).2.2.1 ∈ wsX6_merge := List.mem_of_getElem? (i := 5) rfl
set_option maxRecDepth 100000 in
theorem kX6_merge_13 : Cond.fieldLink RX6 13 (TX6 3).1 (TX6 3).2.1 (TX6 3).2.2.1 ∈ wsX6_merge := List.mem_of_getElem? (i := 6) rfl
set_option maxRecDepth 100000 in
theorem hX6_result_X6 : ∀ w ∈ u_ws RX6 TX6 19, w ∈ wsX6_result := mem_places [4, 5, 6, 7, 8, 9, 10, 11, 12, 13, 14, 15, 16, 17, 18, 19, 20, 21, 22] rfl
set_option maxRecDepth 100000 in
theorem kX6_result_50 : Cond.fieldLink RX6 50 (TX6 1).1 (TX6 1).2.1 (TX6 1).2.2.1 ∈ wsX6_result := List.mem_of_getElem? (i := 1) rfl
set_option maxRecDepth 100000 in
theorem kX6_result_90 : Cond.fieldLink RX6 90 (TX6 13).1 (TX6 13).2.1 (TX6 13).2.2.1 ∈ wsX6_result := List.mem_of_getElem? (i := 2) rfl
set_option maxRecDepth 100000 in
theorem kX6_result_31 : Cond.fieldLink RX6 31 (TX6 14).1 (TX6 14).2.1 (TX6 14).2.2.1 ∈ wsX6_result := List.mem_of_getElem? (i := 3) rfl
set_option maxRecDepth 100000 in
theorem hX6_results_X6 : ∀ w ∈ u_ws RX6 TX6 19, w ∈ wsX6_results := mem_places [3, 4, 5, 6, 7, 8, 9, 10, 11, 12, 13, 14, 15, 16, 17, 18, 19, 20, 21] rfl
set_option maxRecDepth 100000 in
theorem kX6_results_50 : Cond.fieldLink RX6 50 (TX6 1).1 (TX6 1).2.1 (TX6 1).2.2.1 ∈ wsX6_results := List.mem_of_getElem? (i := 1) rfl
set_option maxRecDepth 100000 in
theorem kX6_results_90 : Cond.fieldLink RX6 90 (TX6 13).1 (TX6 13).2.1 (TX6 13).2.2.1 ∈ wsX6_results := List.mem_of_getElem? (i := 2) rfl
set_option maxRecDepth 100000 in
theorem hX6_together_X6 : ∀ w ∈ u_ws RX6 TX6 19, w ∈ wsX6_together := mem_places [3, 4, 5, 6, 7, 8, 9, 10, 11, 12, 13, 14, 15, 16, 17, 18, 19, 20, 21] rfl
set_option maxRecDepth 100000 in
theorem kX6_together_28 : Cond.fieldLink RX6 28 (TX6 12).1 (TX6 12).2.1 (TX6 12).2.2.1 ∈ wsX6_together := List.mem_of_getElem? (i := 1) rfl
set_option maxRecDepth 100000 in
theorem kX6_together_25 : Cond.fieldLink RX6 25 (TX6 11).1 (TX6 11).2.1 (TX6 11).2.2.1 ∈ wsX6_together := List.mem_of_getElem? (i := 2) rfl
set_option maxRecDepth 100000 in
theorem hX6_countHunks_X6 : ∀ w ∈ u_ws RX6 TX6 19, w ∈ wsX6_countHunks := mem_places [9, 10, 11, 12, 13, 14, 15, 16, 17, 18, 19, 20, 21, 22, 23, 24, 25, 26, 27] rfl
set_option maxRecDepth 100000 in
theorem kX6_countHunks_80 : Cond.fieldLink RX6 80 (TX6 9).1 (TX6 9).2.1 (TX6 9).2.2.1 ∈ wsX6_countHunks := List.mem_of_getElem? (i := 1) rfl
set_option maxRecDepth 100000 in
theorem hX6_hunks_X6 : ∀ w ∈ u_ws RX6 TX6 19, w ∈ wsX6_hunks := mem_places [15, 16, 17, 18, 19, 20, 21, 22, 23, 24, 25, 26, 27, 28, 29, 30, 31, 32, 33] rfl
set_option maxRecDepth 100000 in
theorem kX6_hunks_50 : Cond.fieldLink RX6 50 (TX6 1).1 (TX6 1).2.1 (TX6 1).2.2.1 ∈ wsX6_hunks := List.mem_of_getElem? (i := 1) rfl
set_option maxRecDepth 100000 in
theorem kX6_hunks_76 : Cond.fieldLink RX6 76 (TX6 8).1 (TX6 8).2.1 (TX6 8).2.2.1 ∈ wsX6_hunks := List.mem_of_getElem? (i := 2) rfl
set_option maxRecDepth 100000 in
theorem hX6_hunk_X6 : ∀ w ∈ u_ws RX6 TX6 19, w ∈ wsX6_hunk := mem_places [17, 18, 19, 20, 21, 22, 23, 24, 25, 26, 27, 28, 29, 30, 31, 32, 33, 34, 35] rfl
set_option maxRecDepth 100000 in
theorem kX6_hunk_50 : Cond.fieldLink RX6 50 (TX6 1).1 (TX6 1).2.1 (TX6 1).2.2.1 ∈ wsX6_hunk := List.mem_of_getElem? (i := 1) rfl
set_option maxRecDepth 100000 in
theorem kX6_hunk_76 : Cond.fieldLink RX6 76 (TX6 8).1 (TX6 8).2.1 (TX6 8).2.2.1 ∈ wsX6_hunk := List.mem_of_getElem? (i := 2) rfl
set_option maxRecDepth 100000 in
theorem kX6_hunk_43 : Cond.fieldLink RX6 43 (TX6 18).1 (TX6 18).2.1 (TX6 18).2.2.1 ∈ wsX6_hunk := List.mem_of_getElem? (i := 3) rfl
set_option maxRecDepth 100000 in
theorem kX6_hunk_80 : Cond.fieldLink RX6 80 (TX6 9).1 (TX6 9).2.1 (TX6 9).2.2.1 ∈ wsX6_hunk := List.mem_of_getElem? (i := 4) rfl
set_option maxRecDepth 100000 in
theorem kX6_hunk_28 : Cond.fieldLink RX6 28 (TX6 12).1 (TX6 12).2.1 (TX6 12).2.2.1 ∈ wsX6_hunk := List.mem_of_getElem? (i := 5) rfl
set_option maxRecDepth 100000 in
theorem kX6_hunk_25 : Cond.fieldLink RX6 25 (TX6 11).1 (TX6 11).2.1 (TX6 11).2.2.1 ∈ wsX6_hunk := List.mem_of_getElem? (i := 6) rfl
set_option maxRecDepth 100000 in
theorem kX6_hunk_83 : Cond.fieldLink RX6 83 (TX6 10).1 (TX6 10).2.1 (TX6 10).2.2.1 ∈ wsX6_hunk := List.mem_of_getElem? (i := 7) rfl
set_option maxRecDepth 100000 in
theorem hX6_alike_X6 : ∀ w ∈ u_ws RX6 TX6 19, w ∈ wsX6_alike := mem_places [18, 19, 20, 21, 22, 23, 24, 25, 26, 27, 28, 29, 30, 31, 32, 33, 34, 35, 36] rfl
set_option maxRecDepth 100000 in
theorem kX6_alike_50 : Cond.fieldLink RX6 50 (TX6 1).1 (TX6 1).2.1 (TX6 1).2.2.1 ∈ wsX6_alike := List.mem_of_getElem? (i := 1) rfl
set_option maxRecDepth 100000 in
theorem kX6_alike_7 : Cond.fieldLink RX6 7 (TX6 2).1 (TX6 2).2.1 (TX6 2).2.2.1 ∈ wsX6_alike := List.mem_of_getElem? (i := 3) rfl
set_option maxRecDepth 100000 in
theorem kX6_alike_34 : Cond.fieldLink RX6 34 (TX6 15).1 (TX6 15).2.1 (TX6 15).2.2.1 ∈ wsX6_alike := List.mem_of_getElem? (i := 4) rfl
set_option maxRecDepth 100000 in
theorem hL_diff_X0 : ∀ w ∈ u_ws RX0 TX0 3, w ∈ wsL_diff := mem_places [88, 89, 90] rfl
set_option maxRecDepth 100000 in
theorem hL_diff_X2 : ∀ w ∈ u_ws RX2 TX2 2, w ∈ wsL_diff := mem_places [82, 83] rfl
set_option maxRecDepth 100000 in
theorem hL_diff_X3 : ∀ w ∈ u_ws RX3 TX3 4, w ∈ wsL_diff := mem_places [84, 85, 86, 87] rfl
set_option maxRecDepth 100000 in
theorem hL_diff_X5 : ∀ w ∈ u_ws RX5 TX5 9, w ∈ wsL_diff := mem_places [73, 74, 75, 76, 77, 78, 79, 80, 81] rfl
set_option maxRecDepth 100000 in
theorem hL_patch_X2 : ∀ w ∈ u_ws RX2 TX2 2, w ∈ wsL_patch := mem_places [86, 87] rfl
set_option maxRecDepth 100000 in
theorem hL_patch_X3 : ∀ w ∈ u_ws RX3 TX3 4, w ∈ wsL_patch := mem_places [82, 83, 84, 85] rfl
set_option maxRecDepth 100000 in
theorem hL_patch_X5 : ∀ w ∈ u_ws RX5 TX5 9, w ∈ wsL_patch := mem_places [73, 74, 75, 76, 77, 78, 79, 80, 81] rfl
theorem kn_X5_110 : Cond.fieldLinkNest RX5 110 (TX3 3).1 (TX3 3).2.1 (TX3 3).2.2.1 "DiffDesk" ∈ nW := List.mem_of_getElem? (i := 0) rfl
theorem kn_X5_114 : Cond.fieldLinkNest RX5 114 (TX3 0).1 (TX3 0).2.1 (TX3 0).2.2.1 "DiffDesk" ∈ nW := List.mem_of_getElem? (i := 1) rfl
theorem kn_X5_118 : Cond.fieldLinkNest RX5 118 (TX3 1).1 (TX3 1).2.1 (TX3 1).2.2.1 "DiffDesk" ∈ nW := List.mem_of_getElem? (i := 2) rfl
theorem kn_X5_121 : Cond.fieldLinkNest RX5 121 (TX3 2).1 (TX3 2).2.1 (TX3 2).2.2.1 "DiffDesk" ∈ nW := List.mem_of_getElem? (i := 3) rfl
theorem kn_X5_80 : Cond.fieldLinkNest RX5 80 (TX2 1).1 (TX2 1).2.1 (TX2 1).2.2.1 "DiffDesk" ∈ nW := List.mem_of_getElem? (i := 4) rfl
theorem kn_X0_28 : Cond.fieldLinkNest RX0 28 (TX2 1).1 (TX2 1).2.1 (TX2 1).2.2.1 "DiffDesk" ∈ nW := List.mem_of_getElem? (i := 5) rfl
theorem kn_X0_64 : Cond.fieldLinkNest RX0 64 (TX2 0).1 (TX2 0).2.1 (TX2 0).2.2.1 "DiffDesk" ∈ nW := List.mem_of_getElem? (i := 6) rfl
theorem kn_X1_59 : Cond.fieldLinkNest RX1 59 (TX2 1).1 (TX2 1).2.1 (TX2 1).2.2.1 "DiffDesk" ∈ nW := List.mem_of_getElem? (i := 7) rfl
theorem cdX0_init : yX0_init.cls = RX0 ∧ yX0_init.cls ≠ "java/lang/invoke/MethodHandle" ∧ yX0_init.cls ≠ "java/lang/invoke/VarHandle" ∧ (parseMethodDescriptor yX0_init.desc).map (fun d => d.parameters.length) = some 0 := by decide +kernel
theorem cdX0_compare : yX0_compare.cls = RX0 ∧ yX0_compare.cls ≠ "java/lang/invoke/MethodHandle" ∧ yX0_compare.cls ≠ "java/lang/invoke/VarHandle" ∧ (parseMethodDescriptor yX0_compare.desc).map (fun d => d.parameters.length) = some 2 := by decide +kernel
theorem cdX0_operations : yX0_operations.cls = RX0 ∧ yX0_operations.cls ≠ "java/lang/invoke/MethodHandle" ∧ yX0_operations.cls ≠ "java/lang/invoke/VarHandle" ∧ (parseMethodDescriptor yX0_operations.desc).map (fun d => d.parameters.length) = some 0 := by decide +kernel
theorem cdX0_writeTo : yX0_writeTo.cls = RX0 ∧ yX0_writeTo.cls ≠ "java/lang/invoke/MethodHandle" ∧ yX0_writeTo.cls ≠ "java/lang/invoke/VarHandle" ∧ (parseMethodDescriptor yX0_writeTo.desc).map (fun d => d.parameters.length) = some 1 := by decide +kernel
theorem cdX0_pairTo : yX0_pairTo.cls = RX0 ∧ yX0_pairTo.cls ≠ "java/lang/invoke/MethodHandle" ∧ yX0_pairTo.cls ≠ "java/lang/invoke/VarHandle" ∧ (parseMethodDescriptor yX0_pairTo.desc).map (fun d => d.parameters.length) = some 1 := by decide +kernel
theorem cdX0_restAt : yX0_restAt.cls = RX0 ∧ yX0_restAt.cls ≠ "java/lang/invoke/MethodHandle" ∧ yX0_restAt.cls ≠ "java/lang/invoke/VarHandle" ∧ (parseMethodDescriptor yX0_restAt.desc).map (fun d => d.parameters.length) = some 2 := by decide +kernel
theorem cdX0_stepAt : yX0_stepAt.cls = RX0 ∧ yX0_stepAt.cls ≠ "java/lang/invoke/MethodHandle" ∧ yX0_stepAt.cls ≠ "java/lang/invoke/VarHandle" ∧ (parseMethodDescriptor yX0_stepAt.desc).map (fun d => d.parameters.length) = some 2 := by decide +kernel
theorem cdX0_isSame : yX0_isSame.cls = RX0 ∧ yX0_isSame.cls ≠ "java/lang/invoke/MethodHandle" ∧ yX0_isSame.cls ≠ "java/lang/invoke/VarHandle" ∧ (parseMethodDescriptor yX0_isSame.desc).map (fun d => d.parameters.length) = some 2 := by decide +kernel
theorem cdX1_init : yX1_init.cls = RX1 ∧ yX1_init.cls ≠ "java/lang/invoke/MethodHandle" ∧ yX1_init.cls ≠ "java/lang/invoke/VarHandle" ∧ (parseMethodDescriptor yX1_init.desc).map (fun d => d.parameters.length) = some 3 := by decide +kernel
theorem cdX1_mergeTo : yX1_mergeTo.cls = RX1 ∧ yX1_mergeTo.cls ≠ "java/lang/invoke/MethodHandle" ∧ yX1_mergeTo.cls ≠ "java/lang/invoke/VarHandle" ∧ (parseMethodDescriptor yX1_mergeTo.desc).map (fun d => d.parameters.length) = some 2 := by decide +kernel
theorem cdX1_isStable : yX1_isStable.cls = RX1 ∧ yX1_isStable.cls ≠ "java/lang/invoke/MethodHandle" ∧ yX1_isStable.cls ≠ "java/lang/invoke/VarHandle" ∧ (parseMethodDescriptor yX1_isStable.desc).map (fun d => d.parameters.length) = some 1 := by decide +kernel
theorem cdX1_endStretches : yX1_endStretches.cls = RX1 ∧ yX1_endStretches.cls ≠ "java/lang/invoke/MethodHandle" ∧ yX1_endStretches.cls ≠ "java/lang/invoke/VarHandle" ∧ (parseMethodDescriptor yX1_endStretches.desc).map (fun d => d.parameters.length) = some 3 := by decide +kernel
theorem cdX1_goOnBehindStable : yX1_goOnBehindStable.cls = RX1 ∧ yX1_goOnBehindStable.cls ≠ "java/lang/invoke/MethodHandle" ∧ yX1_goOnBehindStable.cls ≠ "java/lang/invoke/VarHandle" ∧ (parseMethodDescriptor yX1_goOnBehindStable.desc).map (fun d => d.parameters.length) = some 0 := by decide +kernel
theorem cdX1_mergeStretch : yX1_mergeStretch.cls = RX1 ∧ yX1_mergeStretch.cls ≠ "java/lang/invoke/MethodHandle" ∧ yX1_mergeStretch.cls ≠ "java/lang/invoke/VarHandle" ∧ (parseMethodDescriptor yX1_mergeStretch.desc).map (fun d => d.parameters.length) = some 1 := by decide +kernel
theorem cdX2_init : yX2_init.cls = RX2 ∧ yX2_init.cls ≠ "java/lang/invoke/MethodHandle" ∧ yX2_init.cls ≠ "java/lang/invoke/VarHandle" ∧ (parseMethodDescriptor yX2_init.desc).map (fun d => d.parameters.length) = some 1 := by decide +kernel
theorem cdX2_empty : yX2_empty.cls = RX2 ∧ yX2_empty.cls ≠ "java/lang/invoke/MethodHandle" ∧ yX2_empty.cls ≠ "java/lang/invoke/VarHandle" ∧ (parseMethodDescriptor yX2_empty.desc).map (fun d => d.parameters.length) = some 0 := by decide +kernel
theorem cdX2_add : yX2_add.cls = RX2 ∧ yX2_add.cls ≠ "java/lang/invoke/MethodHandle" ∧ yX2_add.cls ≠ "java/lang/invoke/VarHandle" ∧ (parseMethodDescriptor yX2_add.desc).map (fun d => d.parameters.length) = some 1 := by decide +kernel
theorem cdX2_addAll : yX2_addAll.cls = RX2 ∧ yX2_addAll.cls ≠ "java/lang/invoke/MethodHandle" ∧ yX2_addAll.cls ≠ "java/lang/invoke/VarHandle" ∧ (parseMethodDescriptor yX2_addAll.desc).map (fun d => d.parameters.length) = some 3 := by decide +kernel
theorem cdX2_at : yX2_at.cls = RX2 ∧ yX2_at.cls ≠ "java/lang/invoke/MethodHandle" ∧ yX2_at.cls ≠ "java/lang/invoke/VarHandle" ∧ (parseMethodDescriptor yX2_at.desc).map (fun d => d.parameters.length) = some 2 := by decide +kernel
theorem cdX3_init : yX3_init.cls = RX3 ∧ yX3_init.cls ≠ "java/lang/invoke/MethodHandle" ∧ yX3_init.cls ≠ "java/lang/invoke/VarHandle" ∧ (parseMethodDescriptor yX3_init.desc).map (fun d => d.parameters.length) = some 0 := by decide +kernel
theorem cdX3_empty : yX3_empty.cls = RX3 ∧ yX3_empty.cls ≠ "java/lang/invoke/MethodHandle" ∧ yX3_empty.cls ≠ "java/lang/invoke/VarHandle" ∧ (parseMethodDescriptor yX3_empty.desc).map (fun d => d.parameters.length) = some 0 := by decide +kernel
theorem cdX3_add : yX3_add.cls = RX3 ∧ yX3_add.cls ≠ "java/lang/invoke/MethodHandle" ∧ yX3_add.cls ≠ "java/lang/invoke/VarHandle" ∧ (parseMethodDescriptor yX3_add.desc).map (fun d => d.parameters.length) = some 3 := by decide +kernel
theorem cdX3_has : yX3_has.cls = RX3 ∧ yX3_has.cls ≠ "java/lang/invoke/MethodHandle" ∧ yX3_has.cls ≠ "java/lang/invoke/VarHandle" ∧ (parseMethodDescriptor yX3_has.desc).map (fun d => d.parameters.length) = some 1 := by decide +kernel
theorem cdX3_placeOf : yX3_placeOf.cls = RX3 ∧ yX3_placeOf.cls ≠ "java/lang/invoke/MethodHandle" ∧ yX3_placeOf.cls ≠ "java/lang/invoke/VarHandle" ∧ (parseMethodDescriptor yX3_placeOf.desc).map (fun d => d.parameters.length) = some 1 := by decide +kernel
theorem cdX3_behind : yX3_behind.cls = RX3 ∧ yX3_behind.cls ≠ "java/lang/invoke/MethodHandle" ∧ yX3_behind.cls ≠ "java/lang/invoke/VarHandle" ∧ (parseMethodDescriptor yX3_behind.desc).map (fun d => d.parameters.length) = some 1 := by decide +kernel
theorem cdX3_beginsHunk : yX3_beginsHunk.cls = RX3 ∧ yX3_beginsHunk.cls ≠ "java/lang/invoke/MethodHandle" ∧ yX3_beginsHunk.cls ≠ "java/lang/invoke/VarHandle" ∧ (parseMethodDescriptor yX3_beginsHunk.desc).map (fun d => d.parameters.length) = some 2 := by decide +kernel
theorem cdX3_firstOfHunk : yX3_firstOfHunk.cls = RX3 ∧ yX3_firstOfHunk.cls ≠ "java/lang/invoke/MethodHandle" ∧ yX3_firstOfHunk.cls ≠ "java/lang/invoke/VarHandle" ∧ (parseMethodDescriptor yX3_firstOfHunk.desc).map (fun d => d.parameters.length) = some 2 := by decide +kernel
theorem cdX3_lastOfHunk : yX3_lastOfHunk.cls = RX3 ∧ yX3_lastOfHunk.cls ≠ "java/lang/invoke/MethodHandle" ∧ yX3_lastOfHunk.cls ≠ "java/lang/invoke/VarHandle" ∧ (parseMethodDescriptor yX3_lastOfHunk.desc).map (fun d => d.parameters.length) = some 2 := by decide +kernel
theorem cdX3_countKind : yX3_countKind.cls = RX3 ∧ yX3_countKind.cls ≠ "java/lang/invoke/MethodHandle" ∧ yX3_countKind.cls ≠ "java/lang/invoke/VarHandle" ∧ (parseMethodDescriptor yX3_countKind.desc).map (fun d => d.parameters.length) = some 3 := by decide +kernel
theorem cdX4_init : yX4_init.cls = RX4 ∧ yX4_init.cls ≠ "java/lang/invoke/MethodHandle" ∧ yX4_init.cls ≠ "java/lang/invoke/VarHandle" ∧ (parseMethodDescriptor yX4_init.desc).map (fun d => d.parameters.length) = some 1 := by decide +kernel
theorem cdX4_begin : yX4_begin.cls = RX4 ∧ yX4_begin.cls ≠ "java/lang/invoke/MethodHandle" ∧ yX4_begin.cls ≠ "java/lang/invoke/VarHandle" ∧ (parseMethodDescriptor yX4_begin.desc).map (fun d => d.parameters.length) = some 0 := by decide +kernel
theorem cdX4_endBefore : yX4_endBefore.cls = RX4 ∧ yX4_endBefore.cls ≠ "java/lang/invoke/MethodHandle" ∧ yX4_endBefore.cls ≠ "java/lang/invoke/VarHandle" ∧ (parseMethodDescriptor yX4_endBefore.desc).map (fun d => d.parameters.length) = some 1 := by decide +kernel
theorem cdX4_goOnBehindStable : yX4_goOnBehindStable.cls = RX4 ∧ yX4_goOnBehindStable.cls ≠ "java/lang/invoke/MethodHandle" ∧ yX4_goOnBehindStable.cls ≠ "java/lang/invoke/VarHandle" ∧ (parseMethodDescriptor yX4_goOnBehindStable.desc).map (fun d => d.parameters.length) = some 0 := by decide +kernel
theorem cdX4_isSameAs : yX4_isSameAs.cls = RX4 ∧ yX4_isSameAs.cls ≠ "java/lang/invoke/MethodHandle" ∧ yX4_isSameAs.cls ≠ "java/lang/invoke/VarHandle" ∧ (parseMethodDescriptor yX4_isSameAs.desc).map (fun d => d.parameters.length) = some 1 := by decide +kernel
theorem cdX4_addTo : yX4_addTo.cls = RX4 ∧ yX4_addTo.cls ≠ "java/lang/invoke/MethodHandle" ∧ yX4_addTo.cls ≠ "java/lang/invoke/VarHandle" ∧ (parseMethodDescriptor yX4_addTo.desc).map (fun d => d.parameters.length) = some 1 := by decide +kernel
theorem cdX5_init : yX5_init.cls = RX5 ∧ yX5_init.cls ≠ "java/lang/invoke/MethodHandle" ∧ yX5_init.cls ≠ "java/lang/invoke/VarHandle" ∧ (parseMethodDescriptor yX5_init.desc).map (fun d => d.parameters.length) = some 1 := by decide +kernel
theorem cdX5_feed : yX5_feed.cls = RX5 ∧ yX5_feed.cls ≠ "java/lang/invoke/MethodHandle" ∧ yX5_feed.cls ≠ "java/lang/invoke/VarHandle" ∧ (parseMethodDescriptor yX5_feed.desc).map (fun d => d.parameters.length) = some 2 := by decide +kernel
theorem cdX5_clear : yX5_clear.cls = RX5 ∧ yX5_clear.cls ≠ "java/lang/invoke/MethodHandle" ∧ yX5_clear.cls ≠ "java/lang/invoke/VarHandle" ∧ (parseMethodDescriptor yX5_clear.desc).map (fun d => d.parameters.length) = some 1 := by decide +kernel
theorem cdX5_size : yX5_size.cls = RX5 ∧ yX5_size.cls ≠ "java/lang/invoke/MethodHandle" ∧ yX5_size.cls ≠ "java/lang/invoke/VarHandle" ∧ (parseMethodDescriptor yX5_size.desc).map (fun d => d.parameters.length) = some 1 := by decide +kernel
theorem cdX5_symbol : yX5_symbol.cls = RX5 ∧ yX5_symbol.cls ≠ "java/lang/invoke/MethodHandle" ∧ yX5_symbol.cls ≠ "java/lang/invoke/VarHandle" ∧ (parseMethodDescriptor yX5_symbol.desc).map (fun d => d.parameters.length) = some 2 := by decide +kernel
theorem cdX5_diff : yX5_diff.cls = RX5 ∧ yX5_diff.cls ≠ "java/lang/invoke/MethodHandle" ∧ yX5_diff.cls ≠ "java/lang/invoke/VarHandle" ∧ (parseMethodDescriptor yX5_diff.desc).map (fun d => d.parameters.length) = some 2 := by decide +kernel
theorem cdX5_operation : yX5_operation.cls = RX5 ∧ yX5_operation.cls ≠ "java/lang/invoke/MethodHandle" ∧ yX5_operation.cls ≠ "java/lang/invoke/VarHandle" ∧ (parseMethodDescriptor yX5_operation.desc).map (fun d => d.parameters.length) = some 2 := by decide +kernel
theorem cdX5_forget : yX5_forget.cls = RX5 ∧ yX5_forget.cls ≠ "java/lang/invoke/MethodHandle" ∧ yX5_forget.cls ≠ "java/lang/invoke/VarHandle" ∧ (parseMethodDescriptor yX5_forget.desc).map (fun d => d.parameters.length) = some 0 := by decide +kernel
theorem cdX5_load : yX5_load.cls = RX5 ∧ yX5_load.cls ≠ "java/lang/invoke/MethodHandle" ∧ yX5_load.cls ≠ "java/lang/invoke/VarHandle" ∧ (parseMethodDescriptor yX5_load.desc).map (fun d => d.parameters.length) = some 3 := by decide +kernel
theorem cdX5_patch : yX5_patch.cls = RX5 ∧ yX5_patch.cls ≠ "java/lang/invoke/MethodHandle" ∧ yX5_patch.cls ≠ "java/lang/invoke/VarHandle" ∧ (parseMethodDescriptor yX5_patch.desc).map (fun d => d.parameters.length) = some 1 := by decide +kernel
theorem cdX5_merge : yX5_merge.cls = RX5 ∧ yX5_merge.cls ≠ "java/lang/invoke/MethodHandle" ∧ yX5_merge.cls ≠ "java/lang/invoke/VarHandle" ∧ (parseMethodDescriptor yX5_merge.desc).map (fun d => d.parameters.length) = some 0 := by decide +kernel
theorem cdX5_result : yX5_result.cls = RX5 ∧ yX5_result.cls ≠ "java/lang/invoke/MethodHandle" ∧ yX5_result.cls ≠ "java/lang/invoke/VarHandle" ∧ (parseMethodDescriptor yX5_result.desc).map (fun d => d.parameters.length) = some 1 := by decide +kernel
theorem cdX5_results : yX5_results.cls = RX5 ∧ yX5_results.cls ≠ "java/lang/invoke/MethodHandle" ∧ yX5_results.cls ≠ "java/lang/invoke/VarHandle" ∧ (parseMethodDescriptor yX5_results.desc).map (fun d => d.parameters.length) = some 0 := by decide +kernel
theorem cdX5_hunks : yX5_hunks.cls = RX5 ∧ yX5_hunks.cls ≠ "java/lang/invoke/MethodHandle" ∧ yX5_hunks.cls ≠ "java/lang/invoke/VarHandle" ∧ (parseMethodDescriptor yX5_hunks.desc).map (fun d => d.parameters.length) = some 1 := by decide +kernel
theorem cdX5_hunk : yX5_hunk.cls = RX5 ∧ yX5_hunk.cls ≠ "java/lang/invoke/MethodHandle" ∧ yX5_hunk.cls ≠ "java/lang/invoke/VarHandle" ∧ (parseMethodDescriptor yX5_hunk.desc).map (fun d => d.parameters.length) = some 3 := by decide +kernel
theorem cdX5_alike : yX5_alike.cls = RX5 ∧ yX5_alike.cls ≠ "java/lang/invoke/MethodHandle" ∧ yX5_alike.cls ≠ "java/lang/invoke/VarHandle" ∧ (parseMethodDescriptor yX5_alike.desc).map (fun d => d.parameters.length) = some 2 := by decide +kernel
theorem cdX5_isRow : yX5_isRow.cls = RX5 ∧ yX5_isRow.cls ≠ "java/lang/invoke/MethodHandle" ∧ yX5_isRow.cls ≠ "java/lang/invoke/VarHandle" ∧ (parseMethodDescriptor yX5_isRow.desc).map (fun d => d.parameters.length) = some 1 := by decide +kernel
theorem cdX5_isSymbol : yX5_isSymbol.cls = RX5 ∧ yX5_isSymbol.cls ≠ "java/lang/invoke/MethodHandle" ∧ yX5_isSymbol.cls ≠ "java/lang/invoke/VarHandle" ∧ (parseMethodDescriptor yX5_isSymbol.desc).map (fun d => d.parameters.length) = some 1 := by decide +kernel
theorem cdX5_isAround : yX5_isAround.cls = RX5 ∧ yX5_isAround.cls ≠ "java/lang/invoke/MethodHandle" ∧ yX5_isAround.cls ≠ "java/lang/invoke/VarHandle" ∧ (parseMethodDescriptor yX5_isAround.desc).map (fun d => d.parameters.length) = some 1 := by decide +kernel
theorem cdX5_checkOperation : yX5_checkOperation.cls = RX5 ∧ yX5_checkOperation.cls ≠ "java/lang/invoke/MethodHandle" ∧ yX5_checkOperation.cls ≠ "java/lang/invoke/VarHandle" ∧ (parseMethodDescriptor yX5_checkOperation.desc).map (fun d => d.parameters.length) = some 2 := by decide +kernel
theorem cdX5_checkRoom : yX5_checkRoom.cls = RX5 ∧ yX5_checkRoom.cls ≠ "java/lang/invoke/MethodHandle" ∧ yX5_checkRoom.cls ≠ "java/lang/invoke/VarHandle" ∧ (parseMethodDescriptor yX5_checkRoom.desc).map (fun d => d.parameters.length) = some 1 := by decide +kernel
theorem cdX5_swapResultAndDraft : yX5_swapResultAndDraft.cls = RX5 ∧ yX5_swapResultAndDraft.cls ≠ "java/lang/invoke/MethodHandle" ∧ yX5_swapResultAndDraft.cls ≠ "java/lang/invoke/VarHandle" ∧ (parseMethodDescriptor yX5_swapResultAndDraft.desc).map (fun d => d.parameters.length) = some 0 := by decide +kernel
theorem cdX6_init : yX6_init.cls = RX6 ∧ yX6_init.cls ≠ "java/lang/invoke/MethodHandle" ∧ yX6_init.cls ≠ "java/lang/invoke/VarHandle" ∧ (parseMethodDescriptor yX6_init.desc).map (fun d => d.parameters.length) = some 1 := by decide +kernel
theorem cdX6_thrown : yX6_thrown.cls = RX6 ∧ yX6_thrown.cls ≠ "java/lang/invoke/MethodHandle" ∧ yX6_thrown.cls ≠ "java/lang/invoke/VarHandle" ∧ (parseMethodDescriptor yX6_thrown.desc).map (fun d => d.parameters.length) = some 0 := by decide +kernel
theorem cdX6_isRow : yX6_isRow.cls = RX6 ∧ yX6_isRow.cls ≠ "java/lang/invoke/MethodHandle" ∧ yX6_isRow.cls ≠ "java/lang/invoke/VarHandle" ∧ (parseMethodDescriptor yX6_isRow.desc).map (fun d => d.parameters.length) = some 1 := by decide +kernel
theorem cdX6_feed : yX6_feed.cls = RX6 ∧ yX6_feed.cls ≠ "java/lang/invoke/MethodHandle" ∧ yX6_feed.cls ≠ "java/lang/invoke/VarHandle" ∧ (parseMethodDescriptor yX6_feed.desc).map (fun d => d.parameters.length) = some 2 := by decide +kernel
theorem cdX6_clear : yX6_clear.cls = RX6 ∧ yX6_clear.cls ≠ "java/lang/invoke/MethodHandle" ∧ yX6_clear.cls ≠ "java/lang/invoke/VarHandle" ∧ (parseMethodDescriptor yX6_clear.desc).map (fun d => d.parameters.length) = some 1 := by decide +kernel
theorem cdX6_size : yX6_size.cls = RX6 ∧ yX6_size.cls ≠ "java/lang/invoke/MethodHandle" ∧ yX6_size.cls ≠ "java/lang/invoke/VarHandle" ∧ (parseMethodDescriptor yX6_size.desc).map (fun d => d.parameters.length) = some 1 := by decide +kernel
theorem cdX6_symbol : yX6_symbol.cls = RX6 ∧ yX6_symbol.cls ≠ "java/lang/invoke/MethodHandle" ∧ yX6_symbol.cls ≠ "java/lang/invoke/VarHandle" ∧ (parseMethodDescriptor yX6_symbol.desc).map (fun d => d.parameters.length) = some 2 := by decide +kernel
theorem cdX6_same : yX6_same.cls = RX6 ∧ yX6_same.cls ≠ "java/lang/invoke/MethodHandle" ∧ yX6_same.cls ≠ "java/lang/invoke/VarHandle" ∧ (parseMethodDescriptor yX6_same.desc).map (fun d => d.parameters.length) = some 4 := by decide +kernel
theorem cdX6_fill : yX6_fill.cls = RX6 ∧ yX6_fill.cls ≠ "java/lang/invoke/MethodHandle" ∧ yX6_fill.cls ≠ "java/lang/invoke/VarHandle" ∧ (parseMethodDescriptor yX6_fill.desc).map (fun d => d.parameters.length) = some 2 := by decide +kernel
theorem cdX6_deletes : yX6_deletes.cls = RX6 ∧ yX6_deletes.cls ≠ "java/lang/invoke/MethodHandle" ∧ yX6_deletes.cls ≠ "java/lang/invoke/VarHandle" ∧ (parseMethodDescriptor yX6_deletes.desc).map (fun d => d.parameters.length) = some 3 := by decide +kernel
theorem cdX6_diff : yX6_diff.cls = RX6 ∧ yX6_diff.cls ≠ "java/lang/invoke/MethodHandle" ∧ yX6_diff.cls ≠ "java/lang/invoke/VarHandle" ∧ (parseMethodDescriptor yX6_diff.desc).map (fun d => d.parameters.length) = some 2 := by decide +kernel
theorem cdX6_put : yX6_put.cls = RX6 ∧ yX6_put.cls ≠ "java/lang/invoke/MethodHandle" ∧ yX6_put.cls ≠ "java/lang/invoke/VarHandle" ∧ (parseMethodDescriptor yX6_put.desc).map (fun d => d.parameters.length) = some 3 := by decide +kernel
theorem cdX6_operation : yX6_operation.cls = RX6 ∧ yX6_operation.cls ≠ "java/lang/invoke/MethodHandle" ∧ yX6_operation.cls ≠ "java/lang/invoke/VarHandle" ∧ (parseMethodDescriptor yX6_operation.desc).map (fun d => d.parameters.length) = some 2 := by decide +kernel
theorem cdX6_forget : yX6_forget.cls = RX6 ∧ yX6_forget.cls ≠ "java/lang/invoke/MethodHandle" ∧ yX6_forget.cls ≠ "java/lang/invoke/VarHandle" ∧ (parseMethodDescriptor yX6_forget.desc).map (fun d => d.parameters.length) = some 0 := by decide +kernel
theorem cdX6_load : yX6_load.cls = RX6 ∧ yX6_load.cls ≠ "java/lang/invoke/MethodHandle" ∧ yX6_load.cls ≠ "java/lang/invoke/VarHandle" ∧ (parseMethodDescriptor yX6_load.desc).map (fun d => d.parameters.length) = some 3 := by decide +kernel
theorem cdX6_trouble : yX6_trouble.cls = RX6 ∧ yX6_trouble.cls ≠ "java/lang/invoke/MethodHandle" ∧ yX6_trouble.cls ≠ "java/lang/invoke/VarHandle" ∧ (parseMethodDescriptor yX6_trouble.desc).map (fun d => d.parameters.length) = some 4 := by decide +kernel
theorem cdX6_wrong : yX6_wrong.cls = RX6 ∧ yX6_wrong.cls ≠ "java/lang/invoke/MethodHandle" ∧ yX6_wrong.cls ≠ "java/lang/invoke/VarHandle" ∧ (parseMethodDescriptor yX6_wrong.desc).map (fun d => d.parameters.length) = some 1 := by decide +kernel
theorem cdX6_take : yX6_take.cls = RX6 ∧ yX6_take.cls ≠ "java/lang/invoke/MethodHandle" ∧ yX6_take.cls ≠ "java/lang/invoke/VarHandle" ∧ (parseMethodDescriptor yX6_take.desc).map (fun d => d.parameters.length) = some 1 := by decide +kernel
theorem cdX6_patch : yX6_patch.cls = RX6 ∧ yX6_patch.cls ≠ "java/lang/invoke/MethodHandle" ∧ yX6_patch.cls ≠ "java/lang/invoke/VarHandle" ∧ (parseMethodDescriptor yX6_patch.desc).map (fun d => d.parameters.length) = some 1 := by decide +kernel
theorem cdX6_keep : yX6_keep.cls = RX6 ∧ yX6_keep.cls ≠ "java/lang/invoke/MethodHandle" ∧ yX6_keep.cls ≠ "java/lang/invoke/VarHandle" ∧ (parseMethodDescriptor yX6_keep.desc).map (fun d => d.parameters.length) = some 2 := by decide +kernel
theorem cdX6_alikeParts : yX6_alikeParts.cls = RX6 ∧ yX6_alikeParts.cls ≠ "java/lang/invoke/MethodHandle" ∧ yX6_alikeParts.cls ≠ "java/lang/invoke/VarHandle" ∧ (parseMethodDescriptor yX6_alikeParts.desc).map (fun d => d.parameters.length) = some 6 := by decide +kernel
theorem cdX6_copy : yX6_copy.cls = RX6 ∧ yX6_copy.cls ≠ "java/lang/invoke/MethodHandle" ∧ yX6_copy.cls ≠ "java/lang/invoke/VarHandle" ∧ (parseMethodDescriptor yX6_copy.desc).map (fun d => d.parameters.length) = some 3 := by decide +kernel
theorem cdX6_between : yX6_between.cls = RX6 ∧ yX6_between.cls ≠ "java/lang/invoke/MethodHandle" ∧ yX6_between.cls ≠ "java/lang/invoke/VarHandle" ∧ (parseMethodDescriptor yX6_between.desc).map (fun d => d.parameters.length) = some 6 := by decide +kernel
theorem cdX6_merge : yX6_merge.cls = RX6 ∧ yX6_merge.cls ≠ "java/lang/invoke/MethodHandle" ∧ yX6_merge.cls ≠ "java/lang/invoke/VarHandle" ∧ (parseMethodDescriptor yX6_merge.desc).map (fun d => d.parameters.length) = some 0 := by decide +kernel
theorem cdX6_result : yX6_result.cls = RX6 ∧ yX6_result.cls ≠ "java/lang/invoke/MethodHandle" ∧ yX6_result.cls ≠ "java/lang/invoke/VarHandle" ∧ (parseMethodDescriptor yX6_result.desc).map (fun d => d.parameters.length) = some 1 := by decide +kernel
theorem cdX6_results : yX6_results.cls = RX6 ∧ yX6_results.cls ≠ "java/lang/invoke/MethodHandle" ∧ yX6_results.cls ≠ "java/lang/invoke/VarHandle" ∧ (parseMethodDescriptor yX6_results.desc).map (fun d => d.parameters.length) = some 0 := by decide +kernel
theorem cdX6_together : yX6_together.cls = RX6 ∧ yX6_together.cls ≠ "java/lang/invoke/MethodHandle" ∧ yX6_together.cls ≠ "java/lang/invoke/VarHandle" ∧ (parseMethodDescriptor yX6_together.desc).map (fun d => d.parameters.length) = some 2 := by decide +kernel
theorem cdX6_countHunks : yX6_countHunks.cls = RX6 ∧ yX6_countHunks.cls ≠ "java/lang/invoke/MethodHandle" ∧ yX6_countHunks.cls ≠ "java/lang/invoke/VarHandle" ∧ (parseMethodDescriptor yX6_countHunks.desc).map (fun d => d.parameters.length) = some 1 := by decide +kernel
theorem cdX6_hunks : yX6_hunks.cls = RX6 ∧ yX6_hunks.cls ≠ "java/lang/invoke/MethodHandle" ∧ yX6_hunks.cls ≠ "java/lang/invoke/VarHandle" ∧ (parseMethodDescriptor yX6_hunks.desc).map (fun d => d.parameters.length) = some 1 := by decide +kernel
theorem cdX6_hunk : yX6_hunk.cls = RX6 ∧ yX6_hunk.cls ≠ "java/lang/invoke/MethodHandle" ∧ yX6_hunk.cls ≠ "java/lang/invoke/VarHandle" ∧ (parseMethodDescriptor yX6_hunk.desc).map (fun d => d.parameters.length) = some 3 := by decide +kernel
theorem cdX6_alike : yX6_alike.cls = RX6 ∧ yX6_alike.cls ≠ "java/lang/invoke/MethodHandle" ∧ yX6_alike.cls ≠ "java/lang/invoke/VarHandle" ∧ (parseMethodDescriptor yX6_alike.desc).map (fun d => d.parameters.length) = some 2 := by decide +kernel
theorem cdL_cell : yL_cell.cls = RL ∧ yL_cell.cls ≠ "java/lang/invoke/MethodHandle" ∧ yL_cell.cls ≠ "java/lang/invoke/VarHandle" ∧ (parseMethodDescriptor yL_cell.desc).map (fun d => d.parameters.length) = some 2 := by decide +kernel
theorem cdL_diff : yL_diff.cls = RL ∧ yL_diff.cls ≠ "java/lang/invoke/MethodHandle" ∧ yL_diff.cls ≠ "java/lang/invoke/VarHandle" ∧ (parseMethodDescriptor yL_diff.desc).map (fun d => d.parameters.length) = some 4 := by decide +kernel
theorem cdL_patch : yL_patch.cls = RL ∧ yL_patch.cls ≠ "java/lang/invoke/MethodHandle" ∧ yL_patch.cls ≠ "java/lang/invoke/VarHandle" ∧ (parseMethodDescriptor yL_patch.desc).map (fun d => d.parameters.length) = some 3 := by decide +kernel
theorem cdL_law : yL_law.cls = RL ∧ yL_law.cls ≠ "java/lang/invoke/MethodHandle" ∧ yL_law.cls ≠ "java/lang/invoke/VarHandle" ∧ (parseMethodDescriptor yL_law.desc).map (fun d => d.parameters.length) = some 1 := by decide +kernel
abbrev rmX0_compare : Room := { frames := 2, cells := 0, slots := 0, locals := 46 }
abbrev rmX0_operations : Room := { frames := 0, cells := 0, slots := 0, locals := 0 }
abbrev rmX0_writeTo : Room := { frames := 2, cells := 0, slots := 0, locals := 44 }
abbrev rmX0_pairTo : Room := { frames := 2, cells := 0, slots := 0, locals := 44 }
abbrev rmX0_restAt : Room := { frames := 1, cells := 0, slots := 0, locals := 24 }
abbrev rmX0_stepAt : Room := { frames := 1, cells := 0, slots := 0, locals := 22 }
abbrev rmX0_isSame : Room := { frames := 0, cells := 0, slots := 0, locals := 0 }
abbrev rmX1_mergeTo : Room := { frames := 4, cells := 0, slots := 0, locals := 88 }
abbrev rmX1_isStable : Room := { frames := 1, cells := 0, slots := 0, locals := 22 }
abbrev rmX1_endStretches : Room := { frames := 1, cells := 0, slots := 0, locals := 21 }
abbrev rmX1_goOnBehindStable : Room := { frames := 1, cells := 0, slots := 0, locals := 20 }
abbrev rmX1_mergeStretch : Room := { frames := 3, cells := 0, slots := 0, locals := 67 }
abbrev rmX2_empty : Room := { frames := 0, cells := 0, slots := 0, locals := 0 }
abbrev rmX2_add : Room := { frames := 0, cells := 0, slots := 0, locals := 0 }
abbrev rmX2_addAll : Room := { frames := 1, cells := 0, slots := 0, locals := 22 }
abbrev rmX2_at : Room := { frames := 0, cells := 0, slots := 0, locals := 0 }
abbrev rmX3_empty : Room := { frames := 0, cells := 0, slots := 0, locals := 0 }
abbrev rmX3_add : Room := { frames := 0, cells := 0, slots := 0, locals := 0 }
abbrev rmX3_has : Room := { frames := 0, cells := 0, slots := 0, locals := 0 }
abbrev rmX3_placeOf : Room := { frames := 1, cells := 0, slots := 0, locals := 21 }
abbrev rmX3_behind : Room := { frames := 1, cells := 0, slots := 0, locals := 21 }
abbrev rmX3_beginsHunk : Room := { frames := 2, cells := 0, slots := 0, locals := 42 }
abbrev rmX3_firstOfHunk : Room := { frames := 3, cells := 0, slots := 0, locals := 64 }
abbrev rmX3_lastOfHunk : Room := { frames := 3, cells := 0, slots := 0, locals := 64 }
abbrev rmX3_countKind : Room := { frames := 1, cells := 0, slots := 0, locals := 21 }
abbrev rmX4_begin : Room := { frames := 0, cells := 0, slots := 0, locals := 0 }
abbrev rmX4_endBefore : Room := { frames := 0, cells := 0, slots := 0, locals := 0 }
abbrev rmX4_goOnBehindStable : Room := { frames := 0, cells := 0, slots := 0, locals := 0 }
abbrev rmX4_isSameAs : Room := { frames := 1, cells := 0, slots := 0, locals := 22 }
abbrev rmX4_addTo : Room := { frames := 2, cells := 0, slots := 0, locals := 46 }
abbrev rmX5_feed : Room := { frames := 1, cells := 0, slots := 0, locals := 21 }
abbrev rmX5_clear : Room := { frames := 1, cells := 0, slots := 0, locals := 20 }
abbrev rmX5_size : Room := { frames := 1, cells := 0, slots := 0, locals := 20 }
abbrev rmX5_symbol : Room := { frames := 1, cells := 0, slots := 0, locals := 22 }
abbrev rmX5_operation : Room := { frames := 1, cells := 0, slots := 0, locals := 21 }
abbrev rmX5_forget : Room := { frames := 1, cells := 0, slots := 0, locals := 20 }
abbrev rmX5_load : Room := { frames := 1, cells := 0, slots := 0, locals := 23 }
abbrev rmX5_merge : Room := { frames := 5, cells := 0, slots := 0, locals := 112 }
abbrev rmX5_result : Room := { frames := 1, cells := 0, slots := 0, locals := 22 }
abbrev rmX5_results : Room := { frames := 0, cells := 0, slots := 0, locals := 0 }
abbrev rmX5_hunks : Room := { frames := 3, cells := 0, slots := 0, locals := 64 }
abbrev rmX5_hunk : Room := { frames := 4, cells := 0, slots := 0, locals := 88 }
abbrev rmX5_alike : Room := { frames := 3, cells := 0, slots := 0, locals := 70 }
abbrev rmX5_isRow : Room := { frames := 0, cells := 0, slots := 0, locals := 0 }
abbrev rmX5_isSymbol : Room := { frames := 0, cells := 0, slots := 0, locals := 0 }
abbrev rmX5_isAround : Room := { frames := 0, cells := 0, slots := 0, locals := 0 }
abbrev rmX5_swapResultAndDraft : Room := { frames := 0, cells := 0, slots := 0, locals := 0 }
abbrev rmX6_thrown : Room := { frames := 0, cells := 0, slots := 0, locals := 0 }
abbrev rmX6_isRow : Room := { frames := 0, cells := 0, slots := 0, locals := 0 }
abbrev rmX6_feed : Room := { frames := 1, cells := 0, slots := 0, locals := 20 }
abbrev rmX6_clear : Room := { frames := 1, cells := 0, slots := 0, locals := 20 }
abbrev rmX6_size : Room := { frames := 1, cells := 0, slots := 0, locals := 20 }
abbrev rmX6_symbol : Room := { frames := 1, cells := 0, slots := 0, locals := 20 }
abbrev rmX6_same : Room := { frames := 0, cells := 0, slots := 0, locals := 0 }
abbrev rmX6_fill : Room := { frames := 1, cells := 0, slots := 0, locals := 24 }
abbrev rmX6_deletes : Room := { frames := 0, cells := 0, slots := 0, locals := 0 }
abbrev rmX6_diff : Room := { frames := 2, cells := 0, slots := 0, locals := 53 }
abbrev rmX6_put : Room := { frames := 0, cells := 0, slots := 0, locals := 0 }
abbrev rmX6_operation : Room := { frames := 0, cells := 0, slots := 0, locals := 0 }
abbrev rmX6_forget : Room := { frames := 0, cells := 0, slots := 0, locals := 0 }
abbrev rmX6_load : Room := { frames := 1, cells := 0, slots := 0, locals := 23 }
abbrev rmX6_trouble : Room := { frames := 0, cells := 0, slots := 0, locals := 0 }
abbrev rmX6_wrong : Room := { frames := 1, cells := 0, slots := 0, locals := 27 }
abbrev rmX6_take : Room := { frames := 0, cells := 0, slots := 0, locals := 0 }
abbrev rmX6_patch : Room := { frames := 2, cells := 0, slots := 0, locals := 52 }
abbrev rmX6_keep : Room := { frames := 2, cells := 0, slots := 0, locals := 53 }
abbrev rmX6_alikeParts : Room := { frames := 1, cells := 0, slots := 0, locals := 24 }
abbrev rmX6_copy : Room := { frames := 1, cells := 0, slots := 0, locals := 21 }
abbrev rmX6_between : Room := { frames := 2, cells := 0, slots := 0, locals := 52 }
abbrev rmX6_merge : Room := { frames := 3, cells := 0, slots := 0, locals := 79 }
abbrev rmX6_result : Room := { frames := 0, cells := 0, slots := 0, locals := 0 }
abbrev rmX6_results : Room := { frames := 0, cells := 0, slots := 0, locals := 0 }
abbrev rmX6_together : Room := { frames := 0, cells := 0, slots := 0, locals := 0 }
abbrev rmX6_countHunks : Room := { frames := 1, cells := 0, slots := 0, locals := 23 }
abbrev rmX6_hunks : Room := { frames := 2, cells := 0, slots := 0, locals := 46 }
abbrev rmX6_hunk : Room := { frames := 2, cells := 0, slots := 0, locals := 46 }
abbrev rmX6_alike : Room := { frames := 2, cells := 0, slots := 0, locals := 53 }
abbrev rmL_cell : Room := { frames := 0, cells := 0, slots := 0, locals := 0 }
end
section
/-! what the class's objects hold, in plain words -/
/-- nothing outside S has changed -/
def Fr (e2 ev : Nat → va_E) (S : Nat → Prop) : Prop := ∀ j, ¬ S j → e2 j = ev j
theorem Fr.rf {ev : Nat → va_E} {S : Nat → Prop} : Fr ev ev S := fun _ _ => rfl
theorem Fr.tr {e1 e2 e3 : Nat → va_E} {S : Nat → Prop} (h : Fr e1 e2 S) (h2 : Fr e2 e3 S) : Fr e1 e3 S := fun j hj => (h j hj).trans (h2 j hj)
theorem Fr.mono {e1 e2 : Nat → va_E} {S T : Nat → Prop} (h : Fr e1 e2 S) (hs : ∀ j, S j → T j) : Fr e1 e2 T := fun j hj => h j (fun z => hj (hs j z))
/-- a Row: cells i (object), i + 1 (its items) -/
def RowAt (G : GG) (ad : Nat → Nat) (ev : Nat → va_E) (i : Nat) (xs : List Int32) (cap : Nat) : Prop :=
  ∃ f : Nat → Int32, ev i = .inr (2, [.ref (ad (i + 1)), .int (iI (xs.length : Int))]) ∧ ev (i + 1) = .inl (G.2.1, cap, .inl f) ∧ (∀ j, j < xs.length → xs[j]? = some (f j)) ∧ xs.length ≤ cap ∧ cap ≤ 1000
theorem RowAt.kept {G : GG} {ad : Nat → Nat} {ev e2 : Nat → va_E} {i : Nat} {xs : List Int32} {cap : Nat} (h : RowAt G ad ev i xs cap) (h0 : e2 i = ev i) (h1 : e2 (i + 1) = ev (i + 1)) : RowAt G ad e2 i xs cap := by
  obtain ⟨f, a, b, c⟩ := h
  exact ⟨f, h0.trans a, h1.trans b, c⟩
theorem RowAt.fr {G : GG} {ad : Nat → Nat} {ev e2 : Nat → va_E} {i : Nat} {xs : List Int32} {cap : Nat} {S : Nat → Prop} (h : RowAt G ad ev i xs cap) (hF : Fr e2 ev S) (h0 : ¬ S i) (h1 : ¬ S (i + 1)) : RowAt G ad e2 i xs cap := h.kept (hF _ h0) (hF _ h1)
theorem RowAt.le {G : GG} {ad : Nat → Nat} {ev : Nat → va_E} {i : Nat} {xs : List Int32} {cap : Nat} (h : RowAt G ad ev i xs cap) : xs.length ≤ cap ∧ cap ≤ 1000 := by
  obtain ⟨f, a, b, c, d⟩ := h
  exact d
/-- symbol k, or otherwise -/
def atD (xs : List Int32) (z : Int) (o : Int32) : Int32 := if 0 ≤ z ∧ z < xs.length then xs.getD z.toNat o else o
theorem atD_in {xs : List Int32} {z : Int} {o x : Int32} {j : Nat} (h : z = (j : Int)) (hj : j < xs.length) (hx : xs[j]? = some x) : atD xs z o = x := by
  subst h
  simp only [atD]
  rw [if_pos ⟨by omega, by omega⟩]
  simp [List.getD, hx]
theorem atD_out {xs : List Int32} {z : Int} {o : Int32} (h : z < 0 ∨ xs.length ≤ z) : atD xs z o = o := by
  unfold atD
  rw [if_neg (by omega)]
theorem push_f {xs : List Int32} {f : Nat → Int32} {x : Int32} (hf : ∀ j, j < xs.length → xs[j]? = some (f j)) : ∀ j, j < (xs ++ [x]).length → (xs ++ [x])[j]? = some (upd f xs.length x j) := by
  intro j hj
  rw [List.length_append, List.length_singleton] at hj
  by_cases h : j < xs.length
  · rw [List.getElem?_append_left h, hf j h]
    simp [upd, Nat.ne_of_lt h]
  · have e : j = xs.length := by omega
    subst e
    simp [upd]
theorem some_of_lt {α : Type} {xs : List α} {j : Nat} (h : j < xs.length) : ∃ x, xs[j]? = some x := ⟨xs[j], List.getElem?_eq_getElem h⟩
end
section
def pX2_empty (G : GG) (ad : Nat → Nat) (ev : Nat → va_E) (i cap : Nat) : Option Value → (Nat → va_E) → Prop := fun v e2 => v = none ∧ RowAt G ad e2 i [] cap ∧ Fr e2 ev (fun j => j = i ∨ j = i + 1)

set_option maxHeartbeats 4000000 in
set_option maxRecDepth 100000 in
theorem TX2_empty (l : Launch) {G : GG} {N : Nat} {ad : Nat → Nat} {ev : Nat → va_E} {i cap : Nat} {xs : List Int32} (hi : i + 1 < N) (hR : RowAt G ad ev i xs cap) : Ct l yX2_empty wsX2_empty rmX2_empty [.ref (ad i)] G N ad ev 0 0 (pX2_empty G ad ev i cap) := by
  obtain ⟨f, h0, h1, hf, hlc, hc⟩ := hR
  refine Ct_of (cc := cX2_empty) (maxL := 1) (ret := none) (lv := [(0, .ref (ad i))]) (by decide) rfl (Nat.le_of_ble_eq_true rfl) rfl ?_
  intro p E s m args below meth c A C hr hnm
  refine n_aload_n C dX2_empty_0 0 rfl rfl ?_
  refine n_iconst C dX2_empty_1 ?_
  refine n_put (k9 := 1) (fs2 := [.ref (ad (i + 1)), .int (iI 0)]) C dX2_empty_2 (by omega) h0 hX2_empty_X2 tyX2_ok nmX2 rfl (by decide) kX2_empty_15 rfl rfl rfl (Nat.le_of_ble_eq_true rfl) rfl (fun e1 hs2 ho3 => ?_)
  have h4 := (ho3 (i + 1) (by omega)).trans h1
  exact n_vret C hr dX2_empty_5 (⟨rfl, ⟨f, hs2, h4, fun j hj => absurd hj (Nat.not_lt_zero j), Nat.zero_le _, hc⟩, fun j hj => ho3 j (by omega)⟩)

def pX2_add (G : GG) (ad : Nat → Nat) (ev : Nat → va_E) (i cap : Nat) (xs : List Int32) (x : Int32) : Option Value → (Nat → va_E) → Prop := fun v e2 => v = some (.int (bI (decide (xs.length < cap)))) ∧ RowAt G ad e2 i (if xs.length < cap then xs ++ [x] else xs) cap ∧ Fr e2 ev (fun j => j = i ∨ j = i + 1)

set_option maxHeartbeats 4000000 in
set_option maxRecDepth 100000 in
theorem TX2_add (l : Launch) {G : GG} {N : Nat} {ad : Nat → Nat} {ev : Nat → va_E} {i cap : Nat} {xs : List Int32} {x : Int32} (hi : i + 1 < N) (hR : RowAt G ad ev i xs cap) : Ct l yX2_add wsX2_add rmX2_add [.ref (ad i), .int x] G N ad ev 0 0 (pX2_add G ad ev i cap xs x) := by
  obtain ⟨f, h0, h1, hf, hlc, hc⟩ := hR
  refine Ct_of (cc := cX2_add) (maxL := 2) (ret := some .boolean) (lv := [(0, .ref (ad i)), (1, .int x)]) (by decide) rfl (Nat.le_of_ble_eq_true rfl) rfl ?_
  intro p E s m args below meth c A C hr hnm
  refine n_aload_n C dX2_add_0 0 rfl rfl ?_
  refine n_get (k9 := 1) C dX2_add_1 (by omega) h0 hX2_add_X2 rfl (by decide) kX2_add_15 rfl ?_
  refine n_aload_n C dX2_add_4 0 rfl rfl ?_
  refine n_get (k9 := 0) C dX2_add_5 (by omega) h0 hX2_add_X2 rfl (by decide) kX2_add_9 rfl ?_
  refine n_alen C dX2_add_8 (by omega) h1 ?_
  refine n_st (st2 := [.int (iI (cap : Nat)), .int (iI (xs.length : Int))]) rfl ?_
  refine n_icmp_lt C dX2_add_9 (by decide) (by omega) (by omega) (by omega) (by omega) (tgt := 14) (fun c1 => ?_) (fun c1 => ?_)
  · refine n_aload_n C dX2_add_14 0 rfl rfl ?_
    refine n_get (k9 := 0) C dX2_add_15 (by omega) h0 hX2_add_X2 rfl (by decide) kX2_add_9 rfl ?_
    refine n_aload_n C dX2_add_18 0 rfl rfl ?_
    refine n_get (k9 := 1) C dX2_add_19 (by omega) h0 hX2_add_X2 rfl (by decide) kX2_add_15 rfl ?_
    refine n_iload_n C dX2_add_22 1 rfl rfl ?_
    refine n_iast (j := xs.length) C dX2_add_23 (by omega) h1 (by omega) (by omega) (by omega) (fun e1 hs2 ho3 => ?_)
    have h4 := (ho3 i (by omega)).trans h0
    refine n_aload_n C dX2_add_24 0 rfl rfl ?_
    refine n_dup C dX2_add_25 rfl ?_
    refine n_get (k9 := 1) C dX2_add_26 (by omega) h4 hX2_add_X2 rfl (by decide) kX2_add_15 rfl ?_
    refine n_iconst C dX2_add_29 ?_
    refine n_iadd C dX2_add_30 ?_
    refine n_put (k9 := 1) (fs2 := [.ref (ad (i + 1)), .int (iI ((xs.length : Int) + 1))]) C dX2_add_31 (by omega) h4 hX2_add_X2 tyX2_ok nmX2 rfl (by decide) kX2_add_15 rfl rfl rfl (Nat.le_of_ble_eq_true rfl) rfl (fun e5 hs6 ho7 => ?_)
    have h8 := (ho7 (i + 1) (by omega)).trans hs2
    refine n_iconst C dX2_add_34 ?_
    have c2 : xs.length < cap := by omega
    exact n_zret C hr dX2_add_35 (by decide) (by
      unfold pX2_add
      rw [if_pos c2, decide_eq_true c2]
      exact ⟨rfl, ⟨_, hs6.trans (by simp), h8, push_f hf, by simp; omega, hc⟩, fun j hj => (ho7 j (by omega)).trans (ho3 j (by omega))⟩)
  · refine n_iconst C dX2_add_12 ?_
    have c2 : ¬ xs.length < cap := by omega
    exact n_zret C hr dX2_add_13 (by decide) (by
      unfold pX2_add
      rw [if_neg c2, decide_eq_false c2]
      exact ⟨rfl, ⟨f, h0, h1, hf, hlc, hc⟩, Fr.rf⟩)

def pX2_at (ev : Nat → va_E) (xs : List Int32) (z : Int) (o : Int32) : Option Value → (Nat → va_E) → Prop := fun v e2 => v = some (.int (atD xs z o)) ∧ ev = e2

set_option maxHeartbeats 4000000 in
set_option maxRecDepth 100000 in
theorem TX2_at (l : Launch) {G : GG} {N : Nat} {ad : Nat → Nat} {ev : Nat → va_E} {i cap : Nat} {xs : List Int32} {z : Int} {o : Int32} (hi : i + 1 < N) (hR : RowAt G ad ev i xs cap) (hz1 : -2147483648 ≤ z) (hz2 : z < 2147483648) : Ct l yX2_at wsX2_at rmX2_at [.ref (ad i), .int (iI z), .int o] G N ad ev 0 0 (pX2_at ev xs z o) := by
  obtain ⟨f, h0, h1, hf, hlc, hc⟩ := hR
  refine Ct_of (cc := cX2_at) (maxL := 3) (ret := some .int) (lv := [(0, .ref (ad i)), (1, .int (iI z)), (2, .int o)]) (by decide) rfl (Nat.le_of_ble_eq_true rfl) rfl ?_
  intro p E s m args below meth c A C hr hnm
  refine n_iload_n C dX2_at_0 1 rfl rfl ?_
  refine n_if_lt C dX2_at_1 (by decide) (by omega) (by omega) (tgt := 21) (fun c1 => ?_) (fun c1 => ?_)
  · refine n_iload_n C dX2_at_21 2 rfl rfl ?_
    exact n_iret C hr dX2_at_22 (⟨by rw [atD_out (Or.inl c1)], rfl⟩)
  · refine n_iload_n C dX2_at_4 1 rfl rfl ?_
    refine n_aload_n C dX2_at_5 0 rfl rfl ?_
    refine n_get (k9 := 1) C dX2_at_6 (by omega) h0 hX2_at_X2 rfl (by decide) kX2_at_15 rfl ?_
    refine n_icmp_ge C dX2_at_9 (by decide) (by omega) (by omega) (by omega) (by omega) (tgt := 21) (fun c2 => ?_) (fun c2 => ?_)
    · refine n_iload_n C dX2_at_21 2 rfl rfl ?_
      exact n_iret C hr dX2_at_22 (⟨by rw [atD_out (Or.inr c2)], rfl⟩)
    · obtain ⟨j, rfl⟩ : ∃ j : Nat, z = (j : Int) := ⟨z.toNat, by omega⟩
      refine n_aload_n C dX2_at_12 0 rfl rfl ?_
      refine n_get (k9 := 0) C dX2_at_13 (by omega) h0 hX2_at_X2 rfl (by decide) kX2_at_9 rfl ?_
      refine n_iload_n C dX2_at_16 1 rfl rfl ?_
      refine n_iald (j := j) C dX2_at_17 (by omega) h1 (by omega) (by omega) (by omega) ?_
      refine n_goto (tgt := 22) C dX2_at_18 (by decide) ?_
      exact n_iret C hr dX2_at_22 (⟨by rw [atD_in rfl (by omega) (hf j (by omega))], rfl⟩)

/-- symbols a .. b - 1 of a row -/
def sl (ys : List Int32) (a b : Nat) : List Int32 := (ys.drop a).take (b - a)
theorem sl_none {ys : List Int32} {a b : Nat} (h : b ≤ a) : sl ys a b = [] := by
  unfold sl
  rw [show b - a = 0 by omega, List.take_zero]
theorem sl_len {ys : List Int32} {a b : Nat} (h : b ≤ ys.length) : (sl ys a b).length = b - a := by
  unfold sl
  rw [List.length_take, List.length_drop]
  omega
theorem sl_succ {ys : List Int32} {a k : Nat} {x : Int32} (h : a ≤ k) (hx : ys[k]? = some x) : sl ys a (k + 1) = sl ys a k ++ [x] := by
  unfold sl
  rw [show k + 1 - a = (k - a) + 1 by omega, List.take_add_one, List.getElem?_drop, show a + (k - a) = k by omega, hx]
  rfl
def pX2_addAll (G : GG) (ad : Nat → Nat) (ev : Nat → va_E) (i cap : Nat) (xs ys : List Int32) (a b : Nat) : Option Value → (Nat → va_E) → Prop := fun v e2 => v = none ∧ RowAt G ad e2 i (xs ++ sl ys a b) cap ∧ Fr e2 ev (fun j => j = i ∨ j = i + 1)

set_option maxHeartbeats 4000000 in
set_option maxRecDepth 100000 in
theorem TX2_addAll (l : Launch) {G : GG} {N : Nat} {ad : Nat → Nat} {ev : Nat → va_E} {i cap q cq a b : Nat} {xs ys : List Int32} (hi : i + 1 < N) (hR : RowAt G ad ev i xs cap) (hq : q + 1 < N) (hRq : RowAt G ad ev q ys cq) (hne : q ≠ i) (hne1 : q ≠ i + 1) (hne2 : q + 1 ≠ i) (hb : b ≤ ys.length) (hcap : xs.length + (b - a) ≤ cap) (ha : a ≤ 1000) : Ct l yX2_addAll wsX2_addAll rmX2_addAll [.ref (ad i), .ref (ad q), .int (iI (a : Int)), .int (iI (b : Int))] G N ad ev 0 0 (pX2_addAll G ad ev i cap xs ys a b) := by
  have hle := hR.le
  have hle2 := hRq.le
  refine Ct_of (cc := cX2_addAll) (maxL := 5) (ret := none) (lv := [(0, .ref (ad i)), (1, .ref (ad q)), (2, .int (iI (a : Int))), (3, .int (iI (b : Int)))]) (by decide) rfl (Nat.le_of_ble_eq_true rfl) rfl ?_
  intro p E s m args below meth c A C hr hnm
  refine n_iload_n C dX2_addAll_0 2 rfl rfl ?_
  refine n_istore (lv' := [(0, .ref (ad i)), (1, .ref (ad q)), (2, .int (iI (a : Int))), (3, .int (iI (b : Int))), (4, .int (iI (a : Int)))]) C dX2_addAll_1 (by decide) rfl ?_
  have loop : ∀ (n9 : Nat) (k : Nat) (e1 : Nat → va_E), b + 1 - k < n9 → (a ≤ k) → (k ≤ b ∨ k = a) → (RowAt G ad e1 i (xs ++ sl ys a k) cap) → (RowAt G ad e1 q ys cq) → (Fr e1 ev (fun j => j = i ∨ j = i + 1)) → V p l E rmX2_addAll s m args below meth c G A 5 (MQ below (Qg G N ad A (pX2_addAll G ad ev i cap xs ys a b)) args s 0 0 A) N ad e1 0 0 3 [(0, .ref (ad i)), (1, .ref (ad q)), (2, .int (iI (a : Int))), (3, .int (iI (b : Int))), (4, .int (iI (k : Int)))] [] := by
    intro n9
    induction n9 with
    | zero =>
      intro k e1 hm9
      exact absurd hm9 (Nat.not_lt_zero _)
    | succ n9 ih =>
      intro k e1 hm9 hak hkb r1 r2 hF
      refine n_iload C dX2_addAll_3 4 rfl ?_
      refine n_iload_n C dX2_addAll_5 3 rfl rfl ?_
      refine n_icmp_ge C dX2_addAll_6 (by decide) (by omega) (by omega) (by omega) (by omega) (tgt := 27) (fun c1 => ?_) (fun c1 => ?_)
      · have hs9 : sl ys a k = sl ys a b := by
          rcases hkb with h | h
          · rw [show k = b by omega]
          · rw [h, sl_none (Nat.le_refl a), sl_none (by omega)]
        exact n_vret C hr dX2_addAll_27 (⟨rfl, by rw [← hs9]; exact r1, hF⟩)
      · obtain ⟨x9, hx9⟩ := some_of_lt (show k < ys.length by omega)
        obtain ⟨f0, g0, g1, g2⟩ := id r1
        obtain ⟨f3, g3, g4, g5⟩ := id r2
        refine n_aload_n C dX2_addAll_9 0 rfl rfl ?_
        refine n_aload_n C dX2_addAll_10 1 rfl rfl ?_
        refine n_iload C dX2_addAll_11 4 rfl ?_
        refine n_iconst C dX2_addAll_13 ?_
        refine n_callV (rest := [.ref (ad i)]) C dX2_addAll_14 (TX2_at l hq r2 (by omega) (by omega)) (cwV 2 C.2.2.2.2.1 gX2_addAll_X2_at rfl rfl rfl cdX2_at ⟨Nat.le_of_ble_eq_true rfl, Nat.le_of_ble_eq_true rfl⟩) (by omega) g3 rfl rfl rfl (Nat.le_of_ble_eq_true rfl) ⟨Nat.le_of_ble_eq_true rfl, Nat.le_of_ble_eq_true rfl⟩ ?_
        rintro _ _ ⟨rfl, rfl⟩
        refine n_pc (pc2 := 17) rfl (n_st (st2 := [.int (atD ys (k : Int) (iI (-1))), .ref (ad i)]) rfl ?_)
        refine n_topI (y := x9) (atD_in rfl (by omega) hx9) ?_
        refine n_callV (rest := []) C dX2_addAll_17 (TX2_add l hi r1 (x := x9)) (cwV 1 C.2.2.2.2.1 gX2_addAll_X2_add rfl rfl rfl cdX2_add ⟨Nat.le_of_ble_eq_true rfl, Nat.le_of_ble_eq_true rfl⟩) (by omega) g0 rfl rfl rfl (Nat.le_of_ble_eq_true rfl) ⟨Nat.le_of_ble_eq_true rfl, Nat.le_of_ble_eq_true rfl⟩ ?_
        rintro _ e2 ⟨rfl, r3, hF2⟩
        refine n_pc (pc2 := 20) rfl (n_st (st2 := [.int (bI (decide ((xs ++ sl ys a k).length < cap)))]) rfl ?_)
        have hlen : (xs ++ sl ys a k).length < cap := by rw [List.length_append, sl_len (by omega)]; omega
        rw [if_pos hlen, List.append_assoc, ← sl_succ hak hx9] at r3
        refine n_pop C dX2_addAll_20 rfl ?_
        refine n_iinc (lv' := [(0, .ref (ad i)), (1, .ref (ad q)), (2, .int (iI (a : Int))), (3, .int (iI (b : Int))), (4, .int (iI ((k : Int) + 1)))]) C dX2_addAll_21 4 rfl (by decide) rfl ?_
        refine n_goto (tgt := 3) C dX2_addAll_24 (by decide) ?_
        exact ih (k + 1) e2 (by omega) (by omega) (by omega) r3 (r2.fr hF2 (by omega) (by omega)) (hF2.tr hF)
  exact loop _ a ev (Nat.lt_succ_self _) (Nat.le_refl a) (Or.inr rfl) (by rw [sl_none (Nat.le_refl a), List.append_nil]; exact hR) hRq Fr.rf
end
section
/-! Script: cells i (object), i + 1 (kinds), i + 2 (places), i + 3 (symbols) -/
abbrev Tr : Type := Int32 × Int32 × Int32
def ScrAt (G : GG) (ad : Nat → Nat) (ev : Nat → va_E) (i : Nat) (ops : List Tr) : Prop :=
  ∃ fk fp fs : Nat → Int32, ev i = .inr (3, [.ref (ad (i + 1)), .ref (ad (i + 2)), .ref (ad (i + 3)), .int (iI (ops.length : Int))]) ∧ ev (i + 1) = .inl (G.2.1, 60, .inl fk) ∧ ev (i + 2) = .inl (G.2.1, 60, .inl fp) ∧ ev (i + 3) = .inl (G.2.1, 60, .inl fs) ∧ (∀ j, j < ops.length → ops[j]? = some (fk j, fp j, fs j)) ∧ ops.length ≤ 60
theorem ScrAt.fr {G : GG} {ad : Nat → Nat} {ev e2 : Nat → va_E} {i : Nat} {ops : List Tr} {S : Nat → Prop} (h : ScrAt G ad ev i ops) (hF : Fr e2 ev S) (h0 : ¬ S i) (h1 : ¬ S (i + 1)) (h2 : ¬ S (i + 2)) (h3 : ¬ S (i + 3)) : ScrAt G ad e2 i ops := by
  obtain ⟨fk, fp, fs, a, b, c, d, e⟩ := h
  exact ⟨fk, fp, fs, (hF _ h0).trans a, (hF _ h1).trans b, (hF _ h2).trans c, (hF _ h3).trans d, e⟩
theorem ScrAt.le {G : GG} {ad : Nat → Nat} {ev : Nat → va_E} {i : Nat} {ops : List Tr} (h : ScrAt G ad ev i ops) : ops.length ≤ 60 := by
  obtain ⟨fk, fp, fs, a, b, c, d, e, f⟩ := h
  exact f
theorem push_t {ops : List Tr} {fk fp fs : Nat → Int32} {x y z : Int32} (hf : ∀ j, j < ops.length → ops[j]? = some (fk j, fp j, fs j)) : ∀ j, j < (ops ++ [(x, y, z)]).length → (ops ++ [(x, y, z)])[j]? = some (upd fk ops.length x j, upd fp ops.length y j, upd fs ops.length z j) := by
  intro j hj
  rw [List.length_append, List.length_singleton] at hj
  by_cases h : j < ops.length
  · rw [List.getElem?_append_left h, hf j h]
    simp [upd, Nat.ne_of_lt h]
  · have e : j = ops.length := by omega
    subst e
    simp [upd]
def plR (ops : List Tr) (z : Int) : Int32 := if 0 ≤ z ∧ z < ops.length then (ops.getD z.toNat (0, 0, 0)).2.1 else iI 0
def bhR (ops : List Tr) (z : Int) : Int32 := if 0 ≤ z ∧ z < ops.length then (if (ops.getD z.toNat (0, 0, 0)).1 = iI 0 then (ops.getD z.toNat (0, 0, 0)).2.1 + iI 1 else (ops.getD z.toNat (0, 0, 0)).2.1) else iI 0
theorem plR_out {ops : List Tr} {z : Int} (h : ¬ (0 ≤ z ∧ z < ops.length)) : plR ops z = iI 0 := by unfold plR; rw [if_neg h]
theorem bhR_out {ops : List Tr} {z : Int} (h : ¬ (0 ≤ z ∧ z < ops.length)) : bhR ops z = iI 0 := by unfold bhR; rw [if_neg h]
theorem plR_in {ops : List Tr} {j : Nat} {t : Tr} (hj : j < ops.length) (ht : ops[j]? = some t) : plR ops (j : Int) = t.2.1 := by
  unfold plR
  rw [if_pos ⟨by omega, by omega⟩]
  simp [List.getD, ht]
theorem bhR_in {ops : List Tr} {j : Nat} {t : Tr} (hj : j < ops.length) (ht : ops[j]? = some t) : bhR ops (j : Int) = if t.1 = iI 0 then t.2.1 + iI 1 else t.2.1 := by
  unfold bhR
  rw [if_pos ⟨by omega, by omega⟩]
  simp [List.getD, ht]
/-! a script that diff made: deletes or not, place, symbol -/
abbrev Op : Type := Bool × Nat × Int32
def encO (o : Op) : Tr := (if o.1 then iI 0 else iI 1, iI (o.2.1 : Int), o.2.2)
def plI (ls : List Op) (z : Int) : Int := if 0 ≤ z ∧ z < ls.length then ((ls.getD z.toNat (true, 0, 0)).2.1 : Int) else 0
def bhI (ls : List Op) (z : Int) : Int := if 0 ≤ z ∧ z < ls.length then ((ls.getD z.toNat (true, 0, 0)).2.1 : Int) + (if (ls.getD z.toNat (true, 0, 0)).1 then 1 else 0) else 0
def Sm (ls : List Op) : Prop := ∀ (j : Nat) (t : Op), ls[j]? = some t → t.2.1 ≤ 20
theorem iI_ne {a b : Int} (h : a ≠ b) (h1 : -2147483648 ≤ a) (h2 : a < 2147483648) (h3 : -2147483648 ≤ b) (h4 : b < 2147483648) : iI a ≠ iI b := fun e => h ((iI_inj h1 h2 h3 h4).mp e)
theorem enc_k (o : Op) : (encO o).1 = iI 0 ↔ o.1 = true := by
  unfold encO
  cases h : o.1
  · simp
    exact iI_ne (by decide) (by decide) (by decide) (by decide) (by decide)
  · simp
theorem plRI (ls : List Op) (z : Int) : plR (ls.map encO) z = iI (plI ls z) := by
  unfold plR plI
  rw [List.length_map]
  by_cases h : 0 ≤ z ∧ z < ls.length
  · rw [if_pos h, if_pos h]
    obtain ⟨t, ht⟩ := some_of_lt (xs := ls) (j := z.toNat) (by omega)
    simp [List.getD, ht, encO]
  · rw [if_neg h, if_neg h]
theorem bhRI (ls : List Op) (z : Int) : bhR (ls.map encO) z = iI (bhI ls z) := by
  unfold bhR bhI
  rw [List.length_map]
  by_cases h : 0 ≤ z ∧ z < ls.length
  · rw [if_pos h, if_pos h]
    obtain ⟨t, ht⟩ := some_of_lt (xs := ls) (j := z.toNat) (by omega)
    have e1 : (List.map encO ls).getD z.toNat (0, 0, 0) = encO t := by simp [List.getD, ht]
    have e2 : ls.getD z.toNat (true, 0, 0) = t := by simp [List.getD, ht]
    rw [e1, e2]
    by_cases hk : t.1 = true
    · rw [if_pos ((enc_k t).mpr hk), if_pos hk]
      exact iI_add _ _
    · rw [if_neg (fun q => hk ((enc_k t).mp q)), if_neg hk, Int.add_zero]
      rfl
  · rw [if_neg h, if_neg h]
theorem plI_b {ls : List Op} (h : Sm ls) (z : Int) : 0 ≤ plI ls z ∧ plI ls z ≤ 20 := by
  unfold plI
  by_cases h1 : 0 ≤ z ∧ z < ls.length
  · rw [if_pos h1]
    obtain ⟨t, ht⟩ := some_of_lt (xs := ls) (j := z.toNat) (by omega)
    have := h _ t ht
    simp only [List.getD, ht, Option.getD_some]
    omega
  · rw [if_neg h1]; omega
theorem bhI_b {ls : List Op} (h : Sm ls) (z : Int) : 0 ≤ bhI ls z ∧ bhI ls z ≤ 21 := by
  unfold bhI
  by_cases h1 : 0 ≤ z ∧ z < ls.length
  · rw [if_pos h1]
    obtain ⟨t, ht⟩ := some_of_lt (xs := ls) (j := z.toNat) (by omega)
    have := h _ t ht
    simp only [List.getD, ht, Option.getD_some]
    split <;> omega
  · rw [if_neg h1]; omega
/-- does operation k begin a hunk -/
def beg (ls : List Op) (n : Int) (k : Nat) : Bool := decide (k = 0) || decide (2 * n < plI ls (k : Int) - bhI ls ((k : Int) - 1))
/-- how many hunks begin before operation k -/
def cB (ls : List Op) (n : Int) : Nat → Nat
  | 0 => 0
  | k + 1 => cB ls n k + (if beg ls n k then 1 else 0)
theorem cB_le (ls : List Op) (n : Int) : ∀ k, cB ls n k ≤ k
  | 0 => Nat.le_refl 0
  | k + 1 => by
    have := cB_le ls n k
    unfold cB
    split <;> omega
/-- how many of the operations a .. b - 1 delete (d = true), or insert -/
def cK (ls : List Op) (d : Bool) (a : Nat) : Nat → Nat
  | 0 => 0
  | k + 1 => cK ls d a k + (if a ≤ k ∧ (ls[k]?).map (·.1) = some d then 1 else 0)
theorem cK_le (ls : List Op) (d : Bool) (a : Nat) : ∀ k, cK ls d a k ≤ k
  | 0 => Nat.le_refl 0
  | k + 1 => by
    have := cK_le ls d a k
    unfold cK
    split <;> omega

def pX3_empty (G : GG) (ad : Nat → Nat) (ev : Nat → va_E) (i : Nat) : Option Value → (Nat → va_E) → Prop := fun v e2 => v = none ∧ ScrAt G ad e2 i [] ∧ Fr e2 ev (fun j => j = i ∨ j = i + 1 ∨ j = i + 2 ∨ j = i + 3)

set_option maxHeartbeats 4000000 in
set_option maxRecDepth 100000 in
theorem TX3_empty (l : Launch) {G : GG} {N : Nat} {ad : Nat → Nat} {ev : Nat → va_E} {i : Nat} {ops : List Tr} (hi : i + 3 < N) (hR : ScrAt G ad ev i ops) : Ct l yX3_empty wsX3_empty rmX3_empty [.ref (ad i)] G N ad ev 0 0 (pX3_empty G ad ev i) := by
  obtain ⟨fk, fp, fs, h0, h1, h2, h3, hf, hlc⟩ := id hR
  refine Ct_of (cc := cX3_empty) (maxL := 1) (ret := none) (lv := [(0, .ref (ad i))]) (by decide) rfl (Nat.le_of_ble_eq_true rfl) rfl ?_
  intro p E s m args below meth c A C hr hnm
  refine n_aload_n C dX3_empty_0 0 rfl rfl ?_
  refine n_iconst C dX3_empty_1 ?_
  refine n_put (k9 := 3) (fs2 := [.ref (ad (i + 1)), .ref (ad (i + 2)), .ref (ad (i + 3)), .int (iI 0)]) C dX3_empty_2 (by omega) h0 hX3_empty_X3 tyX3_ok nmX3 rfl (by decide) kX3_empty_21 rfl rfl rfl (Nat.le_of_ble_eq_true rfl) rfl (fun e1 hs2 ho3 => ?_)
  have h4 := (ho3 (i + 1) (by omega)).trans h1
  have h5 := (ho3 (i + 2) (by omega)).trans h2
  have h6 := (ho3 (i + 3) (by omega)).trans h3
  exact n_vret C hr dX3_empty_5 (⟨rfl, ⟨fk, fp, fs, hs2, h4, h5, h6, fun j hj => absurd hj (Nat.not_lt_zero j), Nat.zero_le _⟩, fun j hj => ho3 j (by omega)⟩)

def pX3_add (G : GG) (ad : Nat → Nat) (ev : Nat → va_E) (i : Nat) (ops : List Tr) (x y z : Int32) : Option Value → (Nat → va_E) → Prop := fun v e2 => v = some (.int (bI (decide (ops.length < 60)))) ∧ ScrAt G ad e2 i (if ops.length < 60 then ops ++ [(x, y, z)] else ops) ∧ Fr e2 ev (fun j => j = i ∨ j = i + 1 ∨ j = i + 2 ∨ j = i + 3)

set_option maxHeartbeats 4000000 in
set_option maxRecDepth 100000 in
theorem TX3_add (l : Launch) {G : GG} {N : Nat} {ad : Nat → Nat} {ev : Nat → va_E} {i : Nat} {ops : List Tr} {x y z : Int32} (hi : i + 3 < N) (hR : ScrAt G ad ev i ops) : Ct l yX3_add wsX3_add rmX3_add [.ref (ad i), .int x, .int y, .int z] G N ad ev 0 0 (pX3_add G ad ev i ops x y z) := by
  obtain ⟨fk, fp, fs, h0, h1, h2, h3, hf, hlc⟩ := id hR
  refine Ct_of (cc := cX3_add) (maxL := 4) (ret := some .boolean) (lv := [(0, .ref (ad i)), (1, .int x), (2, .int y), (3, .int z)]) (by decide) rfl (Nat.le_of_ble_eq_true rfl) rfl ?_
  intro p E s m args below meth c A C hr hnm
  refine n_aload_n C dX3_add_0 0 rfl rfl ?_
  refine n_get (k9 := 3) C dX3_add_1 (by omega) h0 hX3_add_X3 rfl (by decide) kX3_add_21 rfl ?_
  refine n_bipush C dX3_add_4 (by decide) ?_
  refine n_icmp_lt C dX3_add_6 (by decide) (by omega) (by omega) (by omega) (by omega) (tgt := 11) (fun c1 => ?_) (fun c1 => ?_)
  · refine n_aload_n C dX3_add_11 0 rfl rfl ?_
    refine n_get (k9 := 0) C dX3_add_12 (by omega) h0 hX3_add_X3 rfl (by decide) kX3_add_9 rfl ?_
    refine n_aload_n C dX3_add_15 0 rfl rfl ?_
    refine n_get (k9 := 3) C dX3_add_16 (by omega) h0 hX3_add_X3 rfl (by decide) kX3_add_21 rfl ?_
    refine n_iload_n C dX3_add_19 1 rfl rfl ?_
    refine n_iast (j := ops.length) C dX3_add_20 (by omega) h1 (by omega) (by omega) (by omega) (fun e1 hs2 ho3 => ?_)
    have h4 := (ho3 i (by omega)).trans h0
    have h5 := (ho3 (i + 2) (by omega)).trans h2
    have h6 := (ho3 (i + 3) (by omega)).trans h3
    refine n_aload_n C dX3_add_21 0 rfl rfl ?_
    refine n_get (k9 := 1) C dX3_add_22 (by omega) h4 hX3_add_X3 rfl (by decide) kX3_add_15 rfl ?_
    refine n_aload_n C dX3_add_25 0 rfl rfl ?_
    refine n_get (k9 := 3) C dX3_add_26 (by omega) h4 hX3_add_X3 rfl (by decide) kX3_add_21 rfl ?_
    refine n_iload_n C dX3_add_29 2 rfl rfl ?_
    refine n_iast (j := ops.length) C dX3_add_30 (by omega) h5 (by omega) (by omega) (by omega) (fun e7 hs8 ho9 => ?_)
    have h10 := (ho9 i (by omega)).trans h4
    have h11 := (ho9 (i + 1) (by omega)).trans hs2
    have h12 := (ho9 (i + 3) (by omega)).trans h6
    refine n_aload_n C dX3_add_31 0 rfl rfl ?_
    refine n_get (k9 := 2) C dX3_add_32 (by omega) h10 hX3_add_X3 rfl (by decide) kX3_add_18 rfl ?_
    refine n_aload_n C dX3_add_35 0 rfl rfl ?_
    refine n_get (k9 := 3) C dX3_add_36 (by omega) h10 hX3_add_X3 rfl (by decide) kX3_add_21 rfl ?_
    refine n_iload_n C dX3_add_39 3 rfl rfl ?_
    refine n_iast (j := ops.length) C dX3_add_40 (by omega) h12 (by omega) (by omega) (by omega) (fun e13 hs14 ho15 => ?_)
    have h16 := (ho15 i (by omega)).trans h10
    have h17 := (ho15 (i + 1) (by omega)).trans h11
    have h18 := (ho15 (i + 2) (by omega)).trans hs8
    refine n_aload_n C dX3_add_41 0 rfl rfl ?_
    refine n_dup C dX3_add_42 rfl ?_
    refine n_get (k9 := 3) C dX3_add_43 (by omega) h16 hX3_add_X3 rfl (by decide) kX3_add_21 rfl ?_
    refine n_iconst C dX3_add_46 ?_
    refine n_iadd C dX3_add_47 ?_
    refine n_put (k9 := 3) (fs2 := [.ref (ad (i + 1)), .ref (ad (i + 2)), .ref (ad (i + 3)), .int (iI ((ops.length : Int) + 1))]) C dX3_add_48 (by omega) h16 hX3_add_X3 tyX3_ok nmX3 rfl (by decide) kX3_add_21 rfl rfl rfl (Nat.le_of_ble_eq_true rfl) rfl (fun e19 hs20 ho21 => ?_)
    have h22 := (ho21 (i + 1) (by omega)).trans h17
    have h23 := (ho21 (i + 2) (by omega)).trans h18
    have h24 := (ho21 (i + 3) (by omega)).trans hs14
    refine n_iconst C dX3_add_51 ?_
    have c2 : ops.length < 60 := by omega
    exact n_zret C hr dX3_add_52 (by decide) (by
      unfold pX3_add
      rw [if_pos c2, decide_eq_true c2]
      exact ⟨rfl, ⟨_, _, _, hs20.trans (by simp), h22, h23, h24, push_t hf, by simp; omega⟩, fun j hj => (((ho21 j (by omega)).trans (ho15 j (by omega))).trans (ho9 j (by omega))).trans (ho3 j (by omega))⟩)
  · refine n_iconst C dX3_add_9 ?_
    have c2 : ¬ ops.length < 60 := by omega
    exact n_zret C hr dX3_add_10 (by decide) (by
      unfold pX3_add
      rw [if_neg c2, decide_eq_false c2]
      exact ⟨rfl, hR, Fr.rf⟩)

def pX3_has (ev : Nat → va_E) (ops : List Tr) (z : Int) : Option Value → (Nat → va_E) → Prop := fun v e2 => v = some (.int (bI (decide (0 ≤ z ∧ z < ops.length)))) ∧ ev = e2

set_option maxHeartbeats 4000000 in
set_option maxRecDepth 100000 in
theorem TX3_has (l : Launch) {G : GG} {N : Nat} {ad : Nat → Nat} {ev : Nat → va_E} {i : Nat} {ops : List Tr} {z : Int} (hi : i + 3 < N) (hR : ScrAt G ad ev i ops) (hz1 : -2147483648 ≤ z) (hz2 : z < 2147483648) : Ct l yX3_has wsX3_has rmX3_has [.ref (ad i), .int (iI z)] G N ad ev 0 0 (pX3_has ev ops z) := by
  obtain ⟨fk, fp, fs, h0, h1, h2, h3, hf, hlc⟩ := id hR
  refine Ct_of (cc := cX3_has) (maxL := 2) (ret := some .boolean) (lv := [(0, .ref (ad i)), (1, .int (iI z))]) (by decide) rfl (Nat.le_of_ble_eq_true rfl) rfl ?_
  intro p E s m args below meth c A C hr hnm
  refine n_iload_n C dX3_has_0 1 rfl rfl ?_
  refine n_if_lt C dX3_has_1 (by decide) (by omega) (by omega) (tgt := 16) (fun c1 => ?_) (fun c1 => ?_)
  · refine n_iconst C dX3_has_16 ?_
    exact n_zret C hr dX3_has_17 (by decide) (⟨by rw [decide_eq_false (by omega)]; rfl, rfl⟩)
  · refine n_iload_n C dX3_has_4 1 rfl rfl ?_
    refine n_aload_n C dX3_has_5 0 rfl rfl ?_
    refine n_get (k9 := 3) C dX3_has_6 (by omega) h0 hX3_has_X3 rfl (by decide) kX3_has_21 rfl ?_
    refine n_icmp_ge C dX3_has_9 (by decide) (by omega) (by omega) (by omega) (by omega) (tgt := 16) (fun c2 => ?_) (fun c2 => ?_)
    · refine n_iconst C dX3_has_16 ?_
      exact n_zret C hr dX3_has_17 (by decide) (⟨by rw [decide_eq_false (by omega)]; rfl, rfl⟩)
    · refine n_iconst C dX3_has_12 ?_
      refine n_goto (tgt := 17) C dX3_has_13 (by decide) ?_
      exact n_zret C hr dX3_has_17 (by decide) (⟨by rw [decide_eq_true (by omega)]; rfl, rfl⟩)

def pX3_placeOf (ev : Nat → va_E) (ops : List Tr) (z : Int) : Option Value → (Nat → va_E) → Prop := fun v e2 => v = some (.int (plR ops z)) ∧ ev = e2

set_option maxHeartbeats 4000000 in
set_option maxRecDepth 100000 in
theorem TX3_placeOf (l : Launch) {G : GG} {N : Nat} {ad : Nat → Nat} {ev : Nat → va_E} {i : Nat} {ops : List Tr} {z : Int} (hi : i + 3 < N) (hR : ScrAt G ad ev i ops) (hz1 : -2147483648 ≤ z) (hz2 : z < 2147483648) : Ct l yX3_placeOf wsX3_placeOf rmX3_placeOf [.ref (ad i), .int (iI z)] G N ad ev 0 0 (pX3_placeOf ev ops z) := by
  obtain ⟨fk, fp, fs, h0, h1, h2, h3, hf, hlc⟩ := id hR
  refine Ct_of (cc := cX3_placeOf) (maxL := 2) (ret := some .int) (lv := [(0, .ref (ad i)), (1, .int (iI z))]) (by decide) rfl (Nat.le_of_ble_eq_true rfl) rfl ?_
  intro p E s m args below meth c A C hr hnm
  refine n_aload_n C dX3_placeOf_0 0 rfl rfl ?_
  refine n_iload_n C dX3_placeOf_1 1 rfl rfl ?_
  refine n_callV (rest := []) C dX3_placeOf_2 (TX3_has l hi hR hz1 hz2) (cwV 1 C.2.2.2.2.1 gX3_placeOf_X3_has rfl rfl rfl cdX3_has ⟨Nat.le_of_ble_eq_true rfl, Nat.le_of_ble_eq_true rfl⟩) (by omega) h0 rfl rfl rfl (Nat.le_of_ble_eq_true rfl) ⟨Nat.le_of_ble_eq_true rfl, Nat.le_of_ble_eq_true rfl⟩ ?_
  rintro _ _ ⟨rfl, rfl⟩
  refine n_pc (pc2 := 5) rfl (n_st (st2 := [.int (bI (decide (0 ≤ z ∧ z < ops.length)))]) rfl ?_)
  refine n_if_eqB C dX3_placeOf_5 (by decide) (tgt := 17) (fun c1 => ?_) (fun c1 => ?_)
  · refine n_iconst C dX3_placeOf_17 ?_
    exact n_iret C hr dX3_placeOf_18 (⟨by rw [plR_out (of_decide_eq_false c1)], rfl⟩)
  · have c2 := of_decide_eq_true c1
    obtain ⟨j, rfl⟩ : ∃ j : Nat, z = (j : Int) := ⟨z.toNat, by omega⟩
    refine n_aload_n C dX3_placeOf_8 0 rfl rfl ?_
    refine n_get (k9 := 1) C dX3_placeOf_9 (by omega) h0 hX3_placeOf_X3 rfl (by decide) kX3_placeOf_15 rfl ?_
    refine n_iload_n C dX3_placeOf_12 1 rfl rfl ?_
    refine n_iald (j := j) C dX3_placeOf_13 (by omega) h2 (by omega) (by omega) (by omega) ?_
    refine n_goto (tgt := 18) C dX3_placeOf_14 (by decide) ?_
    exact n_iret C hr dX3_placeOf_18 (⟨by rw [plR_in (by omega) (hf j (by omega))], rfl⟩)

def pX3_behind (ev : Nat → va_E) (ops : List Tr) (z : Int) : Option Value → (Nat → va_E) → Prop := fun v e2 => v = some (.int (bhR ops z)) ∧ ev = e2

set_option maxHeartbeats 4000000 in
set_option maxRecDepth 100000 in
theorem TX3_behind (l : Launch) {G : GG} {N : Nat} {ad : Nat → Nat} {ev : Nat → va_E} {i : Nat} {ops : List Tr} {z : Int} (hi : i + 3 < N) (hR : ScrAt G ad ev i ops) (hz1 : -2147483648 ≤ z) (hz2 : z < 2147483648) : Ct l yX3_behind wsX3_behind rmX3_behind [.ref (ad i), .int (iI z)] G N ad ev 0 0 (pX3_behind ev ops z) := by
  obtain ⟨fk, fp, fs, h0, h1, h2, h3, hf, hlc⟩ := id hR
  refine Ct_of (cc := cX3_behind) (maxL := 2) (ret := some .int) (lv := [(0, .ref (ad i)), (1, .int (iI z))]) (by decide) rfl (Nat.le_of_ble_eq_true rfl) rfl ?_
  intro p E s m args below meth c A C hr hnm
  refine n_aload_n C dX3_behind_0 0 rfl rfl ?_
  refine n_iload_n C dX3_behind_1 1 rfl rfl ?_
  refine n_callV (rest := []) C dX3_behind_2 (TX3_has l hi hR hz1 hz2) (cwV 1 C.2.2.2.2.1 gX3_behind_X3_has rfl rfl rfl cdX3_has ⟨Nat.le_of_ble_eq_true rfl, Nat.le_of_ble_eq_true rfl⟩) (by omega) h0 rfl rfl rfl (Nat.le_of_ble_eq_true rfl) ⟨Nat.le_of_ble_eq_true rfl, Nat.le_of_ble_eq_true rfl⟩ ?_
  rintro _ _ ⟨rfl, rfl⟩
  refine n_pc (pc2 := 5) rfl (n_st (st2 := [.int (bI (decide (0 ≤ z ∧ z < ops.length)))]) rfl ?_)
  refine n_if_neB C dX3_behind_5 (by decide) (tgt := 10) (fun c1 => ?_) (fun c1 => ?_)
  · have c2 := of_decide_eq_true c1
    obtain ⟨j, rfl⟩ : ∃ j : Nat, z = (j : Int) := ⟨z.toNat, by omega⟩
    refine n_aload_n C dX3_behind_10 0 rfl rfl ?_
    refine n_get (k9 := 0) C dX3_behind_11 (by omega) h0 hX3_behind_X3 rfl (by decide) kX3_behind_9 rfl ?_
    refine n_iload_n C dX3_behind_14 1 rfl rfl ?_
    refine n_iald (j := j) C dX3_behind_15 (by omega) h1 (by omega) (by omega) (by omega) ?_
    refine n_if_neR C dX3_behind_16 (by decide) (tgt := 30) (fun c3 => ?_) (fun c3 => ?_)
    · refine n_aload_n C dX3_behind_30 0 rfl rfl ?_
      refine n_get (k9 := 1) C dX3_behind_31 (by omega) h0 hX3_behind_X3 rfl (by decide) kX3_behind_15 rfl ?_
      refine n_iload_n C dX3_behind_34 1 rfl rfl ?_
      refine n_iald (j := j) C dX3_behind_35 (by omega) h2 (by omega) (by omega) (by omega) ?_
      exact n_iret C hr dX3_behind_36 (⟨by rw [bhR_in (by omega) (hf j (by omega))]; rw [if_neg c3], rfl⟩)
    · refine n_aload_n C dX3_behind_19 0 rfl rfl ?_
      refine n_get (k9 := 1) C dX3_behind_20 (by omega) h0 hX3_behind_X3 rfl (by decide) kX3_behind_15 rfl ?_
      refine n_iload_n C dX3_behind_23 1 rfl rfl ?_
      refine n_iald (j := j) C dX3_behind_24 (by omega) h2 (by omega) (by omega) (by omega) ?_
      refine n_topI (y := (iI ((fp j).toInt))) ((iI_self (fp j)).symm) ?_
      refine n_iconst C dX3_behind_25 ?_
      refine n_iadd C dX3_behind_26 ?_
      refine n_goto (tgt := 36) C dX3_behind_27 (by decide) ?_
      exact n_iret C hr dX3_behind_36 (⟨by rw [bhR_in (by omega) (hf j (by omega))]; rw [if_pos c3, ← iI_add, iI_self], rfl⟩)
  · refine n_iconst C dX3_behind_8 ?_
    exact n_iret C hr dX3_behind_9 (⟨by rw [bhR_out (of_decide_eq_false c1)], rfl⟩)
end
section
def pX3_beginsHunk (ev : Nat → va_E) (ls : List Op) (n : Int) (k : Nat) : Option Value → (Nat → va_E) → Prop := fun v e2 => v = some (.int (bI (beg ls n k))) ∧ ev = e2

set_option maxHeartbeats 4000000 in
set_option maxRecDepth 100000 in
theorem TX3_beginsHunk (l : Launch) {G : GG} {N : Nat} {ad : Nat → Nat} {ev : Nat → va_E} {i k : Nat} {ls : List Op} {n : Int} (hi : i + 3 < N) (hR : ScrAt G ad ev i (ls.map encO)) (hsm : Sm ls) (hn0 : 0 ≤ n) (hn9 : n ≤ 9) (hk : k ≤ 60) : Ct l yX3_beginsHunk wsX3_beginsHunk rmX3_beginsHunk [.ref (ad i), .int (iI (k : Int)), .int (iI n)] G N ad ev 0 0 (pX3_beginsHunk ev ls n k) := by
  obtain ⟨fk, fp, fs, h0, h1, h2, h3, hf, hlc⟩ := id hR
  rw [List.length_map] at h0 hlc
  have b1 := plI_b hsm (k : Int)
  have b2 := bhI_b hsm ((k : Int) - 1)
  refine Ct_of (cc := cX3_beginsHunk) (maxL := 3) (ret := some .boolean) (lv := [(0, .ref (ad i)), (1, .int (iI (k : Int))), (2, .int (iI n))]) (by decide) rfl (Nat.le_of_ble_eq_true rfl) rfl ?_
  intro p E s m args below meth c A C hr hnm
  refine n_iload_n C dX3_beginsHunk_0 1 rfl rfl ?_
  refine n_if_eq C dX3_beginsHunk_1 (by decide) (by omega) (by omega) (tgt := 23) (fun c1 => ?_) (fun c1 => ?_)
  · refine n_iconst C dX3_beginsHunk_23 ?_
    refine n_goto (tgt := 28) C dX3_beginsHunk_24 (by decide) ?_
    exact n_zret C hr dX3_beginsHunk_28 (by decide) (⟨by rw [show k = 0 by omega]; rfl, rfl⟩)
  · refine n_aload_n C dX3_beginsHunk_4 0 rfl rfl ?_
    refine n_iload_n C dX3_beginsHunk_5 1 rfl rfl ?_
    refine n_callV (rest := []) C dX3_beginsHunk_6 (TX3_placeOf l hi hR (by omega) (by omega)) (cwV 1 C.2.2.2.2.1 gX3_beginsHunk_X3_placeOf rfl rfl rfl cdX3_placeOf ⟨Nat.le_of_ble_eq_true rfl, Nat.le_of_ble_eq_true rfl⟩) (by omega) h0 rfl rfl rfl (Nat.le_of_ble_eq_true rfl) ⟨Nat.le_of_ble_eq_true rfl, Nat.le_of_ble_eq_true rfl⟩ ?_
    rintro _ _ ⟨rfl, rfl⟩
    refine n_pc (pc2 := 9) rfl (n_st (st2 := [.int (plR (ls.map encO) (k : Int))]) rfl ?_)
    refine n_topI (y := (iI (plI ls (k : Int)))) (plRI ls _) ?_
    refine n_aload_n C dX3_beginsHunk_9 0 rfl rfl ?_
    refine n_iload_n C dX3_beginsHunk_10 1 rfl rfl ?_
    refine n_iconst C dX3_beginsHunk_11 ?_
    refine n_isub C dX3_beginsHunk_12 ?_
    refine n_callV (rest := [.int (iI (plI ls (k : Int)))]) C dX3_beginsHunk_13 (TX3_behind l hi hR (by omega) (by omega)) (cwV 1 C.2.2.2.2.1 gX3_beginsHunk_X3_behind rfl rfl rfl cdX3_behind ⟨Nat.le_of_ble_eq_true rfl, Nat.le_of_ble_eq_true rfl⟩) (by omega) h0 rfl rfl rfl (Nat.le_of_ble_eq_true rfl) ⟨Nat.le_of_ble_eq_true rfl, Nat.le_of_ble_eq_true rfl⟩ ?_
    rintro _ _ ⟨rfl, rfl⟩
    refine n_pc (pc2 := 16) rfl (n_st (st2 := [.int (bhR (ls.map encO) ((k : Int) - 1)), .int (iI (plI ls (k : Int)))]) rfl ?_)
    refine n_topI (y := (iI (bhI ls ((k : Int) - 1)))) (bhRI ls _) ?_
    refine n_isub C dX3_beginsHunk_16 ?_
    refine n_iconst C dX3_beginsHunk_17 ?_
    refine n_iload_n C dX3_beginsHunk_18 2 rfl rfl ?_
    refine n_imul C dX3_beginsHunk_19 ?_
    refine n_icmp_le C dX3_beginsHunk_20 (by decide) (by omega) (by omega) (by omega) (by omega) (tgt := 27) (fun c2 => ?_) (fun c2 => ?_)
    · refine n_iconst C dX3_beginsHunk_27 ?_
      exact n_zret C hr dX3_beginsHunk_28 (by decide) (⟨by unfold beg; rw [decide_eq_false (show ¬ k = 0 by omega), decide_eq_false (by omega)]; rfl, rfl⟩)
    · refine n_iconst C dX3_beginsHunk_23 ?_
      refine n_goto (tgt := 28) C dX3_beginsHunk_24 (by decide) ?_
      exact n_zret C hr dX3_beginsHunk_28 (by decide) (⟨by unfold beg; rw [decide_eq_false (show ¬ k = 0 by omega), decide_eq_true (by omega)]; rfl, rfl⟩)

def pX3_firstOfHunk (ev : Nat → va_E) (ls : List Op) (n : Int) (h : Nat) : Option Value → (Nat → va_E) → Prop := fun v e2 => (∃ r : Nat, v = some (.int (iI (r : Int))) ∧ r < ls.length ∧ cB ls n (r + 1) = h + 1 ∧ ∀ j, j < r → cB ls n (j + 1) ≠ h + 1) ∧ ev = e2

set_option maxHeartbeats 4000000 in
set_option maxRecDepth 100000 in
theorem TX3_firstOfHunk (l : Launch) {G : GG} {N : Nat} {ad : Nat → Nat} {ev : Nat → va_E} {i h : Nat} {ls : List Op} {n : Int} (hi : i + 3 < N) (hR : ScrAt G ad ev i (ls.map encO)) (hsm : Sm ls) (hn0 : 0 ≤ n) (hn9 : n ≤ 9) (hh : h < cB ls n ls.length) : Ct l yX3_firstOfHunk wsX3_firstOfHunk rmX3_firstOfHunk [.ref (ad i), .int (iI (h : Int)), .int (iI n)] G N ad ev 0 0 (pX3_firstOfHunk ev ls n h) := by
  obtain ⟨fk, fp, fs, h0, h1, h2, h3, hf, hlc⟩ := id hR
  rw [List.length_map] at h0 hlc
  have hcl := cB_le ls n ls.length
  refine Ct_of (cc := cX3_firstOfHunk) (maxL := 5) (ret := some .int) (lv := [(0, .ref (ad i)), (1, .int (iI (h : Int))), (2, .int (iI n))]) (by decide) rfl (Nat.le_of_ble_eq_true rfl) rfl ?_
  intro p E s m args below meth c A C hr hnm
  refine n_iconst C dX3_firstOfHunk_0 ?_
  refine n_istore_n (lv' := [(0, .ref (ad i)), (1, .int (iI (h : Int))), (2, .int (iI n)), (3, .int (iI (-1)))]) C dX3_firstOfHunk_1 rfl (by decide) rfl ?_
  refine n_iconst C dX3_firstOfHunk_2 ?_
  refine n_istore (lv' := [(0, .ref (ad i)), (1, .int (iI (h : Int))), (2, .int (iI n)), (3, .int (iI (-1))), (4, .int (iI 0))]) C dX3_firstOfHunk_3 (by decide) rfl ?_
  have loop : ∀ (n9 : Nat) (k : Nat), ls.length + 1 - k < n9 → (k ≤ ls.length) → (∀ j, j < k → cB ls n (j + 1) ≠ h + 1) → (cB ls n k ≤ h) → V p l E rmX3_firstOfHunk s m args below meth c G A 5 (MQ below (Qg G N ad A (pX3_firstOfHunk ev ls n h)) args s 0 0 A) N ad ev 0 0 5 [(0, .ref (ad i)), (1, .int (iI (h : Int))), (2, .int (iI n)), (3, .int (iI ((cB ls n k : Int) - 1))), (4, .int (iI (k : Int)))] [] := by
    intro n9
    induction n9 with
    | zero =>
      intro k hm9
      exact absurd hm9 (Nat.not_lt_zero _)
    | succ n9 ih =>
      intro k hm9 hk hno hle
      have hck := cB_le ls n k
      refine n_iload C dX3_firstOfHunk_5 4 rfl ?_
      refine n_aload_n C dX3_firstOfHunk_7 0 rfl rfl ?_
      refine n_get (k9 := 3) C dX3_firstOfHunk_8 (by omega) h0 hX3_firstOfHunk_X3 rfl (by decide) kX3_firstOfHunk_21 rfl ?_
      refine n_icmp_ge C dX3_firstOfHunk_11 (by decide) (by omega) (by omega) (by omega) (by omega) (tgt := 41) (fun c1 => ?_) (fun c1 => ?_)
      · exact absurd hh (by rw [show ls.length = k by omega]; omega)
      · refine n_aload_n C dX3_firstOfHunk_14 0 rfl rfl ?_
        refine n_iload C dX3_firstOfHunk_15 4 rfl ?_
        refine n_iload_n C dX3_firstOfHunk_17 2 rfl rfl ?_
        refine n_callV (rest := []) C dX3_firstOfHunk_18 (TX3_beginsHunk l hi hR hsm hn0 hn9 (k := k) (by omega)) (cwV 2 C.2.2.2.2.1 gX3_firstOfHunk_X3_beginsHunk rfl rfl rfl cdX3_beginsHunk ⟨Nat.le_of_ble_eq_true rfl, Nat.le_of_ble_eq_true rfl⟩) (by omega) h0 rfl rfl rfl (Nat.le_of_ble_eq_true rfl) ⟨Nat.le_of_ble_eq_true rfl, Nat.le_of_ble_eq_true rfl⟩ ?_
        rintro _ _ ⟨rfl, rfl⟩
        refine n_pc (pc2 := 21) rfl (n_st (st2 := [.int (bI (beg ls n k))]) rfl ?_)
        refine n_if_eqB C dX3_firstOfHunk_21 (by decide) (tgt := 27) (fun c2 => ?_) (fun c2 => ?_)
        · have hst : cB ls n (k + 1) = cB ls n k := by show cB ls n k + (if beg ls n k then 1 else 0) = cB ls n k; rw [c2]; rfl
          refine n_iload_n C dX3_firstOfHunk_27 3 rfl rfl ?_
          refine n_iload_n C dX3_firstOfHunk_28 1 rfl rfl ?_
          refine n_icmp_ne C dX3_firstOfHunk_29 (by decide) (by omega) (by omega) (by omega) (by omega) (tgt := 35) (fun c3 => ?_) (fun c3 => ?_)
          · refine n_iinc (lv' := [(0, .ref (ad i)), (1, .int (iI (h : Int))), (2, .int (iI n)), (3, .int (iI ((cB ls n k : Int) - 1))), (4, .int (iI ((k : Int) + 1)))]) C dX3_firstOfHunk_35 4 rfl (by decide) rfl ?_
            refine n_goto (tgt := 5) C dX3_firstOfHunk_38 (by decide) ?_
            refine n_lv (lv2 := [(0, .ref (ad i)), (1, .int (iI (h : Int))), (2, .int (iI n)), (3, .int (iI ((cB ls n (k + 1) : Int) - 1))), (4, .int (iI ((k + 1 : Nat) : Int)))]) (by rw [hst]; simp) ?_
            exact ih (k + 1) (by omega) (by omega) (fun j hj => by
              rcases Nat.lt_or_ge j k with q | q
              · exact hno j q
              · rw [show j = k by omega, hst]; omega) (by omega)
          · refine n_iload C dX3_firstOfHunk_32 4 rfl ?_
            exact n_iret C hr dX3_firstOfHunk_34 (⟨⟨k, rfl, by omega, by omega, hno⟩, rfl⟩)
        · have hst : cB ls n (k + 1) = cB ls n k + 1 := by show cB ls n k + (if beg ls n k then 1 else 0) = cB ls n k + 1; rw [c2]; rfl
          refine n_iinc (lv' := [(0, .ref (ad i)), (1, .int (iI (h : Int))), (2, .int (iI n)), (3, .int (iI (((cB ls n k : Int) - 1) + 1))), (4, .int (iI (k : Int)))]) C dX3_firstOfHunk_24 3 rfl (by decide) rfl ?_
          refine n_iload_n C dX3_firstOfHunk_27 3 rfl rfl ?_
          refine n_iload_n C dX3_firstOfHunk_28 1 rfl rfl ?_
          refine n_icmp_ne C dX3_firstOfHunk_29 (by decide) (by omega) (by omega) (by omega) (by omega) (tgt := 35) (fun c3 => ?_) (fun c3 => ?_)
          · refine n_iinc (lv' := [(0, .ref (ad i)), (1, .int (iI (h : Int))), (2, .int (iI n)), (3, .int (iI (((cB ls n k : Int) - 1) + 1))), (4, .int (iI ((k : Int) + 1)))]) C dX3_firstOfHunk_35 4 rfl (by decide) rfl ?_
            refine n_goto (tgt := 5) C dX3_firstOfHunk_38 (by decide) ?_
            refine n_lv (lv2 := [(0, .ref (ad i)), (1, .int (iI (h : Int))), (2, .int (iI n)), (3, .int (iI ((cB ls n (k + 1) : Int) - 1))), (4, .int (iI ((k + 1 : Nat) : Int)))]) (by rw [hst]; simp) ?_
            exact ih (k + 1) (by omega) (by omega) (fun j hj => by
              rcases Nat.lt_or_ge j k with q | q
              · exact hno j q
              · rw [show j = k by omega, hst]; omega) (by omega)
          · refine n_iload C dX3_firstOfHunk_32 4 rfl ?_
            exact n_iret C hr dX3_firstOfHunk_34 (⟨⟨k, rfl, by omega, by omega, hno⟩, rfl⟩)
  exact loop _ 0 (Nat.lt_succ_self _) (Nat.zero_le _) (fun j hj => absurd hj (Nat.not_lt_zero j)) (Nat.zero_le _)

def pX3_lastOfHunk (ev : Nat → va_E) (ls : List Op) (n : Int) (a : Nat) : Option Value → (Nat → va_E) → Prop := fun v e2 => (∃ r : Nat, v = some (.int (iI (r : Int))) ∧ a ≤ r ∧ r < ls.length ∧ (∀ j, a < j → j ≤ r → beg ls n j = false) ∧ (r + 1 = ls.length ∨ beg ls n (r + 1) = true)) ∧ ev = e2

set_option maxHeartbeats 4000000 in
set_option maxRecDepth 100000 in
theorem TX3_lastOfHunk (l : Launch) {G : GG} {N : Nat} {ad : Nat → Nat} {ev : Nat → va_E} {i a : Nat} {ls : List Op} {n : Int} (hi : i + 3 < N) (hR : ScrAt G ad ev i (ls.map encO)) (hsm : Sm ls) (hn0 : 0 ≤ n) (hn9 : n ≤ 9) (ha : a < ls.length) : Ct l yX3_lastOfHunk wsX3_lastOfHunk rmX3_lastOfHunk [.ref (ad i), .int (iI (a : Int)), .int (iI n)] G N ad ev 0 0 (pX3_lastOfHunk ev ls n a) := by
  obtain ⟨fk, fp, fs, h0, h1, h2, h3, hf, hlc⟩ := id hR
  rw [List.length_map] at h0 hlc
  refine Ct_of (cc := cX3_lastOfHunk) (maxL := 4) (ret := some .int) (lv := [(0, .ref (ad i)), (1, .int (iI (a : Int))), (2, .int (iI n))]) (by decide) rfl (Nat.le_of_ble_eq_true rfl) rfl ?_
  intro p E s m args below meth c A C hr hnm
  refine n_iload_n C dX3_lastOfHunk_0 1 rfl rfl ?_
  refine n_istore_n (lv' := [(0, .ref (ad i)), (1, .int (iI (a : Int))), (2, .int (iI n)), (3, .int (iI (a : Int)))]) C dX3_lastOfHunk_1 rfl (by decide) rfl ?_
  have loop : ∀ (n9 : Nat) (r : Nat), ls.length - r < n9 → (a ≤ r) → (r < ls.length) → (∀ j, a < j → j ≤ r → beg ls n j = false) → V p l E rmX3_lastOfHunk s m args below meth c G A 4 (MQ below (Qg G N ad A (pX3_lastOfHunk ev ls n a)) args s 0 0 A) N ad ev 0 0 2 [(0, .ref (ad i)), (1, .int (iI (a : Int))), (2, .int (iI n)), (3, .int (iI (r : Int)))] [] := by
    intro n9
    induction n9 with
    | zero =>
      intro r hm9
      exact absurd hm9 (Nat.not_lt_zero _)
    | succ n9 ih =>
      intro r hm9 har hrl hno
      refine n_iload_n C dX3_lastOfHunk_2 3 rfl rfl ?_
      refine n_iconst C dX3_lastOfHunk_3 ?_
      refine n_iadd C dX3_lastOfHunk_4 ?_
      refine n_aload_n C dX3_lastOfHunk_5 0 rfl rfl ?_
      refine n_get (k9 := 3) C dX3_lastOfHunk_6 (by omega) h0 hX3_lastOfHunk_X3 rfl (by decide) kX3_lastOfHunk_21 rfl ?_
      refine n_icmp_ge C dX3_lastOfHunk_9 (by decide) (by omega) (by omega) (by omega) (by omega) (tgt := 29) (fun c1 => ?_) (fun c1 => ?_)
      · refine n_iload_n C dX3_lastOfHunk_29 3 rfl rfl ?_
        exact n_iret C hr dX3_lastOfHunk_30 (⟨⟨r, rfl, har, hrl, hno, Or.inl (by omega)⟩, rfl⟩)
      · refine n_aload_n C dX3_lastOfHunk_12 0 rfl rfl ?_
        refine n_iload_n C dX3_lastOfHunk_13 3 rfl rfl ?_
        refine n_iconst C dX3_lastOfHunk_14 ?_
        refine n_iadd C dX3_lastOfHunk_15 ?_
        refine n_iload_n C dX3_lastOfHunk_16 2 rfl rfl ?_
        refine n_st (st2 := [.int (iI n), .int (iI ((r + 1 : Nat) : Int)), .ref (ad i)]) (by simp) ?_
        refine n_callV (rest := []) C dX3_lastOfHunk_17 (TX3_beginsHunk l hi hR hsm hn0 hn9 (k := r + 1) (by omega)) (cwV 2 C.2.2.2.2.1 gX3_lastOfHunk_X3_beginsHunk rfl rfl rfl cdX3_beginsHunk ⟨Nat.le_of_ble_eq_true rfl, Nat.le_of_ble_eq_true rfl⟩) (by omega) h0 rfl rfl rfl (Nat.le_of_ble_eq_true rfl) ⟨Nat.le_of_ble_eq_true rfl, Nat.le_of_ble_eq_true rfl⟩ ?_
        rintro _ _ ⟨rfl, rfl⟩
        refine n_pc (pc2 := 20) rfl (n_st (st2 := [.int (bI (beg ls n (r + 1)))]) rfl ?_)
        refine n_if_neB C dX3_lastOfHunk_20 (by decide) (tgt := 29) (fun c2 => ?_) (fun c2 => ?_)
        · refine n_iload_n C dX3_lastOfHunk_29 3 rfl rfl ?_
          exact n_iret C hr dX3_lastOfHunk_30 (⟨⟨r, rfl, har, hrl, hno, Or.inr c2⟩, rfl⟩)
        · refine n_iinc (lv' := [(0, .ref (ad i)), (1, .int (iI (a : Int))), (2, .int (iI n)), (3, .int (iI ((r : Int) + 1)))]) C dX3_lastOfHunk_23 3 rfl (by decide) rfl ?_
          refine n_goto (tgt := 2) C dX3_lastOfHunk_26 (by decide) ?_
          refine n_lv (lv2 := [(0, .ref (ad i)), (1, .int (iI (a : Int))), (2, .int (iI n)), (3, .int (iI ((r + 1 : Nat) : Int)))]) (by simp) ?_
          exact ih (r + 1) (by omega) (by omega) (by omega) (fun j h1 h2 => by
            rcases Nat.lt_or_ge r j with q | q
            · rw [show j = r + 1 by omega]; exact c2
            · exact hno j h1 q)
  exact loop _ a (Nat.lt_succ_self _) (Nat.le_refl a) ha (fun j h1 h2 => absurd h1 (by omega))

def pX3_countKind (ev : Nat → va_E) (ls : List Op) (d : Bool) (a b : Nat) : Option Value → (Nat → va_E) → Prop := fun v e2 => v = some (.int (iI (cK ls d a (b + 1) : Int))) ∧ ev = e2

theorem cK_0 (ls : List Op) (d : Bool) (a : Nat) : ∀ k, k ≤ a → cK ls d a k = 0
  | 0, _ => rfl
  | k + 1, h => by
    unfold cK
    rw [cK_0 ls d a k (by omega), if_neg (by omega)]

set_option maxHeartbeats 4000000 in
set_option maxRecDepth 100000 in
theorem TX3_countKind (l : Launch) {G : GG} {N : Nat} {ad : Nat → Nat} {ev : Nat → va_E} {i a b : Nat} {ls : List Op} {d : Bool} (hi : i + 3 < N) (hR : ScrAt G ad ev i (ls.map encO)) (hab : a ≤ b) (hb : b < ls.length) : Ct l yX3_countKind wsX3_countKind rmX3_countKind [.ref (ad i), .int (iI (if d then 0 else 1)), .int (iI (a : Int)), .int (iI (b : Int))] G N ad ev 0 0 (pX3_countKind ev ls d a b) := by
  obtain ⟨fk, fp, fs, h0, h1, h2, h3, hf, hlc⟩ := id hR
  rw [List.length_map] at h0 hlc
  refine Ct_of (cc := cX3_countKind) (maxL := 6) (ret := some .int) (lv := [(0, .ref (ad i)), (1, .int (iI (if d then 0 else 1))), (2, .int (iI (a : Int))), (3, .int (iI (b : Int)))]) (by decide) rfl (Nat.le_of_ble_eq_true rfl) rfl ?_
  intro p E s m args below meth c A C hr hnm
  refine n_iconst C dX3_countKind_0 ?_
  refine n_istore (lv' := [(0, .ref (ad i)), (1, .int (iI (if d then 0 else 1))), (2, .int (iI (a : Int))), (3, .int (iI (b : Int))), (4, .int (iI 0))]) C dX3_countKind_1 (by decide) rfl ?_
  refine n_iload_n C dX3_countKind_3 2 rfl rfl ?_
  refine n_istore (lv' := [(0, .ref (ad i)), (1, .int (iI (if d then 0 else 1))), (2, .int (iI (a : Int))), (3, .int (iI (b : Int))), (4, .int (iI 0)), (5, .int (iI (a : Int)))]) C dX3_countKind_4 (by decide) rfl ?_
  have loop : ∀ (n9 : Nat) (k : Nat), b + 2 - k < n9 → (a ≤ k) → (k ≤ b + 1) → V p l E rmX3_countKind s m args below meth c G A 6 (MQ below (Qg G N ad A (pX3_countKind ev ls d a b)) args s 0 0 A) N ad ev 0 0 6 [(0, .ref (ad i)), (1, .int (iI (if d then 0 else 1))), (2, .int (iI (a : Int))), (3, .int (iI (b : Int))), (4, .int (iI (cK ls d a k : Int))), (5, .int (iI (k : Int)))] [] := by
    intro n9
    induction n9 with
    | zero =>
      intro k hm9
      exact absurd hm9 (Nat.not_lt_zero _)
    | succ n9 ih =>
      intro k hm9 hak hkb
      refine n_iload C dX3_countKind_6 5 rfl ?_
      refine n_iload_n C dX3_countKind_8 3 rfl rfl ?_
      refine n_icmp_gt C dX3_countKind_9 (by decide) (by omega) (by omega) (by omega) (by omega) (tgt := 41) (fun c1 => ?_) (fun c1 => ?_)
      · refine n_iload C dX3_countKind_41 4 rfl ?_
        exact n_iret C hr dX3_countKind_43 (⟨by rw [show k = b + 1 by omega], rfl⟩)
      · refine n_aload_n C dX3_countKind_12 0 rfl rfl ?_
        refine n_iload C dX3_countKind_13 5 rfl ?_
        refine n_callV (rest := []) C dX3_countKind_15 (TX3_has l hi hR (by omega) (by omega)) (cwV 1 C.2.2.2.2.1 gX3_countKind_X3_has rfl rfl rfl cdX3_has ⟨Nat.le_of_ble_eq_true rfl, Nat.le_of_ble_eq_true rfl⟩) (by omega) h0 rfl rfl rfl (Nat.le_of_ble_eq_true rfl) ⟨Nat.le_of_ble_eq_true rfl, Nat.le_of_ble_eq_true rfl⟩ ?_
        rintro _ _ ⟨rfl, rfl⟩
        refine n_pc (pc2 := 18) rfl (n_st (st2 := [.int (bI (decide (0 ≤ (k : Int) ∧ (k : Int) < (ls.map encO).length)))]) rfl ?_)
        refine n_if_eqB C dX3_countKind_18 (by decide) (tgt := 35) (fun c2 => ?_) (fun c2 => ?_)
        · exact absurd (of_decide_eq_false c2) (by rw [List.length_map]; omega)
        · obtain ⟨t, ht⟩ := some_of_lt (show k < ls.length by omega)
          have hk := hf k (by rw [List.length_map]; omega)
          rw [List.getElem?_map, ht] at hk
          have hk0 : fk k = (encO t).1 := by have := Option.some.inj hk; rw [this]
          refine n_aload_n C dX3_countKind_21 0 rfl rfl ?_
          refine n_get (k9 := 0) C dX3_countKind_22 (by omega) h0 hX3_countKind_X3 rfl (by decide) kX3_countKind_9 rfl ?_
          refine n_iload C dX3_countKind_25 5 rfl ?_
          refine n_iald (j := k) C dX3_countKind_27 (by omega) h1 (by omega) (by omega) (by omega) ?_
          refine n_iload_n C dX3_countKind_28 1 rfl rfl ?_
          refine n_icmp_neR C dX3_countKind_29 (by decide) (tgt := 35) (fun c3 => ?_) (fun c3 => ?_)
          · have hst : cK ls d a (k + 1) = cK ls d a k := by
              show cK ls d a k + _ = _
              rw [if_neg]
              · rfl
              · rintro ⟨-, h9⟩
                rw [ht] at h9
                have h8 : t.1 = d := by simpa using h9
                apply c3
                rw [hk0, ← h8]
                unfold encO
                cases t.1 <;> rfl
            refine n_iinc (lv' := [(0, .ref (ad i)), (1, .int (iI (if d then 0 else 1))), (2, .int (iI (a : Int))), (3, .int (iI (b : Int))), (4, .int (iI (cK ls d a k : Int))), (5, .int (iI ((k : Int) + 1)))]) C dX3_countKind_35 5 rfl (by decide) rfl ?_
            refine n_goto (tgt := 6) C dX3_countKind_38 (by decide) ?_
            refine n_lv (lv2 := [(0, .ref (ad i)), (1, .int (iI (if d then 0 else 1))), (2, .int (iI (a : Int))), (3, .int (iI (b : Int))), (4, .int (iI (cK ls d a (k + 1) : Int))), (5, .int (iI ((k + 1 : Nat) : Int)))]) (by rw [hst]; simp) ?_
            exact ih (k + 1) (by omega) (by omega) (by omega)
          · have hst : cK ls d a (k + 1) = cK ls d a k + 1 := by
              show cK ls d a k + _ = _
              rw [if_pos]
              refine ⟨hak, ?_⟩
              rw [ht]
              rw [hk0] at c3
              have h8 := enc_k t
              cases hd : d <;> cases h7 : t.1 <;> simp_all [encO] <;> first | exact absurd c3 (iI_ne (by decide) (by decide) (by decide) (by decide) (by decide)) | exact absurd c3.symm (iI_ne (by decide) (by decide) (by decide) (by decide) (by decide))
            refine n_iinc (lv' := [(0, .ref (ad i)), (1, .int (iI (if d then 0 else 1))), (2, .int (iI (a : Int))), (3, .int (iI (b : Int))), (4, .int (iI ((cK ls d a k : Int) + 1))), (5, .int (iI (k : Int)))]) C dX3_countKind_32 4 rfl (by decide) rfl ?_
            refine n_iinc (lv' := [(0, .ref (ad i)), (1, .int (iI (if d then 0 else 1))), (2, .int (iI (a : Int))), (3, .int (iI (b : Int))), (4, .int (iI ((cK ls d a k : Int) + 1))), (5, .int (iI ((k : Int) + 1)))]) C dX3_countKind_35 5 rfl (by decide) rfl ?_
            refine n_goto (tgt := 6) C dX3_countKind_38 (by decide) ?_
            refine n_lv (lv2 := [(0, .ref (ad i)), (1, .int (iI (if d then 0 else 1))), (2, .int (iI (a : Int))), (3, .int (iI (b : Int))), (4, .int (iI (cK ls d a (k + 1) : Int))), (5, .int (iI ((k + 1 : Nat) : Int)))]) (by rw [hst]; simp) ?_
            exact ih (k + 1) (by omega) (by omega) (by omega)
  have h00 : cK ls d a a = 0 := cK_0 ls d a a (Nat.le_refl a)
  refine n_lv (lv2 := [(0, .ref (ad i)), (1, .int (iI (if d then 0 else 1))), (2, .int (iI (a : Int))), (3, .int (iI (b : Int))), (4, .int (iI (cK ls d a a : Int))), (5, .int (iI (a : Int)))]) (by rw [h00]; rfl) ?_
  exact loop _ a (Nat.lt_succ_self _) (Nat.le_refl a) (by omega)
end
section
/-! Stretch: cell i; of the row at cell q, the symbols a .. b - 1 -/
def StrAt (ad : Nat → Nat) (ev : Nat → va_E) (i q : Nat) (a b : Int) : Prop := ev i = .inr (4, [.ref (ad q), .int (iI a), .int (iI b)])
theorem sl_get {ys : List Int32} {a b k : Nat} (h : a + k < b) (hb : b ≤ ys.length) : (sl ys a b)[k]? = ys[a + k]? := by
  unfold sl
  rw [List.getElem?_take_of_lt (by omega), List.getElem?_drop]
theorem sl_eq {xs ys : List Int32} {a b c d : Nat} (h1 : a ≤ b) (h2 : b ≤ xs.length) (h3 : c ≤ d) (h4 : d ≤ ys.length) (hl : b - a = d - c) (h : ∀ k, k < b - a → xs[a + k]? = ys[c + k]?) : sl xs a b = sl ys c d := by
  apply List.ext_getElem?
  intro k
  by_cases hk : k < b - a
  · rw [sl_get (by omega) h2, sl_get (by omega) h4, h k hk]
  · rw [List.getElem?_eq_none_iff.mpr (by rw [sl_len h2]; omega), List.getElem?_eq_none_iff.mpr (by rw [sl_len h4]; omega)]

def pX4_begin (ad : Nat → Nat) (ev : Nat → va_E) (i q : Nat) : Option Value → (Nat → va_E) → Prop := fun v e2 => v = none ∧ StrAt ad e2 i q 0 0 ∧ Fr e2 ev (fun j => j = i)

set_option maxHeartbeats 4000000 in
set_option maxRecDepth 100000 in
theorem TX4_begin (l : Launch) {G : GG} {N : Nat} {ad : Nat → Nat} {ev : Nat → va_E} {i q : Nat} {a b : Int} (hi : i < N) (h0 : StrAt ad ev i q a b) : Ct l yX4_begin wsX4_begin rmX4_begin [.ref (ad i)] G N ad ev 0 0 (pX4_begin ad ev i q) := by
  unfold StrAt at h0
  refine Ct_of (cc := cX4_begin) (maxL := 1) (ret := none) (lv := [(0, .ref (ad i))]) (by decide) rfl (Nat.le_of_ble_eq_true rfl) rfl ?_
  intro p E s m args below meth c A C hr hnm
  refine n_aload_n C dX4_begin_0 0 rfl rfl ?_
  refine n_iconst C dX4_begin_1 ?_
  refine n_put (k9 := 1) (fs2 := [.ref (ad q), .int (iI 0), .int (iI b)]) C dX4_begin_2 (by omega) h0 hX4_begin_X4 tyX4_ok nmX4 rfl (by decide) kX4_begin_15 rfl rfl rfl (Nat.le_of_ble_eq_true rfl) rfl (fun e1 hs2 ho3 => ?_)
  refine n_aload_n C dX4_begin_5 0 rfl rfl ?_
  refine n_iconst C dX4_begin_6 ?_
  refine n_put (k9 := 2) (fs2 := [.ref (ad q), .int (iI 0), .int (iI 0)]) C dX4_begin_7 (by omega) hs2 hX4_begin_X4 tyX4_ok nmX4 rfl (by decide) kX4_begin_19 rfl rfl rfl (Nat.le_of_ble_eq_true rfl) rfl (fun e4 hs5 ho6 => ?_)
  exact n_vret C hr dX4_begin_10 (⟨rfl, hs5, fun j hj => (ho6 j (by omega)).trans (ho3 j (by omega))⟩)

def pX4_endBefore (ad : Nat → Nat) (ev : Nat → va_E) (i q : Nat) (a z : Int) : Option Value → (Nat → va_E) → Prop := fun v e2 => v = none ∧ StrAt ad e2 i q a z ∧ Fr e2 ev (fun j => j = i)

set_option maxHeartbeats 4000000 in
set_option maxRecDepth 100000 in
theorem TX4_endBefore (l : Launch) {G : GG} {N : Nat} {ad : Nat → Nat} {ev : Nat → va_E} {i q : Nat} {a b z : Int} (hi : i < N) (h0 : StrAt ad ev i q a b) : Ct l yX4_endBefore wsX4_endBefore rmX4_endBefore [.ref (ad i), .int (iI z)] G N ad ev 0 0 (pX4_endBefore ad ev i q a z) := by
  unfold StrAt at h0
  refine Ct_of (cc := cX4_endBefore) (maxL := 2) (ret := none) (lv := [(0, .ref (ad i)), (1, .int (iI z))]) (by decide) rfl (Nat.le_of_ble_eq_true rfl) rfl ?_
  intro p E s m args below meth c A C hr hnm
  refine n_aload_n C dX4_endBefore_0 0 rfl rfl ?_
  refine n_iload_n C dX4_endBefore_1 1 rfl rfl ?_
  refine n_put (k9 := 2) (fs2 := [.ref (ad q), .int (iI a), .int (iI z)]) C dX4_endBefore_2 (by omega) h0 hX4_endBefore_X4 tyX4_ok nmX4 rfl (by decide) kX4_endBefore_19 rfl rfl rfl (Nat.le_of_ble_eq_true rfl) rfl (fun e1 hs2 ho3 => ?_)
  exact n_vret C hr dX4_endBefore_5 (⟨rfl, hs2, fun j hj => ho3 j (by omega)⟩)

def pX4_goOnBehindStable (ad : Nat → Nat) (ev : Nat → va_E) (i q : Nat) (b : Int) : Option Value → (Nat → va_E) → Prop := fun v e2 => v = none ∧ StrAt ad e2 i q (b + 1) b ∧ Fr e2 ev (fun j => j = i)

set_option maxHeartbeats 4000000 in
set_option maxRecDepth 100000 in
theorem TX4_goOnBehindStable (l : Launch) {G : GG} {N : Nat} {ad : Nat → Nat} {ev : Nat → va_E} {i q : Nat} {a b : Int} (hi : i < N) (h0 : StrAt ad ev i q a b) : Ct l yX4_goOnBehindStable wsX4_goOnBehindStable rmX4_goOnBehindStable [.ref (ad i)] G N ad ev 0 0 (pX4_goOnBehindStable ad ev i q b) := by
  unfold StrAt at h0
  refine Ct_of (cc := cX4_goOnBehindStable) (maxL := 1) (ret := none) (lv := [(0, .ref (ad i))]) (by decide) rfl (Nat.le_of_ble_eq_true rfl) rfl ?_
  intro p E s m args below meth c A C hr hnm
  refine n_aload_n C dX4_goOnBehindStable_0 0 rfl rfl ?_
  refine n_aload_n C dX4_goOnBehindStable_1 0 rfl rfl ?_
  refine n_get (k9 := 2) C dX4_goOnBehindStable_2 (by omega) h0 hX4_goOnBehindStable_X4 rfl (by decide) kX4_goOnBehindStable_19 rfl ?_
  refine n_iconst C dX4_goOnBehindStable_5 ?_
  refine n_iadd C dX4_goOnBehindStable_6 ?_
  refine n_put (k9 := 1) (fs2 := [.ref (ad q), .int (iI (b + 1)), .int (iI b)]) C dX4_goOnBehindStable_7 (by omega) h0 hX4_goOnBehindStable_X4 tyX4_ok nmX4 rfl (by decide) kX4_goOnBehindStable_15 rfl rfl rfl (Nat.le_of_ble_eq_true rfl) rfl (fun e1 hs2 ho3 => ?_)
  exact n_vret C hr dX4_goOnBehindStable_10 (⟨rfl, hs2, fun j hj => ho3 j (by omega)⟩)

def pX4_isSameAs (ev : Nat → va_E) (xs ys : List Int32) (a b c9 d : Nat) : Option Value → (Nat → va_E) → Prop := fun v e2 => v = some (.int (bI (decide (sl xs a b = sl ys c9 d)))) ∧ ev = e2

set_option maxHeartbeats 4000000 in
set_option maxRecDepth 100000 in
theorem TX4_isSameAs (l : Launch) {G : GG} {N : Nat} {ad : Nat → Nat} {ev : Nat → va_E} {i k q r a b c9 d cq cr : Nat} {xs ys : List Int32} (hi : i < N) (hk : k < N) (h0 : StrAt ad ev i q a b) (h1 : StrAt ad ev k r c9 d) (hq : q + 1 < N) (hr9 : r + 1 < N) (r1 : RowAt G ad ev q xs cq) (r2 : RowAt G ad ev r ys cr) (hab : a ≤ b) (hbx : b ≤ xs.length) (hcd : c9 ≤ d) (hdy : d ≤ ys.length) : Ct l yX4_isSameAs wsX4_isSameAs rmX4_isSameAs [.ref (ad i), .ref (ad k)] G N ad ev 0 0 (pX4_isSameAs ev xs ys a b c9 d) := by
  unfold StrAt at h0 h1
  have hl1 := r1.le
  have hl2 := r2.le
  obtain ⟨f0, g0, g1, g2⟩ := id r1
  obtain ⟨f3, g3, g4, g5⟩ := id r2
  refine Ct_of (cc := cX4_isSameAs) (maxL := 3) (ret := some .boolean) (lv := [(0, .ref (ad i)), (1, .ref (ad k))]) (by decide) rfl (Nat.le_of_ble_eq_true rfl) rfl ?_
  intro p E s m args below meth c A C hr hnm
  refine n_aload_n C dX4_isSameAs_0 0 rfl rfl ?_
  refine n_get (k9 := 2) C dX4_isSameAs_1 (by omega) h0 hX4_isSameAs_X4 rfl (by decide) kX4_isSameAs_19 rfl ?_
  refine n_aload_n C dX4_isSameAs_4 0 rfl rfl ?_
  refine n_get (k9 := 1) C dX4_isSameAs_5 (by omega) h0 hX4_isSameAs_X4 rfl (by decide) kX4_isSameAs_15 rfl ?_
  refine n_isub C dX4_isSameAs_8 ?_
  refine n_aload_n C dX4_isSameAs_9 1 rfl rfl ?_
  refine n_get (k9 := 2) C dX4_isSameAs_10 (by omega) h1 hX4_isSameAs_X4 rfl (by decide) kX4_isSameAs_19 rfl ?_
  refine n_aload_n C dX4_isSameAs_13 1 rfl rfl ?_
  refine n_get (k9 := 1) C dX4_isSameAs_14 (by omega) h1 hX4_isSameAs_X4 rfl (by decide) kX4_isSameAs_15 rfl ?_
  refine n_isub C dX4_isSameAs_17 ?_
  refine n_icmp_eq C dX4_isSameAs_18 (by decide) (by omega) (by omega) (by omega) (by omega) (tgt := 23) (fun c1 => ?_) (fun c1 => ?_)
  · refine n_iconst C dX4_isSameAs_23 ?_
    refine n_istore_n (lv' := [(0, .ref (ad i)), (1, .ref (ad k)), (2, .int (iI 0))]) C dX4_isSameAs_24 rfl (by decide) rfl ?_
    have loop : ∀ (n9 : Nat) (n : Nat), b - a + 1 - n < n9 → (n ≤ b - a) → (∀ j, j < n → xs[a + j]? = ys[c9 + j]?) → V p l E rmX4_isSameAs s m args below meth c G A 3 (MQ below (Qg G N ad A (pX4_isSameAs ev xs ys a b c9 d)) args s 0 0 A) N ad ev 0 0 25 [(0, .ref (ad i)), (1, .ref (ad k)), (2, .int (iI (n : Int)))] [] := by
      intro n9
      induction n9 with
      | zero =>
        intro n hm9
        exact absurd hm9 (Nat.not_lt_zero _)
      | succ n9 ih =>
        intro n hm9 hn hh
        refine n_iload_n C dX4_isSameAs_25 2 rfl rfl ?_
        refine n_aload_n C dX4_isSameAs_26 0 rfl rfl ?_
        refine n_get (k9 := 2) C dX4_isSameAs_27 (by omega) h0 hX4_isSameAs_X4 rfl (by decide) kX4_isSameAs_19 rfl ?_
        refine n_aload_n C dX4_isSameAs_30 0 rfl rfl ?_
        refine n_get (k9 := 1) C dX4_isSameAs_31 (by omega) h0 hX4_isSameAs_X4 rfl (by decide) kX4_isSameAs_15 rfl ?_
        refine n_isub C dX4_isSameAs_34 ?_
        refine n_icmp_ge C dX4_isSameAs_35 (by decide) (by omega) (by omega) (by omega) (by omega) (tgt := 77) (fun c2 => ?_) (fun c2 => ?_)
        · refine n_iconst C dX4_isSameAs_77 ?_
          exact n_zret C hr dX4_isSameAs_78 (by decide) (⟨by rw [decide_eq_true (sl_eq hab hbx hcd hdy (by omega) (fun j hj => hh j (by omega)))]; rfl, rfl⟩)
        · obtain ⟨x9, hx9⟩ := some_of_lt (show a + n < xs.length by omega)
          obtain ⟨y9, hy9⟩ := some_of_lt (show c9 + n < ys.length by omega)
          refine n_aload_n C dX4_isSameAs_38 0 rfl rfl ?_
          refine n_get (k9 := 0) C dX4_isSameAs_39 (by omega) h0 hX4_isSameAs_X4 rfl (by decide) kX4_isSameAs_9 rfl ?_
          refine n_aload_n C dX4_isSameAs_42 0 rfl rfl ?_
          refine n_get (k9 := 1) C dX4_isSameAs_43 (by omega) h0 hX4_isSameAs_X4 rfl (by decide) kX4_isSameAs_15 rfl ?_
          refine n_iload_n C dX4_isSameAs_46 2 rfl rfl ?_
          refine n_iadd C dX4_isSameAs_47 ?_
          refine n_iconst C dX4_isSameAs_48 ?_
          refine n_callV (rest := []) C dX4_isSameAs_49 (TX2_at l hq r1 (by omega) (by omega)) (cwV 2 C.2.2.2.2.1 gX4_isSameAs_X2_at rfl rfl rfl cdX2_at ⟨Nat.le_of_ble_eq_true rfl, Nat.le_of_ble_eq_true rfl⟩) (by omega) g0 rfl rfl rfl (Nat.le_of_ble_eq_true rfl) ⟨Nat.le_of_ble_eq_true rfl, Nat.le_of_ble_eq_true rfl⟩ ?_
          rintro _ _ ⟨rfl, rfl⟩
          refine n_pc (pc2 := 52) rfl (n_st (st2 := [.int (atD xs ((a : Int) + (n : Int)) (iI (-1)))]) rfl ?_)
          refine n_topI (y := x9) (atD_in (by omega) (by omega) hx9) ?_
          refine n_aload_n C dX4_isSameAs_52 1 rfl rfl ?_
          refine n_get (k9 := 0) C dX4_isSameAs_53 (by omega) h1 hX4_isSameAs_X4 rfl (by decide) kX4_isSameAs_9 rfl ?_
          refine n_aload_n C dX4_isSameAs_56 1 rfl rfl ?_
          refine n_get (k9 := 1) C dX4_isSameAs_57 (by omega) h1 hX4_isSameAs_X4 rfl (by decide) kX4_isSameAs_15 rfl ?_
          refine n_iload_n C dX4_isSameAs_60 2 rfl rfl ?_
          refine n_iadd C dX4_isSameAs_61 ?_
          refine n_iconst C dX4_isSameAs_62 ?_
          refine n_callV (rest := [.int x9]) C dX4_isSameAs_63 (TX2_at l hr9 r2 (by omega) (by omega)) (cwV 2 C.2.2.2.2.1 gX4_isSameAs_X2_at rfl rfl rfl cdX2_at ⟨Nat.le_of_ble_eq_true rfl, Nat.le_of_ble_eq_true rfl⟩) (by omega) g3 rfl rfl rfl (Nat.le_of_ble_eq_true rfl) ⟨Nat.le_of_ble_eq_true rfl, Nat.le_of_ble_eq_true rfl⟩ ?_
          rintro _ _ ⟨rfl, rfl⟩
          refine n_pc (pc2 := 66) rfl (n_st (st2 := [.int (atD ys ((c9 : Int) + (n : Int)) (iI (-1))), .int x9]) rfl ?_)
          refine n_topI (y := y9) (atD_in (by omega) (by omega) hy9) ?_
          refine n_icmp_eqR C dX4_isSameAs_66 (by decide) (tgt := 71) (fun c3 => ?_) (fun c3 => ?_)
          · refine n_iinc (lv' := [(0, .ref (ad i)), (1, .ref (ad k)), (2, .int (iI ((n : Int) + 1)))]) C dX4_isSameAs_71 2 rfl (by decide) rfl ?_
            refine n_goto (tgt := 25) C dX4_isSameAs_74 (by decide) ?_
            refine n_lv (lv2 := [(0, .ref (ad i)), (1, .ref (ad k)), (2, .int (iI ((n + 1 : Nat) : Int)))]) (by simp) ?_
            exact ih (n + 1) (by omega) (by omega) (fun j hj => by
              rcases Nat.lt_or_ge j n with q | q
              · exact hh j q
              · rw [show j = n by omega, hx9, hy9, c3])
          · refine n_iconst C dX4_isSameAs_69 ?_
            exact n_zret C hr dX4_isSameAs_70 (by decide) (⟨by
              rw [decide_eq_false]
              · rfl
              · intro he
                have h9 : (sl xs a b)[n]? = (sl ys c9 d)[n]? := by rw [he]
                rw [sl_get (by omega) hbx, sl_get (by omega) hdy, hx9, hy9] at h9
                exact c3 (Option.some.inj h9), rfl⟩)
    exact loop _ 0 (Nat.lt_succ_self _) (Nat.zero_le _) (fun j hj => absurd hj (Nat.not_lt_zero j))
  · refine n_iconst C dX4_isSameAs_21 ?_
    exact n_zret C hr dX4_isSameAs_22 (by decide) (⟨by
      rw [decide_eq_false]
      · rfl
      · intro he
        have h9 := congrArg List.length he
        rw [sl_len hbx, sl_len hdy] at h9
        omega, rfl⟩)

def pX4_addTo (G : GG) (ad : Nat → Nat) (ev : Nat → va_E) (r cap : Nat) (zs xs : List Int32) (a b : Nat) : Option Value → (Nat → va_E) → Prop := fun v e2 => v = none ∧ RowAt G ad e2 r (zs ++ sl xs a b) cap ∧ Fr e2 ev (fun j => j = r ∨ j = r + 1)

set_option maxHeartbeats 4000000 in
set_option maxRecDepth 100000 in
theorem TX4_addTo (l : Launch) {G : GG} {N : Nat} {ad : Nat → Nat} {ev : Nat → va_E} {i q r a b cq cap : Nat} {xs zs : List Int32} (hi : i < N) (h0 : StrAt ad ev i q a b) (hq : q + 1 < N) (hr9 : r + 1 < N) (r1 : RowAt G ad ev q xs cq) (r2 : RowAt G ad ev r zs cap) (hne : q ≠ r) (hne1 : q ≠ r + 1) (hne2 : q + 1 ≠ r) (hb : b ≤ xs.length) (ha : a ≤ 1000) (hcap : zs.length + (b - a) ≤ cap) : Ct l yX4_addTo wsX4_addTo rmX4_addTo [.ref (ad i), .ref (ad r)] G N ad ev 0 0 (pX4_addTo G ad ev r cap zs xs a b) := by
  unfold StrAt at h0
  obtain ⟨f0, g0, g1, g2⟩ := id r1
  obtain ⟨f3, g3, g4, g5⟩ := id r2
  refine Ct_of (cc := cX4_addTo) (maxL := 2) (ret := none) (lv := [(0, .ref (ad i)), (1, .ref (ad r))]) (by decide) rfl (Nat.le_of_ble_eq_true rfl) rfl ?_
  intro p E s m args below meth c A C hr hnm
  refine n_aload_n C dX4_addTo_0 1 rfl rfl ?_
  refine n_aload_n C dX4_addTo_1 0 rfl rfl ?_
  refine n_get (k9 := 0) C dX4_addTo_2 (by omega) h0 hX4_addTo_X4 rfl (by decide) kX4_addTo_9 rfl ?_
  refine n_aload_n C dX4_addTo_5 0 rfl rfl ?_
  refine n_get (k9 := 1) C dX4_addTo_6 (by omega) h0 hX4_addTo_X4 rfl (by decide) kX4_addTo_15 rfl ?_
  refine n_aload_n C dX4_addTo_9 0 rfl rfl ?_
  refine n_get (k9 := 2) C dX4_addTo_10 (by omega) h0 hX4_addTo_X4 rfl (by decide) kX4_addTo_19 rfl ?_
  refine n_callV (rest := []) C dX4_addTo_13 (TX2_addAll l hr9 r2 hq r1 hne hne1 hne2 hb hcap ha) (cwV 3 C.2.2.2.2.1 gX4_addTo_X2_addAll rfl rfl rfl cdX2_addAll ⟨Nat.le_of_ble_eq_true rfl, Nat.le_of_ble_eq_true rfl⟩) (by omega) g3 rfl rfl rfl (Nat.le_of_ble_eq_true rfl) ⟨Nat.le_of_ble_eq_true rfl, Nat.le_of_ble_eq_true rfl⟩ ?_
  rintro _ e2 ⟨rfl, r3, hF⟩
  refine n_pc (pc2 := 16) rfl (n_st (st2 := []) rfl ?_)
  exact n_vret C hr dX4_addTo_16 (⟨rfl, r3, hF⟩)
end
section
/-! the least script, in plain words -/
/-- rest: the least number of deletions and insertions -/
def rst : List Int32 → List Int32 → Nat
  | [], b => b.length
  | x :: a, [] => (x :: a).length
  | x :: a, y :: b => if x = y then rst a b else 1 + min (rst a (y :: b)) (rst (x :: a) b)
  termination_by a b => a.length + b.length
theorem rst_nil_l (b : List Int32) : rst [] b = b.length := by rw [rst]
theorem rst_nil_r (a : List Int32) : rst a [] = a.length := by
  cases a with
  | nil => rw [rst]
  | cons x a => rw [rst]
theorem rst_cons (x y : Int32) (a b : List Int32) : rst (x :: a) (y :: b) = if x = y then rst a b else 1 + min (rst a (y :: b)) (rst (x :: a) b) := by rw [rst]
theorem rst_le : ∀ (n : Nat) (a b : List Int32), a.length + b.length ≤ n → rst a b ≤ a.length + b.length ∧ (rst a b) % 2 = (a.length + b.length) % 2
  | 0, a, b, h => by
    have ha : a = [] := List.length_eq_zero_iff.mp (by omega)
    subst ha
    rw [rst_nil_l]
    simp
  | n + 1, a, b, h => by
    match a, b with
    | [], b => rw [rst_nil_l]; simp
    | x :: a, [] => rw [rst_nil_r]; simp
    | x :: a, y :: b =>
      rw [rst_cons]
      simp only [List.length_cons] at h ⊢
      split
      · have := rst_le n a b (by omega)
        omega
      · have h1 := rst_le n a (y :: b) (by simp; omega)
        have h2 := rst_le n (x :: a) b (by simp; omega)
        simp only [List.length_cons] at h1 h2
        omega
/-- rest at places i, j -/
def rs (xs ys : List Int32) (i j : Nat) : Nat := rst (xs.drop i) (ys.drop j)
theorem rs_le (xs ys : List Int32) (i j : Nat) : rs xs ys i j ≤ (xs.length - i) + (ys.length - j) := by
  have := (rst_le _ (xs.drop i) (ys.drop j) (Nat.le_refl _)).1
  simp only [List.length_drop] at this
  exact this
theorem rs_end {xs ys : List Int32} {i j : Nat} (h : xs.length ≤ i ∨ ys.length ≤ j) : rs xs ys i j = (xs.length - i) + (ys.length - j) := by
  unfold rs
  rcases h with h | h
  · rw [List.drop_eq_nil_of_le h, rst_nil_l, List.length_drop]
    omega
  · rw [List.drop_eq_nil_of_le h, rst_nil_r, List.length_drop]
    omega
theorem drop_of {α : Type} {xs : List α} {i : Nat} {x : α} (h : xs[i]? = some x) : xs.drop i = x :: xs.drop (i + 1) := by
  obtain ⟨hi, e⟩ := List.getElem?_eq_some_iff.mp h
  rw [List.drop_eq_getElem_cons hi, e]
theorem rs_same {xs ys : List Int32} {i j : Nat} {x : Int32} (hx : xs[i]? = some x) (hy : ys[j]? = some x) : rs xs ys i j = rs xs ys (i + 1) (j + 1) := by
  unfold rs
  rw [drop_of hx, drop_of hy, rst_cons, if_pos rfl]
theorem rs_diff {xs ys : List Int32} {i j : Nat} {x y : Int32} (hx : xs[i]? = some x) (hy : ys[j]? = some y) (h : x ≠ y) : rs xs ys i j = 1 + min (rs xs ys (i + 1) j) (rs xs ys i (j + 1)) := by
  unfold rs
  rw [drop_of hx, drop_of hy, rst_cons, if_neg h, ← drop_of hx, ← drop_of hy]
/-- the same symbol at i and j -/
def sam (xs ys : List Int32) (i j : Nat) : Bool := decide (i < xs.length ∧ j < ys.length ∧ xs[i]? = ys[j]?)
/-- the step at i, j: 2 keeps, 0 deletes, 1 inserts -/
def stp (xs ys : List Int32) (i j : Nat) : Int := if sam xs ys i j then 2 else if i < xs.length ∧ rs xs ys (i + 1) j < rs xs ys i j then 0 else 1
theorem stp_ins {xs ys : List Int32} {i j : Nat} (hi : i ≤ xs.length) (hj : j ≤ ys.length) (h : i + j < xs.length + ys.length) (hs : stp xs ys i j = 1) : j < ys.length := by
  unfold stp at hs
  split at hs
  · exact absurd hs (by decide)
  · split at hs
    · exact absurd hs (by decide)
    · rename_i h2
      rcases Nat.lt_or_ge j ys.length with q | q
      · exact q
      · exfalso
        apply h2
        refine ⟨by omega, ?_⟩
        rw [rs_end (Or.inr q), rs_end (Or.inr q)]
        omega
theorem stp_del {xs ys : List Int32} {i j : Nat} (hs : stp xs ys i j = 0) : i < xs.length := by
  unfold stp at hs
  split at hs
  · exact absurd hs (by decide)
  · split at hs
    · rename_i h2; exact h2.1
    · exact absurd hs (by decide)
theorem stp_keep {xs ys : List Int32} {i j : Nat} (hs : stp xs ys i j = 2) : i < xs.length ∧ j < ys.length ∧ xs[i]? = ys[j]? := by
  unfold stp at hs
  split at hs
  · rename_i h; exact of_decide_eq_true h
  · split at hs <;> exact absurd hs (by decide)
theorem stp_3 (xs ys : List Int32) (i j : Nat) : stp xs ys i j = 0 ∨ stp xs ys i j = 1 ∨ stp xs ys i j = 2 := by
  unfold stp
  split
  · exact Or.inr (Or.inr rfl)
  · split
    · exact Or.inl rfl
    · exact Or.inr (Or.inl rfl)
/-- the least script from i, j on -/
def sc (xs ys : List Int32) (i j : Nat) : List Op :=
  if h : xs.length + ys.length ≤ i + j ∨ xs.length < i ∨ ys.length < j then [] else
  if stp xs ys i j = 2 then sc xs ys (i + 1) (j + 1) else
  if stp xs ys i j = 0 then (true, i, xs.getD i 0) :: sc xs ys (i + 1) j else (false, i, ys.getD j 0) :: sc xs ys i (j + 1)
  termination_by (xs.length + 1 - i) + (ys.length + 1 - j)
/-- which symbol of ys each symbol of xs from i on is kept with, or -1 -/
def kp (xs ys : List Int32) (i j : Nat) : List Int :=
  if h : xs.length + ys.length ≤ i + j ∨ xs.length < i ∨ ys.length < j then [] else
  if stp xs ys i j = 2 then (j : Int) :: kp xs ys (i + 1) (j + 1) else
  if stp xs ys i j = 0 then (-1) :: kp xs ys (i + 1) j else kp xs ys i (j + 1)
  termination_by (xs.length + 1 - i) + (ys.length + 1 - j)
theorem sc_end {xs ys : List Int32} {i j : Nat} (h : xs.length + ys.length ≤ i + j) : sc xs ys i j = [] := by
  rw [sc, dif_pos (Or.inl h)]
theorem sc_2 {xs ys : List Int32} {i j : Nat} (hi : i ≤ xs.length) (hj : j ≤ ys.length) (h : i + j < xs.length + ys.length) (hs : stp xs ys i j = 2) : sc xs ys i j = sc xs ys (i + 1) (j + 1) := by
  rw [sc, dif_neg (by omega), if_pos hs]
theorem sc_0 {xs ys : List Int32} {i j : Nat} {x : Int32} (hi : i ≤ xs.length) (hj : j ≤ ys.length) (h : i + j < xs.length + ys.length) (hs : stp xs ys i j = 0) (hx : xs[i]? = some x) : sc xs ys i j = (true, i, x) :: sc xs ys (i + 1) j := by
  rw [sc, dif_neg (by omega), if_neg (by rw [hs]; decide), if_pos hs]
  simp [List.getD, hx]
theorem sc_1 {xs ys : List Int32} {i j : Nat} {y : Int32} (hi : i ≤ xs.length) (hj : j ≤ ys.length) (h : i + j < xs.length + ys.length) (hs : stp xs ys i j = 1) (hy : ys[j]? = some y) : sc xs ys i j = (false, i, y) :: sc xs ys i (j + 1) := by
  rw [sc, dif_neg (by omega), if_neg (by rw [hs]; decide), if_neg (by rw [hs]; decide)]
  simp [List.getD, hy]
theorem kp_end {xs ys : List Int32} {i j : Nat} (h : xs.length + ys.length ≤ i + j) : kp xs ys i j = [] := by
  rw [kp, dif_pos (Or.inl h)]
theorem kp_2 {xs ys : List Int32} {i j : Nat} (hi : i ≤ xs.length) (hj : j ≤ ys.length) (h : i + j < xs.length + ys.length) (hs : stp xs ys i j = 2) : kp xs ys i j = (j : Int) :: kp xs ys (i + 1) (j + 1) := by
  rw [kp, dif_neg (by omega), if_pos hs]
theorem kp_0 {xs ys : List Int32} {i j : Nat} (hi : i ≤ xs.length) (hj : j ≤ ys.length) (h : i + j < xs.length + ys.length) (hs : stp xs ys i j = 0) : kp xs ys i j = (-1) :: kp xs ys (i + 1) j := by
  rw [kp, dif_neg (by omega), if_neg (by rw [hs]; decide), if_pos hs]
theorem kp_1 {xs ys : List Int32} {i j : Nat} (hi : i ≤ xs.length) (hj : j ≤ ys.length) (h : i + j < xs.length + ys.length) (hs : stp xs ys i j = 1) : kp xs ys i j = kp xs ys i (j + 1) := by
  rw [kp, dif_neg (by omega), if_neg (by rw [hs]; decide), if_neg (by rw [hs]; decide)]
theorem sc_facts (xs ys : List Int32) : ∀ (n i j : Nat), i ≤ xs.length → j ≤ ys.length → (xs.length - i) + (ys.length - j) ≤ n → (sc xs ys i j).length ≤ (xs.length - i) + (ys.length - j) ∧ ∀ (k : Nat) (t : Op), (sc xs ys i j)[k]? = some t → t.2.1 ≤ xs.length
  | 0, i, j, hi, hj, hn => by
    rw [sc_end (by omega)]
    exact ⟨Nat.zero_le _, fun k t h => by simp at h⟩
  | n + 1, i, j, hi, hj, hn => by
    rcases Nat.lt_or_ge (i + j) (xs.length + ys.length) with h | h
    · rcases stp_3 xs ys i j with hs | hs | hs
      · have h1 := stp_del hs
        obtain ⟨x, hx⟩ := some_of_lt h1
        rw [sc_0 hi hj h hs hx]
        obtain ⟨a, b⟩ := sc_facts xs ys n (i + 1) j (by omega) hj (by omega)
        refine ⟨by simp only [List.length_cons]; omega, fun k t ht => ?_⟩
        cases k with
        | zero => simp at ht; subst ht; exact hi
        | succ k => exact b k t (by simpa using ht)
      · have h1 := stp_ins hi hj h hs
        obtain ⟨y, hy⟩ := some_of_lt h1
        rw [sc_1 hi hj h hs hy]
        obtain ⟨a, b⟩ := sc_facts xs ys n i (j + 1) hi (by omega) (by omega)
        refine ⟨by simp only [List.length_cons]; omega, fun k t ht => ?_⟩
        cases k with
        | zero => simp at ht; subst ht; exact hi
        | succ k => exact b k t (by simpa using ht)
      · obtain ⟨h1, h2, h3⟩ := stp_keep hs
        rw [sc_2 hi hj h hs]
        obtain ⟨a, b⟩ := sc_facts xs ys n (i + 1) (j + 1) (by omega) (by omega) (by omega)
        exact ⟨by omega, b⟩
    · rw [sc_end h]
      exact ⟨Nat.zero_le _, fun k t h => by simp at h⟩
theorem kp_facts (xs ys : List Int32) : ∀ (n i j : Nat), i ≤ xs.length → j ≤ ys.length → (xs.length - i) + (ys.length - j) ≤ n → (kp xs ys i j).length = xs.length - i ∧ (∀ (k : Nat) (t : Int), (kp xs ys i j)[k]? = some t → t = -1 ∨ ((j : Int) ≤ t ∧ t < ys.length)) ∧ ∀ (k k2 : Nat) (t t2 : Int), k < k2 → (kp xs ys i j)[k]? = some t → (kp xs ys i j)[k2]? = some t2 → t2 ≠ -1 → t < t2
  | 0, i, j, hi, hj, hn => by
    rw [kp_end (by omega)]
    exact ⟨by simp; omega, fun k t h => by simp at h, fun k k2 t t2 _ h => by simp at h⟩
  | n + 1, i, j, hi, hj, hn => by
    rcases Nat.lt_or_ge (i + j) (xs.length + ys.length) with h | h
    · rcases stp_3 xs ys i j with hs | hs | hs
      · have h1 := stp_del hs
        rw [kp_0 hi hj h hs]
        obtain ⟨a, b, c⟩ := kp_facts xs ys n (i + 1) j (by omega) hj (by omega)
        refine ⟨by simp only [List.length_cons]; omega, fun k t ht => ?_, fun k k2 t t2 hk ht ht2 hne => ?_⟩
        · cases k with
          | zero => simp at ht; subst ht; exact Or.inl rfl
          | succ k => exact b k t (by simpa using ht)
        · cases k2 with
          | zero => omega
          | succ k2 =>
            have ht2' : (kp xs ys (i + 1) j)[k2]? = some t2 := by simpa using ht2
            cases k with
            | zero =>
              simp at ht
              have := b k2 t2 ht2'
              omega
            | succ k => exact c k k2 t t2 (by omega) (by simpa using ht) ht2' hne
      · have h1 := stp_ins hi hj h hs
        rw [kp_1 hi hj h hs]
        obtain ⟨a, b, c⟩ := kp_facts xs ys n i (j + 1) hi (by omega) (by omega)
        refine ⟨a, fun k t ht => ?_, c⟩
        have := b k t ht
        omega
      · obtain ⟨h1, h2, h3⟩ := stp_keep hs
        rw [kp_2 hi hj h hs]
        obtain ⟨a, b, c⟩ := kp_facts xs ys n (i + 1) (j + 1) (by omega) (by omega) (by omega)
        refine ⟨by simp only [List.length_cons]; omega, fun k t ht => ?_, fun k k2 t t2 hk ht ht2 hne => ?_⟩
        · cases k with
          | zero => simp at ht; subst ht; exact Or.inr ⟨by omega, by omega⟩
          | succ k =>
            have := b k t (by simpa using ht)
            omega
        · cases k2 with
          | zero => omega
          | succ k2 =>
            have ht2' : (kp xs ys (i + 1) (j + 1))[k2]? = some t2 := by simpa using ht2
            cases k with
            | zero =>
              simp at ht
              have := b k2 t2 ht2'
              omega
            | succ k => exact c k k2 t t2 (by omega) (by simpa using ht) ht2' hne
    · rw [kp_end h]
      exact ⟨by simp; omega, fun k t h => by simp at h, fun k k2 t t2 _ h => by simp at h⟩
end
section
/-! Comparison: cell 16; its table: cells 17 (outer), 18 .. 38 (rows of it); the rows that it compares: cells qa, qb -/
def CmpAt (G : GG) (ad : Nat → Nat) (ev : Nat → va_E) (qa qb : Nat) (M : Nat → Nat → Int32) : Prop :=
  ev 16 = .inr (0, [.ref (ad 17), .ref (ad qa), .ref (ad qb)]) ∧ ev 17 = .inl (G.2.2.2.1, 21, .inr (.inr (.inr (.inr (fun i => if i < 21 then some (ad (18 + i)) else none))))) ∧ ∀ i, i < 21 → ev (18 + i) = .inl (G.2.1, 21, .inl (M i))
theorem CmpAt.fr {G : GG} {ad : Nat → Nat} {ev e2 : Nat → va_E} {qa qb : Nat} {M : Nat → Nat → Int32} {S : Nat → Prop} (h : CmpAt G ad ev qa qb M) (hF : Fr e2 ev S) (hS : ∀ j, 16 ≤ j → j < 39 → ¬ S j) : CmpAt G ad e2 qa qb M :=
  ⟨(hF _ (hS 16 (by omega) (by omega))).trans h.1, (hF _ (hS 17 (by omega) (by omega))).trans h.2.1, fun i hi => (hF _ (hS (18 + i) (by omega) (by omega))).trans (h.2.2 i hi)⟩
def upM (M : Nat → Nat → Int32) (i j : Nat) (x : Int32) : Nat → Nat → Int32 := fun a => if a = i then upd (M i) j x else M a
theorem CmpAt.set {G : GG} {ad : Nat → Nat} {ev e2 : Nat → va_E} {qa qb i j : Nat} {x : Int32} {M : Nat → Nat → Int32} (h : CmpAt G ad ev qa qb M) (hi : i < 21) (hs : e2 (18 + i) = .inl (G.2.1, 21, .inl (upd (M i) j x))) (ho : ∀ k, k ≠ 18 + i → e2 k = ev k) : CmpAt G ad e2 qa qb (upM M i j x) := by
  refine ⟨(ho 16 (by omega)).trans h.1, (ho 17 (by omega)).trans h.2.1, fun a ha => ?_⟩
  unfold upM
  by_cases e : a = i
  · subst e; rw [if_pos rfl]; exact hs
  · rw [if_neg e, ho (18 + a) (by omega)]; exact h.2.2 a ha
theorem upM_self {M : Nat → Nat → Int32} {i j : Nat} {x : Int32} : upM M i j x i j = x := by simp [upM, upd]
theorem upM_ne {M : Nat → Nat → Int32} {i j a b : Nat} {x : Int32} (h : a ≠ i ∨ b ≠ j) : upM M i j x a b = M a b := by
  unfold upM
  by_cases e : a = i
  · subst e
    rw [if_pos rfl]
    have : b ≠ j := by omega
    simp [upd, this]
  · rw [if_neg e]
theorem sam_of {xs ys : List Int32} {i j : Nat} {x y : Int32} (hx : xs[i]? = some x) (hy : ys[j]? = some y) : sam xs ys i j = decide (x = y) := by
  unfold sam
  have h1 : i < xs.length := (List.getElem?_eq_some_iff.mp hx).1
  have h2 : j < ys.length := (List.getElem?_eq_some_iff.mp hy).1
  rw [hx, hy]
  simp [h1, h2]
theorem sam_no {xs ys : List Int32} {i j : Nat} (h : xs.length ≤ i ∨ ys.length ≤ j) : sam xs ys i j = false := by
  unfold sam
  rw [decide_eq_false (by omega)]

def pX0_isSame (ev : Nat → va_E) (xs ys : List Int32) (i j : Nat) : Option Value → (Nat → va_E) → Prop := fun v e2 => v = some (.int (bI (sam xs ys i j))) ∧ ev = e2

set_option maxHeartbeats 4000000 in
set_option maxRecDepth 100000 in
theorem TX0_isSame (l : Launch) {G : GG} {N : Nat} {ad : Nat → Nat} {ev : Nat → va_E} {qa qb i j : Nat} {M : Nat → Nat → Int32} {xs ys : List Int32} (hN : 53 ≤ N) (hC : CmpAt G ad ev qa qb M) (r1 : RowAt G ad ev qa xs 20) (r2 : RowAt G ad ev qb ys 20) (ha : qa + 1 < 16) (hb : qb + 1 < 16) (hi : i ≤ 100) (hj : j ≤ 100) : Ct l yX0_isSame wsX0_isSame rmX0_isSame [.ref (ad 16), .int (iI (i : Int)), .int (iI (j : Int))] G N ad ev 0 0 (pX0_isSame ev xs ys i j) := by
  have hl1 := r1.le
  have hl2 := r2.le
  obtain ⟨k0, k1, k2⟩ := id hC
  obtain ⟨f0, g0, g1, g2, -⟩ := id r1
  obtain ⟨f3, g3, g4, g5, -⟩ := id r2
  refine Ct_of (cc := cX0_isSame) (maxL := 3) (ret := some .boolean) (lv := [(0, .ref (ad 16)), (1, .int (iI (i : Int))), (2, .int (iI (j : Int)))]) (by decide) rfl (Nat.le_of_ble_eq_true rfl) rfl ?_
  intro p E s m args below meth c A C hr hnm
  refine n_iload_n C dX0_isSame_0 1 rfl rfl ?_
  refine n_aload_n C dX0_isSame_1 0 rfl rfl ?_
  refine n_get (k9 := 1) C dX0_isSame_2 (by omega) k0 hX0_isSame_X0 rfl (by decide) kX0_isSame_21 rfl ?_
  refine n_getN (k9 := 1) C dX0_isSame_5 (by omega) g0 hX0_isSame_X2 rfl (by decide) kn_X0_28 rfl ?_
  refine n_icmp_ge C dX0_isSame_8 (by decide) (by omega) (by omega) (by omega) (by omega) (tgt := 47) (fun c1 => ?_) (fun c1 => ?_)
  · refine n_iconst C dX0_isSame_47 ?_
    exact n_zret C hr dX0_isSame_48 (by decide) (⟨by rw [sam_no (Or.inl (by omega))]; rfl, rfl⟩)
  · refine n_iload_n C dX0_isSame_11 2 rfl rfl ?_
    refine n_aload_n C dX0_isSame_12 0 rfl rfl ?_
    refine n_get (k9 := 2) C dX0_isSame_13 (by omega) k0 hX0_isSame_X0 rfl (by decide) kX0_isSame_25 rfl ?_
    refine n_getN (k9 := 1) C dX0_isSame_16 (by omega) g3 hX0_isSame_X2 rfl (by decide) kn_X0_28 rfl ?_
    refine n_icmp_ge C dX0_isSame_19 (by decide) (by omega) (by omega) (by omega) (by omega) (tgt := 47) (fun c2 => ?_) (fun c2 => ?_)
    · refine n_iconst C dX0_isSame_47 ?_
      exact n_zret C hr dX0_isSame_48 (by decide) (⟨by rw [sam_no (Or.inr (by omega))]; rfl, rfl⟩)
    · refine n_aload_n C dX0_isSame_22 0 rfl rfl ?_
      refine n_get (k9 := 1) C dX0_isSame_23 (by omega) k0 hX0_isSame_X0 rfl (by decide) kX0_isSame_21 rfl ?_
      refine n_getN (k9 := 0) C dX0_isSame_26 (by omega) g0 hX0_isSame_X2 rfl (by decide) kn_X0_64 rfl ?_
      refine n_iload_n C dX0_isSame_29 1 rfl rfl ?_
      refine n_iald (j := i) C dX0_isSame_30 (by omega) g1 (by omega) (by omega) (by omega) ?_
      refine n_aload_n C dX0_isSame_31 0 rfl rfl ?_
      refine n_get (k9 := 2) C dX0_isSame_32 (by omega) k0 hX0_isSame_X0 rfl (by decide) kX0_isSame_25 rfl ?_
      refine n_getN (k9 := 0) C dX0_isSame_35 (by omega) g3 hX0_isSame_X2 rfl (by decide) kn_X0_64 rfl ?_
      refine n_iload_n C dX0_isSame_38 2 rfl rfl ?_
      refine n_iald (j := j) C dX0_isSame_39 (by omega) g4 (by omega) (by omega) (by omega) ?_
      refine n_icmp_neR C dX0_isSame_40 (by decide) (tgt := 47) (fun c3 => ?_) (fun c3 => ?_)
      · refine n_iconst C dX0_isSame_47 ?_
        exact n_zret C hr dX0_isSame_48 (by decide) (⟨by rw [sam_of (g2 i (by omega)) (g5 j (by omega)), decide_eq_false c3]; rfl, rfl⟩)
      · refine n_iconst C dX0_isSame_43 ?_
        refine n_goto (tgt := 48) C dX0_isSame_44 (by decide) ?_
        exact n_zret C hr dX0_isSame_48 (by decide) (⟨by rw [sam_of (g2 i (by omega)) (g5 j (by omega)), decide_eq_true c3]; rfl, rfl⟩)

def pX0_restAt (ev : Nat → va_E) (xs ys : List Int32) (i j : Nat) : Option Value → (Nat → va_E) → Prop := fun v e2 => v = some (.int (iI (rs xs ys i j : Int))) ∧ ev = e2

set_option maxHeartbeats 4000000 in
set_option maxRecDepth 100000 in
theorem TX0_restAt (l : Launch) {G : GG} {N : Nat} {ad : Nat → Nat} {ev : Nat → va_E} {qa qb i j : Nat} {M : Nat → Nat → Int32} {xs ys : List Int32} (hN : 53 ≤ N) (hC : CmpAt G ad ev qa qb M) (r1 : RowAt G ad ev qa xs 20) (r2 : RowAt G ad ev qb ys 20) (ha : qa + 1 < 16) (hb : qb + 1 < 16) (hi : i ≤ xs.length) (hj : j ≤ ys.length) (hM : i < xs.length → j < ys.length → M (i + 1) (j + 1) = iI (rs xs ys (i + 1) (j + 1) : Int) ∧ M (i + 1) j = iI (rs xs ys (i + 1) j : Int) ∧ M i (j + 1) = iI (rs xs ys i (j + 1) : Int)) : Ct l yX0_restAt wsX0_restAt rmX0_restAt [.ref (ad 16), .int (iI (i : Int)), .int (iI (j : Int))] G N ad ev 0 0 (pX0_restAt ev xs ys i j) := by
  have hl1 := r1.le
  have hl2 := r2.le
  obtain ⟨k0, k1, k2⟩ := id hC
  obtain ⟨f0, g0, g1, g2, -⟩ := id r1
  obtain ⟨f3, g3, g4, g5, -⟩ := id r2
  have q1 := rs_le xs ys (i + 1) (j + 1)
  have q2 := rs_le xs ys (i + 1) j
  have q3 := rs_le xs ys i (j + 1)
  refine Ct_of (cc := cX0_restAt) (maxL := 3) (ret := some .int) (lv := [(0, .ref (ad 16)), (1, .int (iI (i : Int))), (2, .int (iI (j : Int)))]) (by decide) rfl (Nat.le_of_ble_eq_true rfl) rfl ?_
  intro p E s m args below meth c A C hr hnm
  refine n_iload_n C dX0_restAt_0 1 rfl rfl ?_
  refine n_aload_n C dX0_restAt_1 0 rfl rfl ?_
  refine n_get (k9 := 1) C dX0_restAt_2 (by omega) k0 hX0_restAt_X0 rfl (by decide) kX0_restAt_21 rfl ?_
  refine n_getN (k9 := 1) C dX0_restAt_5 (by omega) g0 hX0_restAt_X2 rfl (by decide) kn_X0_28 rfl ?_
  refine n_icmp_ge C dX0_restAt_8 (by decide) (by omega) (by omega) (by omega) (by omega) (tgt := 22) (fun c1 => ?_) (fun c1 => ?_)
  · refine n_aload_n C dX0_restAt_22 0 rfl rfl ?_
    refine n_get (k9 := 1) C dX0_restAt_23 (by omega) k0 hX0_restAt_X0 rfl (by decide) kX0_restAt_21 rfl ?_
    refine n_getN (k9 := 1) C dX0_restAt_26 (by omega) g0 hX0_restAt_X2 rfl (by decide) kn_X0_28 rfl ?_
    refine n_iload_n C dX0_restAt_29 1 rfl rfl ?_
    refine n_isub C dX0_restAt_30 ?_
    refine n_aload_n C dX0_restAt_31 0 rfl rfl ?_
    refine n_get (k9 := 2) C dX0_restAt_32 (by omega) k0 hX0_restAt_X0 rfl (by decide) kX0_restAt_25 rfl ?_
    refine n_getN (k9 := 1) C dX0_restAt_35 (by omega) g3 hX0_restAt_X2 rfl (by decide) kn_X0_28 rfl ?_
    refine n_iadd C dX0_restAt_38 ?_
    refine n_iload_n C dX0_restAt_39 2 rfl rfl ?_
    refine n_isub C dX0_restAt_40 ?_
    exact n_iret C hr dX0_restAt_41 (⟨by rw [rs_end (Or.inl (by omega))]; congr 3; omega, rfl⟩)
  · refine n_iload_n C dX0_restAt_11 2 rfl rfl ?_
    refine n_aload_n C dX0_restAt_12 0 rfl rfl ?_
    refine n_get (k9 := 2) C dX0_restAt_13 (by omega) k0 hX0_restAt_X0 rfl (by decide) kX0_restAt_25 rfl ?_
    refine n_getN (k9 := 1) C dX0_restAt_16 (by omega) g3 hX0_restAt_X2 rfl (by decide) kn_X0_28 rfl ?_
    refine n_icmp_lt C dX0_restAt_19 (by decide) (by omega) (by omega) (by omega) (by omega) (tgt := 42) (fun c2 => ?_) (fun c2 => ?_)
    · refine n_aload_n C dX0_restAt_42 0 rfl rfl ?_
      refine n_iload_n C dX0_restAt_43 1 rfl rfl ?_
      refine n_iload_n C dX0_restAt_44 2 rfl rfl ?_
      refine n_callV (rest := []) C dX0_restAt_45 (TX0_isSame l hN hC r1 r2 ha hb (by omega) (by omega)) (cwV 2 C.2.2.2.2.1 gX0_restAt_X0_isSame rfl rfl rfl cdX0_isSame ⟨Nat.le_of_ble_eq_true rfl, Nat.le_of_ble_eq_true rfl⟩) (by omega) k0 rfl rfl rfl (Nat.le_of_ble_eq_true rfl) ⟨Nat.le_of_ble_eq_true rfl, Nat.le_of_ble_eq_true rfl⟩ ?_
      rintro _ _ ⟨rfl, rfl⟩
      refine n_pc (pc2 := 48) rfl (n_st (st2 := [.int (bI (sam xs ys i j))]) rfl ?_)
      obtain ⟨m1, m2, m3⟩ := hM (by omega) (by omega)
      refine n_if_eqB C dX0_restAt_48 (by decide) (tgt := 64) (fun c3 => ?_) (fun c3 => ?_)
      · refine n_iconst C dX0_restAt_64 ?_
        refine n_aload_n C dX0_restAt_65 0 rfl rfl ?_
        refine n_get (k9 := 0) C dX0_restAt_66 (by omega) k0 hX0_restAt_X0 rfl (by decide) kX0_restAt_11 rfl ?_
        refine n_iload_n C dX0_restAt_69 1 rfl rfl ?_
        refine n_iconst C dX0_restAt_70 ?_
        refine n_iadd C dX0_restAt_71 ?_
        refine n_aaldI (j := i + 1) (q := ad (18 + (i + 1))) C dX0_restAt_72 (by omega) k1 (by omega) (by omega) (by omega) (if_pos (by omega)) ?_
        refine n_iload_n C dX0_restAt_73 2 rfl rfl ?_
        refine n_iald (j := j) C dX0_restAt_74 (by omega) (k2 (i + 1) (by omega)) (by omega) (by omega) (by omega) ?_
        refine n_topI (y := (iI (rs xs ys (i + 1) j : Int))) (m2) ?_
        refine n_aload_n C dX0_restAt_75 0 rfl rfl ?_
        refine n_get (k9 := 0) C dX0_restAt_76 (by omega) k0 hX0_restAt_X0 rfl (by decide) kX0_restAt_11 rfl ?_
        refine n_iload_n C dX0_restAt_79 1 rfl rfl ?_
        refine n_aaldI (j := i) (q := ad (18 + i)) C dX0_restAt_80 (by omega) k1 (by omega) (by omega) (by omega) (if_pos (by omega)) ?_
        refine n_iload_n C dX0_restAt_81 2 rfl rfl ?_
        refine n_iconst C dX0_restAt_82 ?_
        refine n_iadd C dX0_restAt_83 ?_
        refine n_iald (j := j + 1) C dX0_restAt_84 (by omega) (k2 i (by omega)) (by omega) (by omega) (by omega) ?_
        refine n_topI (y := (iI (rs xs ys i (j + 1) : Int))) (m3) ?_
        refine n_mmin C dX0_restAt_85 (List.mem_of_getElem? (i := 4) rfl) (List.mem_of_getElem? (i := 5) rfl) (List.mem_of_getElem? (i := 6) rfl) (List.mem_of_getElem? (i := 7) rfl) (Nat.le_of_ble_eq_true rfl) (Nat.le_of_ble_eq_true rfl) (Nat.le_of_ble_eq_true rfl) (Nat.le_of_ble_eq_true rfl) (by omega) (by omega) (by omega) (by omega) ?_
        refine n_iadd C dX0_restAt_88 ?_
        obtain ⟨x9, hx9⟩ := some_of_lt (show i < xs.length by omega)
        obtain ⟨y9, hy9⟩ := some_of_lt (show j < ys.length by omega)
        rw [sam_of hx9 hy9] at c3
        exact n_iret C hr dX0_restAt_89 (⟨by rw [rs_diff hx9 hy9 (of_decide_eq_false c3)]; congr 3; omega, rfl⟩)
      · refine n_aload_n C dX0_restAt_51 0 rfl rfl ?_
        refine n_get (k9 := 0) C dX0_restAt_52 (by omega) k0 hX0_restAt_X0 rfl (by decide) kX0_restAt_11 rfl ?_
        refine n_iload_n C dX0_restAt_55 1 rfl rfl ?_
        refine n_iconst C dX0_restAt_56 ?_
        refine n_iadd C dX0_restAt_57 ?_
        refine n_aaldI (j := i + 1) (q := ad (18 + (i + 1))) C dX0_restAt_58 (by omega) k1 (by omega) (by omega) (by omega) (if_pos (by omega)) ?_
        refine n_iload_n C dX0_restAt_59 2 rfl rfl ?_
        refine n_iconst C dX0_restAt_60 ?_
        refine n_iadd C dX0_restAt_61 ?_
        refine n_iald (j := j + 1) C dX0_restAt_62 (by omega) (k2 (i + 1) (by omega)) (by omega) (by omega) (by omega) ?_
        refine n_topI (y := (iI (rs xs ys (i + 1) (j + 1) : Int))) (m1) ?_
        obtain ⟨x9, hx9⟩ := some_of_lt (show i < xs.length by omega)
        obtain ⟨y9, hy9⟩ := some_of_lt (show j < ys.length by omega)
        rw [sam_of hx9 hy9] at c3
        have c4 := of_decide_eq_true c3
        subst c4
        exact n_iret C hr dX0_restAt_63 (⟨by rw [rs_same hx9 hy9], rfl⟩)
    · refine n_aload_n C dX0_restAt_22 0 rfl rfl ?_
      refine n_get (k9 := 1) C dX0_restAt_23 (by omega) k0 hX0_restAt_X0 rfl (by decide) kX0_restAt_21 rfl ?_
      refine n_getN (k9 := 1) C dX0_restAt_26 (by omega) g0 hX0_restAt_X2 rfl (by decide) kn_X0_28 rfl ?_
      refine n_iload_n C dX0_restAt_29 1 rfl rfl ?_
      refine n_isub C dX0_restAt_30 ?_
      refine n_aload_n C dX0_restAt_31 0 rfl rfl ?_
      refine n_get (k9 := 2) C dX0_restAt_32 (by omega) k0 hX0_restAt_X0 rfl (by decide) kX0_restAt_25 rfl ?_
      refine n_getN (k9 := 1) C dX0_restAt_35 (by omega) g3 hX0_restAt_X2 rfl (by decide) kn_X0_28 rfl ?_
      refine n_iadd C dX0_restAt_38 ?_
      refine n_iload_n C dX0_restAt_39 2 rfl rfl ?_
      refine n_isub C dX0_restAt_40 ?_
      exact n_iret C hr dX0_restAt_41 (⟨by rw [rs_end (Or.inr (by omega))]; congr 3; omega, rfl⟩)

def okM (M : Nat → Nat → Int32) (xs ys : List Int32) : Prop := ∀ i j, i ≤ xs.length → j ≤ ys.length → M i j = iI (rs xs ys i j : Int)
def pX0_compare (G : GG) (ad : Nat → Nat) (ev : Nat → va_E) (qa qb : Nat) (xs ys : List Int32) : Option Value → (Nat → va_E) → Prop := fun v e2 => v = none ∧ (∃ M, CmpAt G ad e2 qa qb M ∧ okM M xs ys) ∧ Fr e2 ev (fun j => 16 ≤ j ∧ j < 39)

set_option maxHeartbeats 4000000 in
set_option maxRecDepth 100000 in
theorem TX0_compare (l : Launch) {G : GG} {N : Nat} {ad : Nat → Nat} {ev : Nat → va_E} {qa qb qa0 qb0 : Nat} {M : Nat → Nat → Int32} {xs ys : List Int32} (hN : 53 ≤ N) (hC : CmpAt G ad ev qa0 qb0 M) (r1 : RowAt G ad ev qa xs 20) (r2 : RowAt G ad ev qb ys 20) (ha : qa + 1 < 16) (hb : qb + 1 < 16) : Ct l yX0_compare wsX0_compare rmX0_compare [.ref (ad 16), .ref (ad qa), .ref (ad qb)] G N ad ev 0 0 (pX0_compare G ad ev qa qb xs ys) := by
  have hl1 := r1.le
  have hl2 := r2.le
  obtain ⟨k0, k1, k2⟩ := id hC
  obtain ⟨f0, g0, g1, g2, -⟩ := id r1
  obtain ⟨f3, g3, g4, g5, -⟩ := id r2
  refine Ct_of (cc := cX0_compare) (maxL := 5) (ret := none) (lv := [(0, .ref (ad 16)), (1, .ref (ad qa)), (2, .ref (ad qb))]) (by decide) rfl (Nat.le_of_ble_eq_true rfl) rfl ?_
  intro p E s m args below meth c A C hr hnm
  refine n_aload_n C dX0_compare_0 0 rfl rfl ?_
  refine n_aload_n C dX0_compare_1 1 rfl rfl ?_
  refine n_put (k9 := 1) (fs2 := [.ref (ad 17), .ref (ad qa), .ref (ad qb0)]) C dX0_compare_2 (by omega) k0 hX0_compare_X0 tyX0_ok nmX0 rfl (by decide) kX0_compare_21 rfl rfl rfl (Nat.le_of_ble_eq_true rfl) rfl (fun e1 hs2 ho3 => ?_)
  have h4 := (ho3 qa (by omega)).trans g0
  have h5 := (ho3 (qa + 1) (by omega)).trans g1
  refine n_aload_n C dX0_compare_5 0 rfl rfl ?_
  refine n_aload_n C dX0_compare_6 2 rfl rfl ?_
  refine n_put (k9 := 2) (fs2 := [.ref (ad 17), .ref (ad qa), .ref (ad qb)]) C dX0_compare_7 (by omega) hs2 hX0_compare_X0 tyX0_ok nmX0 rfl (by decide) kX0_compare_25 rfl rfl rfl (Nat.le_of_ble_eq_true rfl) rfl (fun e6 hs7 ho8 => ?_)
  have h9 := (ho8 qa (by omega)).trans h4
  have h10 := (ho8 (qa + 1) (by omega)).trans h5
  refine n_aload_n C dX0_compare_10 0 rfl rfl ?_
  refine n_get (k9 := 1) C dX0_compare_11 (by omega) hs7 hX0_compare_X0 rfl (by decide) kX0_compare_21 rfl ?_
  refine n_getN (k9 := 1) C dX0_compare_14 (by omega) h9 hX0_compare_X2 rfl (by decide) kn_X0_28 rfl ?_
  refine n_istore_n (lv' := [(0, .ref (ad 16)), (1, .ref (ad qa)), (2, .ref (ad qb)), (3, .int (iI (xs.length : Int)))]) C dX0_compare_17 rfl (by decide) rfl ?_
  have hCa : CmpAt G ad e6 qa qb M := ⟨hs7, (ho8 17 (by omega)).trans ((ho3 17 (by omega)).trans k1), fun i hi => (ho8 _ (by omega)).trans ((ho3 _ (by omega)).trans (k2 i hi))⟩
  have hFa : Fr e6 ev (fun j => 16 ≤ j ∧ j < 39) := fun j hj => (ho8 j (by omega)).trans (ho3 j (by omega))
  have ra1 := r1.fr hFa (by omega) (by omega)
  have ra2 := r2.fr hFa (by omega) (by omega)
  have loop : ∀ (n9 : Nat) (t : Nat) (ex : Nat → va_E) (M : Nat → Nat → Int32), t < n9 → (t ≤ xs.length + 1) → (CmpAt G ad ex qa qb M) → (RowAt G ad ex qa xs 20) → (RowAt G ad ex qb ys 20) → (Fr ex ev (fun j => 16 ≤ j ∧ j < 39)) → (∀ i j, t ≤ i → i ≤ xs.length → j ≤ ys.length → M i j = iI (rs xs ys i j : Int)) → V p l E rmX0_compare s m args below meth c G A 5 (MQ below (Qg G N ad A (pX0_compare G ad ev qa qb xs ys)) args s 0 0 A) N ad ex 0 0 18 [(0, .ref (ad 16)), (1, .ref (ad qa)), (2, .ref (ad qb)), (3, .int (iI ((t : Int) - 1)))] [] := by
    intro n9
    induction n9 with
    | zero =>
      intro t ex M hm9
      exact absurd hm9 (Nat.not_lt_zero _)
    | succ n9 ih =>
      intro t ex M hm9 ht hc p1 p2 hF hok
      refine n_iload_n C dX0_compare_18 3 rfl rfl ?_
      refine n_if_lt C dX0_compare_19 (by decide) (by omega) (by omega) (tgt := 64) (fun c1 => ?_) (fun c1 => ?_)
      · exact n_vret C hr dX0_compare_64 (⟨rfl, ⟨M, hc, fun i j hi hj => hok i j (by omega) hi hj⟩, hF⟩)
      · obtain ⟨k0, k1, k2⟩ := id hc
        obtain ⟨f0, g0, g1, g2, -⟩ := id p1
        obtain ⟨f3, g3, g4, g5, -⟩ := id p2
        obtain ⟨i, rfl⟩ : ∃ i, t = i + 1 := ⟨t - 1, by omega⟩
        refine n_lv (lv2 := [(0, .ref (ad 16)), (1, .ref (ad qa)), (2, .ref (ad qb)), (3, .int (iI (i : Int)))]) (by simp) ?_
        refine n_aload_n C dX0_compare_22 0 rfl rfl ?_
        refine n_get (k9 := 2) C dX0_compare_23 (by omega) k0 hX0_compare_X0 rfl (by decide) kX0_compare_25 rfl ?_
        refine n_getN (k9 := 1) C dX0_compare_26 (by omega) g3 hX0_compare_X2 rfl (by decide) kn_X0_28 rfl ?_
        refine n_istore (lv' := [(0, .ref (ad 16)), (1, .ref (ad qa)), (2, .ref (ad qb)), (3, .int (iI (i : Int))), (4, .int (iI (ys.length : Int)))]) C dX0_compare_29 (by decide) rfl ?_
        have loop2 : ∀ (n9 : Nat) (u : Nat) (ey : Nat → va_E) (M : Nat → Nat → Int32), u < n9 → (u ≤ ys.length + 1) → (CmpAt G ad ey qa qb M) → (RowAt G ad ey qa xs 20) → (RowAt G ad ey qb ys 20) → (Fr ey ev (fun j => 16 ≤ j ∧ j < 39)) → (∀ i9 j, i + 1 ≤ i9 → i9 ≤ xs.length → j ≤ ys.length → M i9 j = iI (rs xs ys i9 j : Int)) → (∀ j, u ≤ j → j ≤ ys.length → M i j = iI (rs xs ys i j : Int)) → V p l E rmX0_compare s m args below meth c G A 5 (MQ below (Qg G N ad A (pX0_compare G ad ev qa qb xs ys)) args s 0 0 A) N ad ey 0 0 31 [(0, .ref (ad 16)), (1, .ref (ad qa)), (2, .ref (ad qb)), (3, .int (iI (i : Int))), (4, .int (iI ((u : Int) - 1)))] [] := by
          intro n9
          induction n9 with
          | zero =>
            intro u ey M hm9
            exact absurd hm9 (Nat.not_lt_zero _)
          | succ n9 ih2 =>
            intro u ey M hm9 hu hc p1 p2 hF hok hok2
            refine n_iload C dX0_compare_31 4 rfl ?_
            refine n_if_lt C dX0_compare_33 (by decide) (by omega) (by omega) (tgt := 58) (fun c2 => ?_) (fun c2 => ?_)
            · refine n_iinc (lv' := [(0, .ref (ad 16)), (1, .ref (ad qa)), (2, .ref (ad qb)), (3, .int (iI ((i : Int) + (-1)))), (4, .int (iI ((u : Int) - 1)))]) C dX0_compare_58 3 rfl (by decide) rfl ?_
              refine n_goto (tgt := 18) C dX0_compare_61 (by decide) ?_
              refine n_sub (lv2 := [(0, .ref (ad 16)), (1, .ref (ad qa)), (2, .ref (ad qb)), (3, .int (iI ((i : Int) + (-1))))]) [0, 1, 2, 3] rfl ?_
              exact ih i ey M (by omega) (by omega) hc p1 p2 hF (fun i9 j h1 h2 h3 => by
                rcases Nat.lt_or_ge i i9 with q | q
                · exact hok i9 j q h2 h3
                · rw [show i9 = i by omega]; exact hok2 j (by omega) h3)
            · obtain ⟨k0, k1, k2⟩ := id hc
              obtain ⟨f0, g0, g1, g2, -⟩ := id p1
              obtain ⟨f3, g3, g4, g5, -⟩ := id p2
              obtain ⟨j, rfl⟩ : ∃ j, u = j + 1 := ⟨u - 1, by omega⟩
              refine n_lv (lv2 := [(0, .ref (ad 16)), (1, .ref (ad qa)), (2, .ref (ad qb)), (3, .int (iI (i : Int))), (4, .int (iI (j : Int)))]) (by simp) ?_
              refine n_aload_n C dX0_compare_36 0 rfl rfl ?_
              refine n_get (k9 := 0) C dX0_compare_37 (by omega) k0 hX0_compare_X0 rfl (by decide) kX0_compare_11 rfl ?_
              refine n_iload_n C dX0_compare_40 3 rfl rfl ?_
              refine n_aaldI (j := i) (q := ad (18 + i)) C dX0_compare_41 (by omega) k1 (by omega) (by omega) (by omega) (if_pos (by omega)) ?_
              refine n_iload C dX0_compare_42 4 rfl ?_
              refine n_aload_n C dX0_compare_44 0 rfl rfl ?_
              refine n_iload_n C dX0_compare_45 3 rfl rfl ?_
              refine n_iload C dX0_compare_46 4 rfl ?_
              refine n_callV (rest := [.int (iI (j : Int)), .ref (ad (18 + i))]) C dX0_compare_48 (TX0_restAt l hN hc p1 p2 ha hb (by omega) (by omega) (fun h1 h2 => ⟨hok _ _ (by omega) (by omega) (by omega), hok _ _ (by omega) (by omega) (by omega), hok2 _ (by omega) (by omega)⟩)) (cwV 2 C.2.2.2.2.1 gX0_compare_X0_restAt rfl rfl rfl cdX0_restAt ⟨Nat.le_of_ble_eq_true rfl, Nat.le_of_ble_eq_true rfl⟩) (by omega) k0 rfl rfl rfl (Nat.le_of_ble_eq_true rfl) ⟨Nat.le_of_ble_eq_true rfl, Nat.le_of_ble_eq_true rfl⟩ ?_
              rintro _ _ ⟨rfl, rfl⟩
              refine n_pc (pc2 := 51) rfl (n_st (st2 := [.int (iI (rs xs ys i j : Int)), .int (iI (j : Int)), .ref (ad (18 + i))]) rfl ?_)
              refine n_iast (j := j) C dX0_compare_51 (by omega) (k2 i (by omega)) (by omega) (by omega) (by omega) (fun e11 hs12 ho13 => ?_)
              refine n_iinc (lv' := [(0, .ref (ad 16)), (1, .ref (ad qa)), (2, .ref (ad qb)), (3, .int (iI (i : Int))), (4, .int (iI ((j : Int) + (-1))))]) C dX0_compare_52 4 rfl (by decide) rfl ?_
              refine n_goto (tgt := 31) C dX0_compare_55 (by decide) ?_
              have hc2 := hc.set (by omega) hs12 ho13
              have hF2 : Fr e11 ev (fun j => 16 ≤ j ∧ j < 39) := fun k hk => (ho13 k (by omega)).trans (hF k hk)
              refine n_lv (lv2 := [(0, .ref (ad 16)), (1, .ref (ad qa)), (2, .ref (ad qb)), (3, .int (iI (i : Int))), (4, .int (iI ((j : Int) - 1)))]) rfl ?_
              exact ih2 j e11 _ (by omega) (by omega) hc2 (r1.fr hF2 (by omega) (by omega)) (r2.fr hF2 (by omega) (by omega)) hF2 (fun i9 j9 h1 h2 h3 => by rw [upM_ne (Or.inl (by omega))]; exact hok i9 j9 h1 h2 h3) (fun j9 h1 h2 => by
                rcases Nat.lt_or_ge j j9 with q | q
                · rw [upM_ne (Or.inr (by omega))]; exact hok2 j9 q h2
                · rw [show j9 = j by omega, upM_self])
        refine n_lv (lv2 := [(0, .ref (ad 16)), (1, .ref (ad qa)), (2, .ref (ad qb)), (3, .int (iI (i : Int))), (4, .int (iI (((ys.length + 1 : Nat) : Int) - 1)))]) (by simp) ?_
        exact loop2 _ (ys.length + 1) ex M (Nat.lt_succ_self _) (Nat.le_refl _) hc p1 p2 hF hok (fun j h1 h2 => absurd h1 (by omega))
  refine n_lv (lv2 := [(0, .ref (ad 16)), (1, .ref (ad qa)), (2, .ref (ad qb)), (3, .int (iI (((xs.length + 1 : Nat) : Int) - 1)))]) (by simp) ?_
  exact loop _ (xs.length + 1) e6 M (Nat.lt_succ_self _) (Nat.le_refl _) hCa ra1 ra2 hFa (fun i j h1 h2 h3 => absurd h1 (by omega))

def pX0_operations (ev : Nat → va_E) (xs ys : List Int32) : Option Value → (Nat → va_E) → Prop := fun v e2 => v = some (.int (iI (rs xs ys 0 0 : Int))) ∧ ev = e2

set_option maxHeartbeats 4000000 in
set_option maxRecDepth 100000 in
theorem TX0_operations (l : Launch) {G : GG} {N : Nat} {ad : Nat → Nat} {ev : Nat → va_E} {qa qb : Nat} {M : Nat → Nat → Int32} {xs ys : List Int32} (hN : 53 ≤ N) (hC : CmpAt G ad ev qa qb M) (hok : okM M xs ys) : Ct l yX0_operations wsX0_operations rmX0_operations [.ref (ad 16)] G N ad ev 0 0 (pX0_operations ev xs ys) := by
  obtain ⟨k0, k1, k2⟩ := id hC
  refine Ct_of (cc := cX0_operations) (maxL := 1) (ret := some .int) (lv := [(0, .ref (ad 16))]) (by decide) rfl (Nat.le_of_ble_eq_true rfl) rfl ?_
  intro p E s m args below meth c A C hr hnm
  refine n_aload_n C dX0_operations_0 0 rfl rfl ?_
  refine n_get (k9 := 0) C dX0_operations_1 (by omega) k0 hX0_operations_X0 rfl (by decide) kX0_operations_11 rfl ?_
  refine n_iconst C dX0_operations_4 ?_
  refine n_aaldI (j := 0) (q := ad (18 + 0)) C dX0_operations_5 (by omega) k1 (by omega) (by omega) (by omega) (if_pos (by omega)) ?_
  refine n_iconst C dX0_operations_6 ?_
  refine n_iald (j := 0) C dX0_operations_7 (by omega) (k2 0 (by omega)) (by omega) (by omega) (by omega) ?_
  refine n_topI (y := (iI (rs xs ys 0 0 : Int))) (hok 0 0 (by omega) (by omega)) ?_
  exact n_iret C hr dX0_operations_8 (⟨rfl, rfl⟩)

def pX0_stepAt (ev : Nat → va_E) (xs ys : List Int32) (i j : Nat) : Option Value → (Nat → va_E) → Prop := fun v e2 => v = some (.int (iI (stp xs ys i j))) ∧ ev = e2

set_option maxHeartbeats 4000000 in
set_option maxRecDepth 100000 in
theorem TX0_stepAt (l : Launch) {G : GG} {N : Nat} {ad : Nat → Nat} {ev : Nat → va_E} {qa qb i j : Nat} {M : Nat → Nat → Int32} {xs ys : List Int32} (hN : 53 ≤ N) (hC : CmpAt G ad ev qa qb M) (r1 : RowAt G ad ev qa xs 20) (r2 : RowAt G ad ev qb ys 20) (ha : qa + 1 < 16) (hb : qb + 1 < 16) (hok : okM M xs ys) (hi : i ≤ xs.length) (hj : j ≤ ys.length) : Ct l yX0_stepAt wsX0_stepAt rmX0_stepAt [.ref (ad 16), .int (iI (i : Int)), .int (iI (j : Int))] G N ad ev 0 0 (pX0_stepAt ev xs ys i j) := by
  have hl1 := r1.le
  have hl2 := r2.le
  obtain ⟨k0, k1, k2⟩ := id hC
  obtain ⟨f0, g0, g1, g2, -⟩ := id r1
  obtain ⟨f3, g3, g4, g5, -⟩ := id r2
  have q2 := rs_le xs ys (i + 1) j
  have q3 := rs_le xs ys i j
  refine Ct_of (cc := cX0_stepAt) (maxL := 3) (ret := some .int) (lv := [(0, .ref (ad 16)), (1, .int (iI (i : Int))), (2, .int (iI (j : Int)))]) (by decide) rfl (Nat.le_of_ble_eq_true rfl) rfl ?_
  intro p E s m args below meth c A C hr hnm
  refine n_aload_n C dX0_stepAt_0 0 rfl rfl ?_
  refine n_iload_n C dX0_stepAt_1 1 rfl rfl ?_
  refine n_iload_n C dX0_stepAt_2 2 rfl rfl ?_
  refine n_callV (rest := []) C dX0_stepAt_3 (TX0_isSame l hN hC r1 r2 ha hb (by omega) (by omega)) (cwV 2 C.2.2.2.2.1 gX0_stepAt_X0_isSame rfl rfl rfl cdX0_isSame ⟨Nat.le_of_ble_eq_true rfl, Nat.le_of_ble_eq_true rfl⟩) (by omega) k0 rfl rfl rfl (Nat.le_of_ble_eq_true rfl) ⟨Nat.le_of_ble_eq_true rfl, Nat.le_of_ble_eq_true rfl⟩ ?_
  rintro _ _ ⟨rfl, rfl⟩
  refine n_pc (pc2 := 6) rfl (n_st (st2 := [.int (bI (sam xs ys i j))]) rfl ?_)
  refine n_if_eqB C dX0_stepAt_6 (by decide) (tgt := 11) (fun c1 => ?_) (fun c1 => ?_)
  · refine n_iload_n C dX0_stepAt_11 1 rfl rfl ?_
    refine n_aload_n C dX0_stepAt_12 0 rfl rfl ?_
    refine n_get (k9 := 1) C dX0_stepAt_13 (by omega) k0 hX0_stepAt_X0 rfl (by decide) kX0_stepAt_21 rfl ?_
    refine n_getN (k9 := 1) C dX0_stepAt_16 (by omega) g0 hX0_stepAt_X2 rfl (by decide) kn_X0_28 rfl ?_
    refine n_icmp_ge C dX0_stepAt_19 (by decide) (by omega) (by omega) (by omega) (by omega) (tgt := 47) (fun c2 => ?_) (fun c2 => ?_)
    · refine n_iconst C dX0_stepAt_47 ?_
      exact n_iret C hr dX0_stepAt_48 (⟨by unfold stp; rw [c1, if_neg (by decide), if_neg (by omega)], rfl⟩)
    · refine n_aload_n C dX0_stepAt_22 0 rfl rfl ?_
      refine n_get (k9 := 0) C dX0_stepAt_23 (by omega) k0 hX0_stepAt_X0 rfl (by decide) kX0_stepAt_11 rfl ?_
      refine n_iload_n C dX0_stepAt_26 1 rfl rfl ?_
      refine n_iconst C dX0_stepAt_27 ?_
      refine n_iadd C dX0_stepAt_28 ?_
      refine n_aaldI (j := i + 1) (q := ad (18 + (i + 1))) C dX0_stepAt_29 (by omega) k1 (by omega) (by omega) (by omega) (if_pos (by omega)) ?_
      refine n_iload_n C dX0_stepAt_30 2 rfl rfl ?_
      refine n_iald (j := j) C dX0_stepAt_31 (by omega) (k2 (i + 1) (by omega)) (by omega) (by omega) (by omega) ?_
      refine n_topI (y := (iI (rs xs ys (i + 1) j : Int))) (hok _ _ (by omega) (by omega)) ?_
      refine n_aload_n C dX0_stepAt_32 0 rfl rfl ?_
      refine n_get (k9 := 0) C dX0_stepAt_33 (by omega) k0 hX0_stepAt_X0 rfl (by decide) kX0_stepAt_11 rfl ?_
      refine n_iload_n C dX0_stepAt_36 1 rfl rfl ?_
      refine n_aaldI (j := i) (q := ad (18 + i)) C dX0_stepAt_37 (by omega) k1 (by omega) (by omega) (by omega) (if_pos (by omega)) ?_
      refine n_iload_n C dX0_stepAt_38 2 rfl rfl ?_
      refine n_iald (j := j) C dX0_stepAt_39 (by omega) (k2 i (by omega)) (by omega) (by omega) (by omega) ?_
      refine n_topI (y := (iI (rs xs ys i j : Int))) (hok _ _ (by omega) (by omega)) ?_
      refine n_icmp_ge C dX0_stepAt_40 (by decide) (by omega) (by omega) (by omega) (by omega) (tgt := 47) (fun c3 => ?_) (fun c3 => ?_)
      · refine n_iconst C dX0_stepAt_47 ?_
        exact n_iret C hr dX0_stepAt_48 (⟨by unfold stp; rw [c1, if_neg (by decide), if_neg (by omega)], rfl⟩)
      · refine n_iconst C dX0_stepAt_43 ?_
        refine n_goto (tgt := 48) C dX0_stepAt_44 (by decide) ?_
        exact n_iret C hr dX0_stepAt_48 (⟨by unfold stp; rw [c1, if_neg (by decide), if_pos ⟨by omega, by omega⟩], rfl⟩)
  · refine n_iconst C dX0_stepAt_9 ?_
    exact n_iret C hr dX0_stepAt_10 (⟨by unfold stp; rw [c1, if_pos rfl], rfl⟩)
end
section
def pX0_writeTo (G : GG) (ad : Nat → Nat) (ev : Nat → va_E) (k : Nat) (xs ys : List Int32) : Option Value → (Nat → va_E) → Prop := fun v e2 => v = none ∧ ScrAt G ad e2 k ((sc xs ys 0 0).map encO) ∧ Fr e2 ev (fun j => j = k ∨ j = k + 1 ∨ j = k + 2 ∨ j = k + 3)

set_option maxHeartbeats 4000000 in
set_option maxRecDepth 100000 in
theorem TX0_writeTo (l : Launch) {G : GG} {N : Nat} {ad : Nat → Nat} {ev : Nat → va_E} {qa qb k : Nat} {M : Nat → Nat → Int32} {xs ys : List Int32} {ops : List Tr} (hN : 53 ≤ N) (hC : CmpAt G ad ev qa qb M) (r1 : RowAt G ad ev qa xs 20) (r2 : RowAt G ad ev qb ys 20) (ha : qa + 1 < 8) (hb : qb + 1 < 8) (hok : okM M xs ys) (hk : 8 ≤ k) (hk2 : k + 3 < 16) (hR : ScrAt G ad ev k ops) : Ct l yX0_writeTo wsX0_writeTo rmX0_writeTo [.ref (ad 16), .ref (ad k)] G N ad ev 0 0 (pX0_writeTo G ad ev k xs ys) := by
  have hl1 := r1.le
  have hl2 := r2.le
  obtain ⟨k0, k1, k2⟩ := id hC
  obtain ⟨f0, g0, g1, g2, -⟩ := id r1
  obtain ⟨f3, g3, g4, g5, -⟩ := id r2
  obtain ⟨fk, fp, fs, h0, h1, h2, h3, hf, hlc⟩ := id hR
  have hlen := (sc_facts xs ys _ 0 0 (Nat.zero_le _) (Nat.zero_le _) (Nat.le_refl _)).1
  refine Ct_of (cc := cX0_writeTo) (maxL := 5) (ret := none) (lv := [(0, .ref (ad 16)), (1, .ref (ad k))]) (by decide) rfl (Nat.le_of_ble_eq_true rfl) rfl ?_
  intro p E s m args below meth c A C hr hnm
  refine n_aload_n C dX0_writeTo_0 1 rfl rfl ?_
  refine n_callV (rest := []) C dX0_writeTo_1 (TX3_empty l (i := k) (by omega) hR) (cwV 0 C.2.2.2.2.1 gX0_writeTo_X3_empty rfl rfl rfl cdX3_empty ⟨Nat.le_of_ble_eq_true rfl, Nat.le_of_ble_eq_true rfl⟩) (by omega) h0 rfl rfl rfl (Nat.le_of_ble_eq_true rfl) ⟨Nat.le_of_ble_eq_true rfl, Nat.le_of_ble_eq_true rfl⟩ ?_
  rintro _ ea ⟨rfl, s1, hFa⟩
  refine n_pc (pc2 := 4) rfl (n_st (st2 := []) rfl ?_)
  refine n_iconst C dX0_writeTo_4 ?_
  refine n_istore_n (lv' := [(0, .ref (ad 16)), (1, .ref (ad k)), (2, .int (iI 0))]) C dX0_writeTo_5 rfl (by decide) rfl ?_
  refine n_iconst C dX0_writeTo_6 ?_
  refine n_istore_n (lv' := [(0, .ref (ad 16)), (1, .ref (ad k)), (2, .int (iI 0)), (3, .int (iI 0))]) C dX0_writeTo_7 rfl (by decide) rfl ?_
  have loop : ∀ (n9 : Nat) (i j : Nat) (pre : List Op) (ex : Nat → va_E), xs.length + ys.length + 1 - (i + j) < n9 → (i ≤ xs.length) → (j ≤ ys.length) → (ScrAt G ad ex k (pre.map encO)) → (pre ++ sc xs ys i j = sc xs ys 0 0) → (Fr ex ev (fun j => j = k ∨ j = k + 1 ∨ j = k + 2 ∨ j = k + 3)) → V p l E rmX0_writeTo s m args below meth c G A 5 (MQ below (Qg G N ad A (pX0_writeTo G ad ev k xs ys)) args s 0 0 A) N ad ex 0 0 8 [(0, .ref (ad 16)), (1, .ref (ad k)), (2, .int (iI (i : Int))), (3, .int (iI (j : Int)))] [] := by
    intro n9
    induction n9 with
    | zero =>
      intro i j pre ex hm9
      exact absurd hm9 (Nat.not_lt_zero _)
    | succ n9 ih =>
      intro i j pre ex hm9 hi hj s1 hpre hF
      have hc := hC.fr hF (fun j h1 h2 => by omega)
      have p1 := r1.fr hF (by omega) (by omega)
      have p2 := r2.fr hF (by omega) (by omega)
      obtain ⟨k0, k1, k2⟩ := id hc
      obtain ⟨f0, g0, g1, g2, -⟩ := id p1
      obtain ⟨f3, g3, g4, g5, -⟩ := id p2
      obtain ⟨fk, fp, fs, h0, h1, h2, h3, hf, hlc⟩ := id s1
      refine n_iload_n C dX0_writeTo_8 2 rfl rfl ?_
      refine n_iload_n C dX0_writeTo_9 3 rfl rfl ?_
      refine n_iadd C dX0_writeTo_10 ?_
      refine n_aload_n C dX0_writeTo_11 0 rfl rfl ?_
      refine n_get (k9 := 1) C dX0_writeTo_12 (by omega) k0 hX0_writeTo_X0 rfl (by decide) kX0_writeTo_21 rfl ?_
      refine n_getN (k9 := 1) C dX0_writeTo_15 (by omega) g0 hX0_writeTo_X2 rfl (by decide) kn_X0_28 rfl ?_
      refine n_aload_n C dX0_writeTo_18 0 rfl rfl ?_
      refine n_get (k9 := 2) C dX0_writeTo_19 (by omega) k0 hX0_writeTo_X0 rfl (by decide) kX0_writeTo_25 rfl ?_
      refine n_getN (k9 := 1) C dX0_writeTo_22 (by omega) g3 hX0_writeTo_X2 rfl (by decide) kn_X0_28 rfl ?_
      refine n_iadd C dX0_writeTo_25 ?_
      refine n_icmp_ge C dX0_writeTo_26 (by decide) (by omega) (by omega) (by omega) (by omega) (tgt := 113) (fun c1 => ?_) (fun c1 => ?_)
      · rw [sc_end (by omega), List.append_nil] at hpre
        exact n_vret C hr dX0_writeTo_113 (⟨rfl, by rw [← hpre]; exact s1, hF⟩)
      · have hij : i + j < xs.length + ys.length := by omega
        refine n_aload_n C dX0_writeTo_29 0 rfl rfl ?_
        refine n_iload_n C dX0_writeTo_30 2 rfl rfl ?_
        refine n_iload_n C dX0_writeTo_31 3 rfl rfl ?_
        refine n_callV (rest := []) C dX0_writeTo_32 (TX0_stepAt l hN hc p1 p2 (by omega) (by omega) hok hi hj) (cwV 2 C.2.2.2.2.1 gX0_writeTo_X0_stepAt rfl rfl rfl cdX0_stepAt ⟨Nat.le_of_ble_eq_true rfl, Nat.le_of_ble_eq_true rfl⟩) (by omega) k0 rfl rfl rfl (Nat.le_of_ble_eq_true rfl) ⟨Nat.le_of_ble_eq_true rfl, Nat.le_of_ble_eq_true rfl⟩ ?_
        rintro _ _ ⟨rfl, rfl⟩
        refine n_pc (pc2 := 35) rfl (n_st (st2 := [.int (iI (stp xs ys i j))]) rfl ?_)
        rcases stp_3 xs ys i j with hs | hs | hs
        · have hi2 := stp_del hs
          obtain ⟨x9, hx9⟩ := some_of_lt hi2
          rw [sc_0 hi hj hij hs hx9] at hpre
          have hl9 := congrArg List.length hpre
          simp only [List.length_append, List.length_cons] at hl9
          refine n_topI (y := (iI 0)) (by rw [hs]) ?_
          refine n_istore (lv' := [(0, .ref (ad 16)), (1, .ref (ad k)), (2, .int (iI (i : Int))), (3, .int (iI (j : Int))), (4, .int (iI 0))]) C dX0_writeTo_35 (by decide) rfl ?_
          refine n_iload C dX0_writeTo_37 4 rfl ?_
          refine n_if_ne C dX0_writeTo_39 (by decide) (by omega) (by omega) (tgt := 61) (fun c9 => absurd c9 (by omega)) (fun _ => ?_)
          refine n_aload_n C dX0_writeTo_42 1 rfl rfl ?_
          refine n_iconst C dX0_writeTo_43 ?_
          refine n_iload_n C dX0_writeTo_44 2 rfl rfl ?_
          refine n_aload_n C dX0_writeTo_45 0 rfl rfl ?_
          refine n_get (k9 := 1) C dX0_writeTo_46 (by omega) k0 hX0_writeTo_X0 rfl (by decide) kX0_writeTo_21 rfl ?_
          refine n_iload_n C dX0_writeTo_49 2 rfl rfl ?_
          refine n_iconst C dX0_writeTo_50 ?_
          refine n_callV (rest := [.int (iI (i : Int)), .int (iI 0), .ref (ad k)]) C dX0_writeTo_51 (TX2_at l (by omega) p1 (by omega) (by omega)) (cwV 2 C.2.2.2.2.1 gX0_writeTo_X2_at rfl rfl rfl cdX2_at ⟨Nat.le_of_ble_eq_true rfl, Nat.le_of_ble_eq_true rfl⟩) (by omega) g0 rfl rfl rfl (Nat.le_of_ble_eq_true rfl) ⟨Nat.le_of_ble_eq_true rfl, Nat.le_of_ble_eq_true rfl⟩ ?_
          rintro _ _ ⟨rfl, rfl⟩
          refine n_pc (pc2 := 54) rfl (n_st (st2 := [.int (atD xs (i : Int) (iI (-1))), .int (iI (i : Int)), .int (iI 0), .ref (ad k)]) rfl ?_)
          refine n_topI (y := x9) (atD_in rfl hi2 hx9) ?_
          refine n_callV (rest := []) C dX0_writeTo_54 (TX3_add l (i := k) (by omega) s1 (x := iI 0) (y := iI (i : Int)) (z := x9)) (cwV 3 C.2.2.2.2.1 gX0_writeTo_X3_add rfl rfl rfl cdX3_add ⟨Nat.le_of_ble_eq_true rfl, Nat.le_of_ble_eq_true rfl⟩) (by omega) h0 rfl rfl rfl (Nat.le_of_ble_eq_true rfl) ⟨Nat.le_of_ble_eq_true rfl, Nat.le_of_ble_eq_true rfl⟩ ?_
          rintro _ e2 ⟨rfl, s2, hF2⟩
          refine n_pc (pc2 := 57) rfl (n_st (st2 := [.int (bI (decide ((pre.map encO).length < 60)))]) rfl ?_)
          rw [if_pos (by rw [List.length_map]; omega)] at s2
          refine n_pop C dX0_writeTo_57 rfl ?_
          refine n_goto (tgt := 83) C dX0_writeTo_58 (by decide) ?_
          refine n_iload_n C dX0_writeTo_83 2 rfl rfl ?_
          refine n_iload C dX0_writeTo_84 4 rfl ?_
          refine n_iconst C dX0_writeTo_86 ?_
          refine n_icmp_ne C dX0_writeTo_87 (by decide) (by omega) (by omega) (by omega) (by omega) (tgt := 94) (fun _ => ?_) (fun c9 => absurd c9 (by omega))
          refine n_iconst C dX0_writeTo_94 ?_
          refine n_iadd C dX0_writeTo_95 ?_
          refine n_istore_n (lv' := [(0, .ref (ad 16)), (1, .ref (ad k)), (2, .int (iI ((i : Int) + 1))), (3, .int (iI (j : Int))), (4, .int (iI 0))]) C dX0_writeTo_96 rfl (by decide) rfl ?_
          refine n_iload_n C dX0_writeTo_97 3 rfl rfl ?_
          refine n_iload C dX0_writeTo_98 4 rfl ?_
          refine n_if_ne C dX0_writeTo_100 (by decide) (by omega) (by omega) (tgt := 107) (fun c9 => absurd c9 (by omega)) (fun _ => ?_)
          refine n_iconst C dX0_writeTo_103 ?_
          refine n_goto (tgt := 108) C dX0_writeTo_104 (by decide) ?_
          refine n_iadd C dX0_writeTo_108 ?_
          refine n_istore_n (lv' := [(0, .ref (ad 16)), (1, .ref (ad k)), (2, .int (iI ((i : Int) + 1))), (3, .int (iI ((j : Int) + 0))), (4, .int (iI 0))]) C dX0_writeTo_109 rfl (by decide) rfl ?_
          refine n_goto (tgt := 8) C dX0_writeTo_110 (by decide) ?_
          refine n_sub (lv2 := [(0, .ref (ad 16)), (1, .ref (ad k)), (2, .int (iI ((i : Int) + 1))), (3, .int (iI ((j : Int) + 0)))]) [0, 1, 2, 3] rfl ?_
          refine n_lv (lv2 := [(0, .ref (ad 16)), (1, .ref (ad k)), (2, .int (iI ((i + 1 : Nat) : Int))), (3, .int (iI ((j : Nat) : Int)))]) (by simp) ?_
          exact ih (i + 1) (j) (pre ++ [(true, i, x9)]) e2 (by omega) (by omega) (by omega) (by rw [List.map_append]; exact s2) (by rw [← hpre, List.append_assoc]; rfl) (hF2.tr hF)
        · have hj2 := stp_ins hi hj hij hs
          obtain ⟨y9, hy9⟩ := some_of_lt hj2
          rw [sc_1 hi hj hij hs hy9] at hpre
          have hl9 := congrArg List.length hpre
          simp only [List.length_append, List.length_cons] at hl9
          refine n_topI (y := (iI 1)) (by rw [hs]) ?_
          refine n_istore (lv' := [(0, .ref (ad 16)), (1, .ref (ad k)), (2, .int (iI (i : Int))), (3, .int (iI (j : Int))), (4, .int (iI 1))]) C dX0_writeTo_35 (by decide) rfl ?_
          refine n_iload C dX0_writeTo_37 4 rfl ?_
          refine n_if_ne C dX0_writeTo_39 (by decide) (by omega) (by omega) (tgt := 61) (fun _ => ?_) (fun c9 => absurd c9 (by omega))
          refine n_iload C dX0_writeTo_61 4 rfl ?_
          refine n_iconst C dX0_writeTo_63 ?_
          refine n_icmp_ne C dX0_writeTo_64 (by decide) (by omega) (by omega) (by omega) (by omega) (tgt := 83) (fun c9 => absurd c9 (by omega)) (fun _ => ?_)
          refine n_aload_n C dX0_writeTo_67 1 rfl rfl ?_
          refine n_iconst C dX0_writeTo_68 ?_
          refine n_iload_n C dX0_writeTo_69 2 rfl rfl ?_
          refine n_aload_n C dX0_writeTo_70 0 rfl rfl ?_
          refine n_get (k9 := 2) C dX0_writeTo_71 (by omega) k0 hX0_writeTo_X0 rfl (by decide) kX0_writeTo_25 rfl ?_
          refine n_iload_n C dX0_writeTo_74 3 rfl rfl ?_
          refine n_iconst C dX0_writeTo_75 ?_
          refine n_callV (rest := [.int (iI (i : Int)), .int (iI 1), .ref (ad k)]) C dX0_writeTo_76 (TX2_at l (by omega) p2 (by omega) (by omega)) (cwV 2 C.2.2.2.2.1 gX0_writeTo_X2_at rfl rfl rfl cdX2_at ⟨Nat.le_of_ble_eq_true rfl, Nat.le_of_ble_eq_true rfl⟩) (by omega) g3 rfl rfl rfl (Nat.le_of_ble_eq_true rfl) ⟨Nat.le_of_ble_eq_true rfl, Nat.le_of_ble_eq_true rfl⟩ ?_
          rintro _ _ ⟨rfl, rfl⟩
          refine n_pc (pc2 := 79) rfl (n_st (st2 := [.int (atD ys (j : Int) (iI (-1))), .int (iI (i : Int)), .int (iI 1), .ref (ad k)]) rfl ?_)
          refine n_topI (y := y9) (atD_in rfl hj2 hy9) ?_
          refine n_callV (rest := []) C dX0_writeTo_79 (TX3_add l (i := k) (by omega) s1 (x := iI 1) (y := iI (i : Int)) (z := y9)) (cwV 3 C.2.2.2.2.1 gX0_writeTo_X3_add rfl rfl rfl cdX3_add ⟨Nat.le_of_ble_eq_true rfl, Nat.le_of_ble_eq_true rfl⟩) (by omega) h0 rfl rfl rfl (Nat.le_of_ble_eq_true rfl) ⟨Nat.le_of_ble_eq_true rfl, Nat.le_of_ble_eq_true rfl⟩ ?_
          rintro _ e2 ⟨rfl, s2, hF2⟩
          refine n_pc (pc2 := 82) rfl (n_st (st2 := [.int (bI (decide ((pre.map encO).length < 60)))]) rfl ?_)
          rw [if_pos (by rw [List.length_map]; omega)] at s2
          refine n_pop C dX0_writeTo_82 rfl ?_
          refine n_iload_n C dX0_writeTo_83 2 rfl rfl ?_
          refine n_iload C dX0_writeTo_84 4 rfl ?_
          refine n_iconst C dX0_writeTo_86 ?_
          refine n_icmp_ne C dX0_writeTo_87 (by decide) (by omega) (by omega) (by omega) (by omega) (tgt := 94) (fun c9 => absurd c9 (by omega)) (fun _ => ?_)
          refine n_iconst C dX0_writeTo_90 ?_
          refine n_goto (tgt := 95) C dX0_writeTo_91 (by decide) ?_
          refine n_iadd C dX0_writeTo_95 ?_
          refine n_istore_n (lv' := [(0, .ref (ad 16)), (1, .ref (ad k)), (2, .int (iI ((i : Int) + 0))), (3, .int (iI (j : Int))), (4, .int (iI 1))]) C dX0_writeTo_96 rfl (by decide) rfl ?_
          refine n_iload_n C dX0_writeTo_97 3 rfl rfl ?_
          refine n_iload C dX0_writeTo_98 4 rfl ?_
          refine n_if_ne C dX0_writeTo_100 (by decide) (by omega) (by omega) (tgt := 107) (fun _ => ?_) (fun c9 => absurd c9 (by omega))
          refine n_iconst C dX0_writeTo_107 ?_
          refine n_iadd C dX0_writeTo_108 ?_
          refine n_istore_n (lv' := [(0, .ref (ad 16)), (1, .ref (ad k)), (2, .int (iI ((i : Int) + 0))), (3, .int (iI ((j : Int) + 1))), (4, .int (iI 1))]) C dX0_writeTo_109 rfl (by decide) rfl ?_
          refine n_goto (tgt := 8) C dX0_writeTo_110 (by decide) ?_
          refine n_sub (lv2 := [(0, .ref (ad 16)), (1, .ref (ad k)), (2, .int (iI ((i : Int) + 0))), (3, .int (iI ((j : Int) + 1)))]) [0, 1, 2, 3] rfl ?_
          refine n_lv (lv2 := [(0, .ref (ad 16)), (1, .ref (ad k)), (2, .int (iI ((i : Nat) : Int))), (3, .int (iI ((j + 1 : Nat) : Int)))]) (by simp) ?_
          exact ih (i) (j + 1) (pre ++ [(false, i, y9)]) e2 (by omega) (by omega) (by omega) (by rw [List.map_append]; exact s2) (by rw [← hpre, List.append_assoc]; rfl) (hF2.tr hF)
        · obtain ⟨hi2, hj2, -⟩ := stp_keep hs
          rw [sc_2 hi hj hij hs] at hpre
          refine n_topI (y := (iI 2)) (by rw [hs]) ?_
          refine n_istore (lv' := [(0, .ref (ad 16)), (1, .ref (ad k)), (2, .int (iI (i : Int))), (3, .int (iI (j : Int))), (4, .int (iI 2))]) C dX0_writeTo_35 (by decide) rfl ?_
          refine n_iload C dX0_writeTo_37 4 rfl ?_
          refine n_if_ne C dX0_writeTo_39 (by decide) (by omega) (by omega) (tgt := 61) (fun _ => ?_) (fun c9 => absurd c9 (by omega))
          refine n_iload C dX0_writeTo_61 4 rfl ?_
          refine n_iconst C dX0_writeTo_63 ?_
          refine n_icmp_ne C dX0_writeTo_64 (by decide) (by omega) (by omega) (by omega) (by omega) (tgt := 83) (fun _ => ?_) (fun c9 => absurd c9 (by omega))
          refine n_iload_n C dX0_writeTo_83 2 rfl rfl ?_
          refine n_iload C dX0_writeTo_84 4 rfl ?_
          refine n_iconst C dX0_writeTo_86 ?_
          refine n_icmp_ne C dX0_writeTo_87 (by decide) (by omega) (by omega) (by omega) (by omega) (tgt := 94) (fun _ => ?_) (fun c9 => absurd c9 (by omega))
          refine n_iconst C dX0_writeTo_94 ?_
          refine n_iadd C dX0_writeTo_95 ?_
          refine n_istore_n (lv' := [(0, .ref (ad 16)), (1, .ref (ad k)), (2, .int (iI ((i : Int) + 1))), (3, .int (iI (j : Int))), (4, .int (iI 2))]) C dX0_writeTo_96 rfl (by decide) rfl ?_
          refine n_iload_n C dX0_writeTo_97 3 rfl rfl ?_
          refine n_iload C dX0_writeTo_98 4 rfl ?_
          refine n_if_ne C dX0_writeTo_100 (by decide) (by omega) (by omega) (tgt := 107) (fun _ => ?_) (fun c9 => absurd c9 (by omega))
          refine n_iconst C dX0_writeTo_107 ?_
          refine n_iadd C dX0_writeTo_108 ?_
          refine n_istore_n (lv' := [(0, .ref (ad 16)), (1, .ref (ad k)), (2, .int (iI ((i : Int) + 1))), (3, .int (iI ((j : Int) + 1))), (4, .int (iI 2))]) C dX0_writeTo_109 rfl (by decide) rfl ?_
          refine n_goto (tgt := 8) C dX0_writeTo_110 (by decide) ?_
          refine n_sub (lv2 := [(0, .ref (ad 16)), (1, .ref (ad k)), (2, .int (iI ((i : Int) + 1))), (3, .int (iI ((j : Int) + 1)))]) [0, 1, 2, 3] rfl ?_
          refine n_lv (lv2 := [(0, .ref (ad 16)), (1, .ref (ad k)), (2, .int (iI ((i + 1 : Nat) : Int))), (3, .int (iI ((j + 1 : Nat) : Int)))]) (by simp) ?_
          exact ih (i + 1) (j + 1) pre ex (by omega) (by omega) (by omega) s1 hpre hF
  exact loop _ 0 0 [] ea (Nat.lt_succ_self _) (Nat.zero_le _) (Nat.zero_le _) s1 rfl hFa

def pX0_pairTo (G : GG) (ad : Nat → Nat) (ev : Nat → va_E) (k : Nat) (xs ys : List Int32) : Option Value → (Nat → va_E) → Prop := fun v e2 => v = none ∧ RowAt G ad e2 k ((kp xs ys 0 0).map iI) 20 ∧ Fr e2 ev (fun j => j = k ∨ j = k + 1)

set_option maxHeartbeats 4000000 in
set_option maxRecDepth 100000 in
theorem TX0_pairTo (l : Launch) {G : GG} {N : Nat} {ad : Nat → Nat} {ev : Nat → va_E} {qa qb k : Nat} {M : Nat → Nat → Int32} {xs ys zs : List Int32} (hN : 53 ≤ N) (hC : CmpAt G ad ev qa qb M) (r1 : RowAt G ad ev qa xs 20) (r2 : RowAt G ad ev qb ys 20) (ha : qa + 1 < 8) (hb : qb + 1 < 8) (hok : okM M xs ys) (hk : 39 ≤ k) (hk2 : k + 1 < N) (hR : RowAt G ad ev k zs 20) : Ct l yX0_pairTo wsX0_pairTo rmX0_pairTo [.ref (ad 16), .ref (ad k)] G N ad ev 0 0 (pX0_pairTo G ad ev k xs ys) := by
  have hl1 := r1.le
  have hl2 := r2.le
  obtain ⟨k0, k1, k2⟩ := id hC
  obtain ⟨f0, g0, g1, g2, -⟩ := id r1
  obtain ⟨f3, g3, g4, g5, -⟩ := id r2
  obtain ⟨f6, g6, g7, g8, -⟩ := id hR
  have hlen := (kp_facts xs ys _ 0 0 (Nat.zero_le _) (Nat.zero_le _) (Nat.le_refl _)).1
  refine Ct_of (cc := cX0_pairTo) (maxL := 5) (ret := none) (lv := [(0, .ref (ad 16)), (1, .ref (ad k))]) (by decide) rfl (Nat.le_of_ble_eq_true rfl) rfl ?_
  intro p E s m args below meth c A C hr hnm
  refine n_aload_n C dX0_pairTo_0 1 rfl rfl ?_
  refine n_callV (rest := []) C dX0_pairTo_1 (TX2_empty l (i := k) hk2 hR) (cwV 0 C.2.2.2.2.1 gX0_pairTo_X2_empty rfl rfl rfl cdX2_empty ⟨Nat.le_of_ble_eq_true rfl, Nat.le_of_ble_eq_true rfl⟩) (by omega) g6 rfl rfl rfl (Nat.le_of_ble_eq_true rfl) ⟨Nat.le_of_ble_eq_true rfl, Nat.le_of_ble_eq_true rfl⟩ ?_
  rintro _ ea ⟨rfl, s1, hFa⟩
  refine n_pc (pc2 := 4) rfl (n_st (st2 := []) rfl ?_)
  refine n_iconst C dX0_pairTo_4 ?_
  refine n_istore_n (lv' := [(0, .ref (ad 16)), (1, .ref (ad k)), (2, .int (iI 0))]) C dX0_pairTo_5 rfl (by decide) rfl ?_
  refine n_iconst C dX0_pairTo_6 ?_
  refine n_istore_n (lv' := [(0, .ref (ad 16)), (1, .ref (ad k)), (2, .int (iI 0)), (3, .int (iI 0))]) C dX0_pairTo_7 rfl (by decide) rfl ?_
  have loop : ∀ (n9 : Nat) (i j : Nat) (pre : List Int) (ex : Nat → va_E), xs.length + ys.length + 1 - (i + j) < n9 → (i ≤ xs.length) → (j ≤ ys.length) → (RowAt G ad ex k (pre.map iI) 20) → (pre ++ kp xs ys i j = kp xs ys 0 0) → (Fr ex ev (fun j => j = k ∨ j = k + 1)) → V p l E rmX0_pairTo s m args below meth c G A 5 (MQ below (Qg G N ad A (pX0_pairTo G ad ev k xs ys)) args s 0 0 A) N ad ex 0 0 8 [(0, .ref (ad 16)), (1, .ref (ad k)), (2, .int (iI (i : Int))), (3, .int (iI (j : Int)))] [] := by
    intro n9
    induction n9 with
    | zero =>
      intro i j pre ex hm9
      exact absurd hm9 (Nat.not_lt_zero _)
    | succ n9 ih =>
      intro i j pre ex hm9 hi hj s1 hpre hF
      have hc := hC.fr hF (fun j h1 h2 => by omega)
      have p1 := r1.fr hF (by omega) (by omega)
      have p2 := r2.fr hF (by omega) (by omega)
      obtain ⟨k0, k1, k2⟩ := id hc
      obtain ⟨f0, g0, g1, g2, -⟩ := id p1
      obtain ⟨f3, g3, g4, g5, -⟩ := id p2
      obtain ⟨f6, g6, g7, g8, -⟩ := id s1
      refine n_iload_n C dX0_pairTo_8 2 rfl rfl ?_
      refine n_iload_n C dX0_pairTo_9 3 rfl rfl ?_
      refine n_iadd C dX0_pairTo_10 ?_
      refine n_aload_n C dX0_pairTo_11 0 rfl rfl ?_
      refine n_get (k9 := 1) C dX0_pairTo_12 (by omega) k0 hX0_pairTo_X0 rfl (by decide) kX0_pairTo_21 rfl ?_
      refine n_getN (k9 := 1) C dX0_pairTo_15 (by omega) g0 hX0_pairTo_X2 rfl (by decide) kn_X0_28 rfl ?_
      refine n_aload_n C dX0_pairTo_18 0 rfl rfl ?_
      refine n_get (k9 := 2) C dX0_pairTo_19 (by omega) k0 hX0_pairTo_X0 rfl (by decide) kX0_pairTo_25 rfl ?_
      refine n_getN (k9 := 1) C dX0_pairTo_22 (by omega) g3 hX0_pairTo_X2 rfl (by decide) kn_X0_28 rfl ?_
      refine n_iadd C dX0_pairTo_25 ?_
      refine n_icmp_ge C dX0_pairTo_26 (by decide) (by omega) (by omega) (by omega) (by omega) (tgt := 89) (fun c1 => ?_) (fun c1 => ?_)
      · rw [kp_end (by omega), List.append_nil] at hpre
        exact n_vret C hr dX0_pairTo_89 (⟨rfl, by rw [← hpre]; exact s1, hF⟩)
      · have hij : i + j < xs.length + ys.length := by omega
        refine n_aload_n C dX0_pairTo_29 0 rfl rfl ?_
        refine n_iload_n C dX0_pairTo_30 2 rfl rfl ?_
        refine n_iload_n C dX0_pairTo_31 3 rfl rfl ?_
        refine n_callV (rest := []) C dX0_pairTo_32 (TX0_stepAt l hN hc p1 p2 (by omega) (by omega) hok hi hj) (cwV 2 C.2.2.2.2.1 gX0_pairTo_X0_stepAt rfl rfl rfl cdX0_stepAt ⟨Nat.le_of_ble_eq_true rfl, Nat.le_of_ble_eq_true rfl⟩) (by omega) k0 rfl rfl rfl (Nat.le_of_ble_eq_true rfl) ⟨Nat.le_of_ble_eq_true rfl, Nat.le_of_ble_eq_true rfl⟩ ?_
        rintro _ _ ⟨rfl, rfl⟩
        refine n_pc (pc2 := 35) rfl (n_st (st2 := [.int (iI (stp xs ys i j))]) rfl ?_)
        rcases stp_3 xs ys i j with hs | hs | hs
        · have hi2 := stp_del hs
          rw [kp_0 hi hj hij hs] at hpre
          have hl9 := congrArg List.length hpre
          simp only [List.length_append, List.length_cons] at hl9
          refine n_topI (y := (iI 0)) (by rw [hs]) ?_
          refine n_istore (lv' := [(0, .ref (ad 16)), (1, .ref (ad k)), (2, .int (iI (i : Int))), (3, .int (iI (j : Int))), (4, .int (iI 0))]) C dX0_pairTo_35 (by decide) rfl ?_
          refine n_iload C dX0_pairTo_37 4 rfl ?_
          refine n_iconst C dX0_pairTo_39 ?_
          refine n_icmp_eq C dX0_pairTo_40 (by decide) (by omega) (by omega) (by omega) (by omega) (tgt := 59) (fun c9 => absurd c9 (by omega)) (fun _ => ?_)
          refine n_aload_n C dX0_pairTo_43 1 rfl rfl ?_
          refine n_iload C dX0_pairTo_44 4 rfl ?_
          refine n_iconst C dX0_pairTo_46 ?_
          refine n_icmp_ne C dX0_pairTo_47 (by decide) (by omega) (by omega) (by omega) (by omega) (tgt := 54) (fun _ => ?_) (fun c9 => absurd c9 (by omega))
          refine n_iconst C dX0_pairTo_54 ?_
          refine n_callV (rest := []) C dX0_pairTo_55 (TX2_add l (i := k) hk2 s1 (x := iI (-1))) (cwV 1 C.2.2.2.2.1 gX0_pairTo_X2_add rfl rfl rfl cdX2_add ⟨Nat.le_of_ble_eq_true rfl, Nat.le_of_ble_eq_true rfl⟩) (by omega) g6 rfl rfl rfl (Nat.le_of_ble_eq_true rfl) ⟨Nat.le_of_ble_eq_true rfl, Nat.le_of_ble_eq_true rfl⟩ ?_
          rintro _ e2 ⟨rfl, s2, hF2⟩
          refine n_pc (pc2 := 58) rfl (n_st (st2 := [.int (bI (decide ((pre.map iI).length < 20)))]) rfl ?_)
          rw [if_pos (by rw [List.length_map]; omega)] at s2
          refine n_pop C dX0_pairTo_58 rfl ?_
          refine n_iload_n C dX0_pairTo_59 2 rfl rfl ?_
          refine n_iload C dX0_pairTo_60 4 rfl ?_
          refine n_iconst C dX0_pairTo_62 ?_
          refine n_icmp_ne C dX0_pairTo_63 (by decide) (by omega) (by omega) (by omega) (by omega) (tgt := 70) (fun _ => ?_) (fun c9 => absurd c9 (by omega))
          refine n_iconst C dX0_pairTo_70 ?_
          refine n_iadd C dX0_pairTo_71 ?_
          refine n_istore_n (lv' := [(0, .ref (ad 16)), (1, .ref (ad k)), (2, .int (iI ((i : Int) + 1))), (3, .int (iI (j : Int))), (4, .int (iI 0))]) C dX0_pairTo_72 rfl (by decide) rfl ?_
          refine n_iload_n C dX0_pairTo_73 3 rfl rfl ?_
          refine n_iload C dX0_pairTo_74 4 rfl ?_
          refine n_if_ne C dX0_pairTo_76 (by decide) (by omega) (by omega) (tgt := 83) (fun c9 => absurd c9 (by omega)) (fun _ => ?_)
          refine n_iconst C dX0_pairTo_79 ?_
          refine n_goto (tgt := 84) C dX0_pairTo_80 (by decide) ?_
          refine n_iadd C dX0_pairTo_84 ?_
          refine n_istore_n (lv' := [(0, .ref (ad 16)), (1, .ref (ad k)), (2, .int (iI ((i : Int) + 1))), (3, .int (iI ((j : Int) + 0))), (4, .int (iI 0))]) C dX0_pairTo_85 rfl (by decide) rfl ?_
          refine n_goto (tgt := 8) C dX0_pairTo_86 (by decide) ?_
          refine n_sub (lv2 := [(0, .ref (ad 16)), (1, .ref (ad k)), (2, .int (iI ((i : Int) + 1))), (3, .int (iI ((j : Int) + 0)))]) [0, 1, 2, 3] rfl ?_
          refine n_lv (lv2 := [(0, .ref (ad 16)), (1, .ref (ad k)), (2, .int (iI ((i + 1 : Nat) : Int))), (3, .int (iI ((j : Nat) : Int)))]) (by simp) ?_
          exact ih (i + 1) (j) (pre ++ [-1]) e2 (by omega) (by omega) (by omega) (by rw [List.map_append]; exact s2) (by rw [← hpre, List.append_assoc]; rfl) (hF2.tr hF)
        · have hj2 := stp_ins hi hj hij hs
          rw [kp_1 hi hj hij hs] at hpre
          refine n_topI (y := (iI 1)) (by rw [hs]) ?_
          refine n_istore (lv' := [(0, .ref (ad 16)), (1, .ref (ad k)), (2, .int (iI (i : Int))), (3, .int (iI (j : Int))), (4, .int (iI 1))]) C dX0_pairTo_35 (by decide) rfl ?_
          refine n_iload C dX0_pairTo_37 4 rfl ?_
          refine n_iconst C dX0_pairTo_39 ?_
          refine n_icmp_eq C dX0_pairTo_40 (by decide) (by omega) (by omega) (by omega) (by omega) (tgt := 59) (fun _ => ?_) (fun c9 => absurd c9 (by omega))
          refine n_iload_n C dX0_pairTo_59 2 rfl rfl ?_
          refine n_iload C dX0_pairTo_60 4 rfl ?_
          refine n_iconst C dX0_pairTo_62 ?_
          refine n_icmp_ne C dX0_pairTo_63 (by decide) (by omega) (by omega) (by omega) (by omega) (tgt := 70) (fun c9 => absurd c9 (by omega)) (fun _ => ?_)
          refine n_iconst C dX0_pairTo_66 ?_
          refine n_goto (tgt := 71) C dX0_pairTo_67 (by decide) ?_
          refine n_iadd C dX0_pairTo_71 ?_
          refine n_istore_n (lv' := [(0, .ref (ad 16)), (1, .ref (ad k)), (2, .int (iI ((i : Int) + 0))), (3, .int (iI (j : Int))), (4, .int (iI 1))]) C dX0_pairTo_72 rfl (by decide) rfl ?_
          refine n_iload_n C dX0_pairTo_73 3 rfl rfl ?_
          refine n_iload C dX0_pairTo_74 4 rfl ?_
          refine n_if_ne C dX0_pairTo_76 (by decide) (by omega) (by omega) (tgt := 83) (fun _ => ?_) (fun c9 => absurd c9 (by omega))
          refine n_iconst C dX0_pairTo_83 ?_
          refine n_iadd C dX0_pairTo_84 ?_
          refine n_istore_n (lv' := [(0, .ref (ad 16)), (1, .ref (ad k)), (2, .int (iI ((i : Int) + 0))), (3, .int (iI ((j : Int) + 1))), (4, .int (iI 1))]) C dX0_pairTo_85 rfl (by decide) rfl ?_
          refine n_goto (tgt := 8) C dX0_pairTo_86 (by decide) ?_
          refine n_sub (lv2 := [(0, .ref (ad 16)), (1, .ref (ad k)), (2, .int (iI ((i : Int) + 0))), (3, .int (iI ((j : Int) + 1)))]) [0, 1, 2, 3] rfl ?_
          refine n_lv (lv2 := [(0, .ref (ad 16)), (1, .ref (ad k)), (2, .int (iI ((i : Nat) : Int))), (3, .int (iI ((j + 1 : Nat) : Int)))]) (by simp) ?_
          exact ih (i) (j + 1) pre ex (by omega) (by omega) (by omega) s1 hpre hF
        · obtain ⟨hi2, hj2, -⟩ := stp_keep hs
          rw [kp_2 hi hj hij hs] at hpre
          have hl9 := congrArg List.length hpre
          simp only [List.length_append, List.length_cons] at hl9
          refine n_topI (y := (iI 2)) (by rw [hs]) ?_
          refine n_istore (lv' := [(0, .ref (ad 16)), (1, .ref (ad k)), (2, .int (iI (i : Int))), (3, .int (iI (j : Int))), (4, .int (iI 2))]) C dX0_pairTo_35 (by decide) rfl ?_
          refine n_iload C dX0_pairTo_37 4 rfl ?_
          refine n_iconst C dX0_pairTo_39 ?_
          refine n_icmp_eq C dX0_pairTo_40 (by decide) (by omega) (by omega) (by omega) (by omega) (tgt := 59) (fun c9 => absurd c9 (by omega)) (fun _ => ?_)
          refine n_aload_n C dX0_pairTo_43 1 rfl rfl ?_
          refine n_iload C dX0_pairTo_44 4 rfl ?_
          refine n_iconst C dX0_pairTo_46 ?_
          refine n_icmp_ne C dX0_pairTo_47 (by decide) (by omega) (by omega) (by omega) (by omega) (tgt := 54) (fun c9 => absurd c9 (by omega)) (fun _ => ?_)
          refine n_iload_n C dX0_pairTo_50 3 rfl rfl ?_
          refine n_goto (tgt := 55) C dX0_pairTo_51 (by decide) ?_
          refine n_callV (rest := []) C dX0_pairTo_55 (TX2_add l (i := k) hk2 s1 (x := iI ((j : Int)))) (cwV 1 C.2.2.2.2.1 gX0_pairTo_X2_add rfl rfl rfl cdX2_add ⟨Nat.le_of_ble_eq_true rfl, Nat.le_of_ble_eq_true rfl⟩) (by omega) g6 rfl rfl rfl (Nat.le_of_ble_eq_true rfl) ⟨Nat.le_of_ble_eq_true rfl, Nat.le_of_ble_eq_true rfl⟩ ?_
          rintro _ e2 ⟨rfl, s2, hF2⟩
          refine n_pc (pc2 := 58) rfl (n_st (st2 := [.int (bI (decide ((pre.map iI).length < 20)))]) rfl ?_)
          rw [if_pos (by rw [List.length_map]; omega)] at s2
          refine n_pop C dX0_pairTo_58 rfl ?_
          refine n_iload_n C dX0_pairTo_59 2 rfl rfl ?_
          refine n_iload C dX0_pairTo_60 4 rfl ?_
          refine n_iconst C dX0_pairTo_62 ?_
          refine n_icmp_ne C dX0_pairTo_63 (by decide) (by omega) (by omega) (by omega) (by omega) (tgt := 70) (fun _ => ?_) (fun c9 => absurd c9 (by omega))
          refine n_iconst C dX0_pairTo_70 ?_
          refine n_iadd C dX0_pairTo_71 ?_
          refine n_istore_n (lv' := [(0, .ref (ad 16)), (1, .ref (ad k)), (2, .int (iI ((i : Int) + 1))), (3, .int (iI (j : Int))), (4, .int (iI 2))]) C dX0_pairTo_72 rfl (by decide) rfl ?_
          refine n_iload_n C dX0_pairTo_73 3 rfl rfl ?_
          refine n_iload C dX0_pairTo_74 4 rfl ?_
          refine n_if_ne C dX0_pairTo_76 (by decide) (by omega) (by omega) (tgt := 83) (fun _ => ?_) (fun c9 => absurd c9 (by omega))
          refine n_iconst C dX0_pairTo_83 ?_
          refine n_iadd C dX0_pairTo_84 ?_
          refine n_istore_n (lv' := [(0, .ref (ad 16)), (1, .ref (ad k)), (2, .int (iI ((i : Int) + 1))), (3, .int (iI ((j : Int) + 1))), (4, .int (iI 2))]) C dX0_pairTo_85 rfl (by decide) rfl ?_
          refine n_goto (tgt := 8) C dX0_pairTo_86 (by decide) ?_
          refine n_sub (lv2 := [(0, .ref (ad 16)), (1, .ref (ad k)), (2, .int (iI ((i : Int) + 1))), (3, .int (iI ((j : Int) + 1)))]) [0, 1, 2, 3] rfl ?_
          refine n_lv (lv2 := [(0, .ref (ad 16)), (1, .ref (ad k)), (2, .int (iI ((i + 1 : Nat) : Int))), (3, .int (iI ((j + 1 : Nat) : Int)))]) (by simp) ?_
          exact ih (i + 1) (j + 1) (pre ++ [(j : Int)]) e2 (by omega) (by omega) (by omega) (by rw [List.map_append]; exact s2) (by rw [← hpre, List.append_assoc]; rfl) (hF2.tr hF)
  exact loop _ 0 0 [] ea (Nat.lt_succ_self _) (Nat.zero_le _) (Nat.zero_le _) s1 rfl hFa
end
section
/-! merging, in plain words -/
theorem RowAt.obj {G : GG} {ad : Nat → Nat} {ev : Nat → va_E} {i : Nat} {xs : List Int32} {cap : Nat} (h : RowAt G ad ev i xs cap) : ev i = .inr (2, [.ref (ad (i + 1)), .int (iI (xs.length : Int))]) := by
  obtain ⟨f, a, -⟩ := h
  exact a
theorem ScrAt.obj {G : GG} {ad : Nat → Nat} {ev : Nat → va_E} {i : Nat} {ops : List Tr} (h : ScrAt G ad ev i ops) : ev i = .inr (3, [.ref (ad (i + 1)), .ref (ad (i + 2)), .ref (ad (i + 3)), .int (iI (ops.length : Int))]) := by
  obtain ⟨_, _, _, a, -⟩ := h
  exact a
theorem StrAt.fr {ad : Nat → Nat} {ev e2 : Nat → va_E} {i q : Nat} {a b : Int} {S : Nat → Prop} (h : StrAt ad ev i q a b) (hF : Fr e2 ev S) (h0 : ¬ S i) : StrAt ad e2 i q a b := (hF _ h0).trans h
/-- a stretch merged: what is taken over, and whether there is a conflict -/
def mst (b x y : List Int32) : List Int32 × Nat := if x = y ∨ y = b then (x, 0) else if x = b then (y, 0) else ([iI (-1)] ++ x ++ [iI (-2)] ++ y ++ [iI (-3)], 1)
theorem mst_le (b x y : List Int32) : (mst b x y).1.length ≤ x.length + y.length + 3 ∧ (mst b x y).2 ≤ 1 := by
  unfold mst
  split
  · exact ⟨by show x.length ≤ _; omega, by show 0 ≤ 1; omega⟩
  · split
    · exact ⟨by show y.length ≤ _; omega, by show 0 ≤ 1; omega⟩
    · simp
      omega
/-- what is merged from the base's place k on; the stretches begin at b, x, y -/
def mg (r0 r1 r2 : List Int32) (w1 w2 : List Int) (k b x y : Nat) : List Int32 × Nat :=
  if h : r0.length ≤ k then mst (sl r0 b r0.length) (sl r1 x r1.length) (sl r2 y r2.length) else
  if w1.getD k (-1) ≠ -1 ∧ w2.getD k (-1) ≠ -1 then
    ((mst (sl r0 b k) (sl r1 x (w1.getD k (-1)).toNat) (sl r2 y (w2.getD k (-1)).toNat)).1 ++ [r0.getD k 0] ++ (mg r0 r1 r2 w1 w2 (k + 1) (k + 1) ((w1.getD k (-1)).toNat + 1) ((w2.getD k (-1)).toNat + 1)).1,
     (mst (sl r0 b k) (sl r1 x (w1.getD k (-1)).toNat) (sl r2 y (w2.getD k (-1)).toNat)).2 + (mg r0 r1 r2 w1 w2 (k + 1) (k + 1) ((w1.getD k (-1)).toNat + 1) ((w2.getD k (-1)).toNat + 1)).2)
  else mg r0 r1 r2 w1 w2 (k + 1) b x y
  termination_by r0.length - k
theorem mg_end {r0 r1 r2 : List Int32} {w1 w2 : List Int} {k b x y : Nat} (h : r0.length ≤ k) : mg r0 r1 r2 w1 w2 k b x y = mst (sl r0 b r0.length) (sl r1 x r1.length) (sl r2 y r2.length) := by
  rw [mg, dif_pos h]
theorem mg_st {r0 r1 r2 : List Int32} {w1 w2 : List Int} {k b x y p q : Nat} {s : Int32} (h : k < r0.length) (h1 : w1[k]? = some (p : Int)) (h2 : w2[k]? = some (q : Int)) (hs : r0[k]? = some s) : mg r0 r1 r2 w1 w2 k b x y =
    ((mst (sl r0 b k) (sl r1 x p) (sl r2 y q)).1 ++ [s] ++ (mg r0 r1 r2 w1 w2 (k + 1) (k + 1) (p + 1) (q + 1)).1, (mst (sl r0 b k) (sl r1 x p) (sl r2 y q)).2 + (mg r0 r1 r2 w1 w2 (k + 1) (k + 1) (p + 1) (q + 1)).2) := by
  rw [mg, dif_neg (by omega)]
  have e1 : w1.getD k (-1) = (p : Int) := by simp [List.getD, h1]
  have e2 : w2.getD k (-1) = (q : Int) := by simp [List.getD, h2]
  have e3 : r0.getD k 0 = s := by simp [List.getD, hs]
  rw [e1, e2, e3, if_pos ⟨by omega, by omega⟩]
  simp only [Int.toNat_natCast]
theorem mg_no {r0 r1 r2 : List Int32} {w1 w2 : List Int} {k b x y : Nat} {p q : Int} (h : k < r0.length) (h1 : w1[k]? = some p) (h2 : w2[k]? = some q) (hn : p = -1 ∨ q = -1) : mg r0 r1 r2 w1 w2 k b x y = mg r0 r1 r2 w1 w2 (k + 1) b x y := by
  rw [mg, dif_neg (by omega)]
  have e1 : w1.getD k (-1) = p := by simp [List.getD, h1]
  have e2 : w2.getD k (-1) = q := by simp [List.getD, h2]
  rw [e1, e2, if_neg (by omega)]
/-- what is known of the pairs: as long as the base, each -1 or a place of the row, growing -/
def okW (w : List Int) (n m : Nat) : Prop := w.length = n ∧ (∀ (k : Nat) (t : Int), w[k]? = some t → t = -1 ∨ (0 ≤ t ∧ t < m)) ∧ ∀ (k k2 : Nat) (t t2 : Int), k < k2 → w[k]? = some t → w[k2]? = some t2 → t2 ≠ -1 → t < t2
theorem okW_kp (xs ys : List Int32) : okW (kp xs ys 0 0) xs.length ys.length := by
  obtain ⟨a, b, c⟩ := kp_facts xs ys _ 0 0 (Nat.zero_le _) (Nat.zero_le _) (Nat.le_refl _)
  exact ⟨by omega, fun k t h => by have := b k t h; omega, c⟩
/-- from k on the pairs lie behind x -/
def frW (w : List Int) (m k x : Nat) : Prop := x ≤ m ∧ ∀ (j : Nat) (t : Int), k ≤ j → w[j]? = some t → t ≠ -1 → (x : Int) ≤ t ∧ t < m
theorem frW_0 {w : List Int} {n m : Nat} (h : okW w n m) : frW w m 0 0 := ⟨Nat.zero_le _, fun j t _ ht hne => by have := h.2.1 j t ht; omega⟩
theorem frW_st {w : List Int} {n m k p : Nat} (h : okW w n m) (hp : w[k]? = some (p : Int)) : frW w m (k + 1) (p + 1) := by
  have h1 := h.2.1 k _ hp
  refine ⟨by omega, fun j t hj ht hne => ?_⟩
  have h2 := h.2.1 j t ht
  have h3 := h.2.2 k j _ t (by omega) hp ht hne
  omega
theorem frW_no {w : List Int} {m k x : Nat} (h : frW w m k x) : frW w m (k + 1) x := ⟨h.1, fun j t hj => h.2 j t (by omega)⟩
end
section
def pX1_isStable (ev : Nat → va_E) (p q : Int) : Option Value → (Nat → va_E) → Prop := fun v e2 => v = some (.int (bI (decide (p ≠ -1 ∧ q ≠ -1)))) ∧ ev = e2

set_option maxHeartbeats 4000000 in
set_option maxRecDepth 100000 in
theorem TX1_isStable (l : Launch) {G : GG} {N : Nat} {ad : Nat → Nat} {ev : Nat → va_E} {k : Nat} {w1 w2 : List Int} {p9 q9 : Int} (hN : 53 ≤ N) (k41 : ev 41 = .inr (1, [.ref (ad 2), .ref (ad 4), .ref (ad 6), .ref (ad 42), .ref (ad 44), .ref (ad 46), .ref (ad 47), .ref (ad 48)])) (r42 : RowAt G ad ev 42 (w1.map iI) 20) (r44 : RowAt G ad ev 44 (w2.map iI) 20) (h1 : w1[k]? = some p9) (h2 : w2[k]? = some q9) (hp1 : -1 ≤ p9) (hp2 : p9 ≤ 100) (hq1 : -1 ≤ q9) (hq2 : q9 ≤ 100) : Ct l yX1_isStable wsX1_isStable rmX1_isStable [.ref (ad 41), .int (iI (k : Int))] G N ad ev 0 0 (pX1_isStable ev p9 q9) := by
  have hl1 := r42.le
  have hl2 := r44.le
  rw [List.length_map] at hl1 hl2
  have hk1 : k < w1.length := (List.getElem?_eq_some_iff.mp h1).1
  have hk2 : k < w2.length := (List.getElem?_eq_some_iff.mp h2).1
  have m1 : (w1.map iI)[k]? = some (iI p9) := by rw [List.getElem?_map, h1]; rfl
  have m2 : (w2.map iI)[k]? = some (iI q9) := by rw [List.getElem?_map, h2]; rfl
  refine Ct_of (cc := cX1_isStable) (maxL := 2) (ret := some .boolean) (lv := [(0, .ref (ad 41)), (1, .int (iI (k : Int)))]) (by decide) rfl (Nat.le_of_ble_eq_true rfl) rfl ?_
  intro p E s m args below meth c A C hr hnm
  refine n_aload_n C dX1_isStable_0 0 rfl rfl ?_
  refine n_get (k9 := 3) C dX1_isStable_1 (by omega) k41 hX1_isStable_X1 rfl (by decide) kX1_isStable_26 rfl ?_
  refine n_iload_n C dX1_isStable_4 1 rfl rfl ?_
  refine n_iconst C dX1_isStable_5 ?_
  refine n_callV (rest := []) C dX1_isStable_6 (TX2_at l (i := 42) (by omega) r42 (by omega) (by omega)) (cwV 2 C.2.2.2.2.1 gX1_isStable_X2_at rfl rfl rfl cdX2_at ⟨Nat.le_of_ble_eq_true rfl, Nat.le_of_ble_eq_true rfl⟩) (by omega) r42.obj rfl rfl rfl (Nat.le_of_ble_eq_true rfl) ⟨Nat.le_of_ble_eq_true rfl, Nat.le_of_ble_eq_true rfl⟩ ?_
  rintro _ _ ⟨rfl, rfl⟩
  refine n_pc (pc2 := 9) rfl (n_st (st2 := [.int (atD (w1.map iI) (k : Int) (iI (-1)))]) rfl ?_)
  refine n_topI (y := (iI p9)) (atD_in rfl (by rw [List.length_map]; exact hk1) m1) ?_
  refine n_iconst C dX1_isStable_9 ?_
  refine n_icmp_eq C dX1_isStable_10 (by decide) (by omega) (by omega) (by omega) (by omega) (tgt := 30) (fun c1 => ?_) (fun c1 => ?_)
  · refine n_iconst C dX1_isStable_30 ?_
    exact n_zret C hr dX1_isStable_31 (by decide) (⟨by rw [decide_eq_false (by omega)]; rfl, rfl⟩)
  · refine n_aload_n C dX1_isStable_13 0 rfl rfl ?_
    refine n_get (k9 := 4) C dX1_isStable_14 (by omega) k41 hX1_isStable_X1 rfl (by decide) kX1_isStable_29 rfl ?_
    refine n_iload_n C dX1_isStable_17 1 rfl rfl ?_
    refine n_iconst C dX1_isStable_18 ?_
    refine n_callV (rest := []) C dX1_isStable_19 (TX2_at l (i := 44) (by omega) r44 (by omega) (by omega)) (cwV 2 C.2.2.2.2.1 gX1_isStable_X2_at rfl rfl rfl cdX2_at ⟨Nat.le_of_ble_eq_true rfl, Nat.le_of_ble_eq_true rfl⟩) (by omega) r44.obj rfl rfl rfl (Nat.le_of_ble_eq_true rfl) ⟨Nat.le_of_ble_eq_true rfl, Nat.le_of_ble_eq_true rfl⟩ ?_
    rintro _ _ ⟨rfl, rfl⟩
    refine n_pc (pc2 := 22) rfl (n_st (st2 := [.int (atD (w2.map iI) (k : Int) (iI (-1)))]) rfl ?_)
    refine n_topI (y := (iI q9)) (atD_in rfl (by rw [List.length_map]; exact hk2) m2) ?_
    refine n_iconst C dX1_isStable_22 ?_
    refine n_icmp_eq C dX1_isStable_23 (by decide) (by omega) (by omega) (by omega) (by omega) (tgt := 30) (fun c2 => ?_) (fun c2 => ?_)
    · refine n_iconst C dX1_isStable_30 ?_
      exact n_zret C hr dX1_isStable_31 (by decide) (⟨by rw [decide_eq_false (by omega)]; rfl, rfl⟩)
    · refine n_iconst C dX1_isStable_26 ?_
      refine n_goto (tgt := 31) C dX1_isStable_27 (by decide) ?_
      exact n_zret C hr dX1_isStable_31 (by decide) (⟨by rw [decide_eq_true ⟨c1, c2⟩]; rfl, rfl⟩)

def pX1_endStretches (ad : Nat → Nat) (ev : Nat → va_E) (a0 a1 a2 z0 z1 z2 : Int) : Option Value → (Nat → va_E) → Prop := fun v e2 => v = none ∧ StrAt ad e2 46 2 a0 z0 ∧ StrAt ad e2 47 4 a1 z1 ∧ StrAt ad e2 48 6 a2 z2 ∧ Fr e2 ev (fun j => j = 46 ∨ j = 47 ∨ j = 48)

set_option maxHeartbeats 4000000 in
set_option maxRecDepth 100000 in
theorem TX1_endStretches (l : Launch) {G : GG} {N : Nat} {ad : Nat → Nat} {ev : Nat → va_E} {a0 a1 a2 b0 b1 b2 z0 z1 z2 : Int} (hN : 53 ≤ N) (k41 : ev 41 = .inr (1, [.ref (ad 2), .ref (ad 4), .ref (ad 6), .ref (ad 42), .ref (ad 44), .ref (ad 46), .ref (ad 47), .ref (ad 48)])) (s46 : StrAt ad ev 46 2 a0 b0) (s47 : StrAt ad ev 47 4 a1 b1) (s48 : StrAt ad ev 48 6 a2 b2) : Ct l yX1_endStretches wsX1_endStretches rmX1_endStretches [.ref (ad 41), .int (iI z0), .int (iI z1), .int (iI z2)] G N ad ev 0 0 (pX1_endStretches ad ev a0 a1 a2 z0 z1 z2) := by
  refine Ct_of (cc := cX1_endStretches) (maxL := 4) (ret := none) (lv := [(0, .ref (ad 41)), (1, .int (iI z0)), (2, .int (iI z1)), (3, .int (iI z2))]) (by decide) rfl (Nat.le_of_ble_eq_true rfl) rfl ?_
  intro p E s m args below meth c A C hr hnm
  refine n_aload_n C dX1_endStretches_0 0 rfl rfl ?_
  refine n_get (k9 := 5) C dX1_endStretches_1 (by omega) k41 hX1_endStretches_X1 rfl (by decide) kX1_endStretches_37 rfl ?_
  refine n_iload_n C dX1_endStretches_4 1 rfl rfl ?_
  refine n_callV (rest := []) C dX1_endStretches_5 (TX4_endBefore l (by omega) s46) (cwV 1 C.2.2.2.2.1 gX1_endStretches_X4_endBefore rfl rfl rfl cdX4_endBefore ⟨Nat.le_of_ble_eq_true rfl, Nat.le_of_ble_eq_true rfl⟩) (by omega) s46 rfl rfl rfl (Nat.le_of_ble_eq_true rfl) ⟨Nat.le_of_ble_eq_true rfl, Nat.le_of_ble_eq_true rfl⟩ ?_
  rintro _ x0 ⟨rfl, s46, hF0⟩
  refine n_pc (pc2 := 8) rfl (n_st (st2 := []) rfl ?_)
  have k41 := (hF0 _ (by omega)).trans k41
  have s47 := s47.fr hF0 (by omega)
  have s48 := s48.fr hF0 (by omega)
  refine n_aload_n C dX1_endStretches_8 0 rfl rfl ?_
  refine n_get (k9 := 6) C dX1_endStretches_9 (by omega) k41 hX1_endStretches_X1 rfl (by decide) kX1_endStretches_41 rfl ?_
  refine n_iload_n C dX1_endStretches_12 2 rfl rfl ?_
  refine n_callV (rest := []) C dX1_endStretches_13 (TX4_endBefore l (by omega) s47) (cwV 1 C.2.2.2.2.1 gX1_endStretches_X4_endBefore rfl rfl rfl cdX4_endBefore ⟨Nat.le_of_ble_eq_true rfl, Nat.le_of_ble_eq_true rfl⟩) (by omega) s47 rfl rfl rfl (Nat.le_of_ble_eq_true rfl) ⟨Nat.le_of_ble_eq_true rfl, Nat.le_of_ble_eq_true rfl⟩ ?_
  rintro _ x1 ⟨rfl, s47, hF1⟩
  refine n_pc (pc2 := 16) rfl (n_st (st2 := []) rfl ?_)
  have k41 := (hF1 _ (by omega)).trans k41
  have s46 := s46.fr hF1 (by omega)
  have s48 := s48.fr hF1 (by omega)
  refine n_aload_n C dX1_endStretches_16 0 rfl rfl ?_
  refine n_get (k9 := 7) C dX1_endStretches_17 (by omega) k41 hX1_endStretches_X1 rfl (by decide) kX1_endStretches_44 rfl ?_
  refine n_iload_n C dX1_endStretches_20 3 rfl rfl ?_
  refine n_callV (rest := []) C dX1_endStretches_21 (TX4_endBefore l (by omega) s48) (cwV 1 C.2.2.2.2.1 gX1_endStretches_X4_endBefore rfl rfl rfl cdX4_endBefore ⟨Nat.le_of_ble_eq_true rfl, Nat.le_of_ble_eq_true rfl⟩) (by omega) s48 rfl rfl rfl (Nat.le_of_ble_eq_true rfl) ⟨Nat.le_of_ble_eq_true rfl, Nat.le_of_ble_eq_true rfl⟩ ?_
  rintro _ x2 ⟨rfl, s48, hF2⟩
  refine n_pc (pc2 := 24) rfl (n_st (st2 := []) rfl ?_)
  have k41 := (hF2 _ (by omega)).trans k41
  have s46 := s46.fr hF2 (by omega)
  have s47 := s47.fr hF2 (by omega)
  exact n_vret C hr dX1_endStretches_24 (⟨rfl, s46, s47, s48, fun j hj => (hF2 j (by omega)).trans ((hF1 j (by omega)).trans (hF0 j (by omega)))⟩)

def pX1_goOnBehindStable (ad : Nat → Nat) (ev : Nat → va_E) (z0 z1 z2 : Int) : Option Value → (Nat → va_E) → Prop := fun v e2 => v = none ∧ StrAt ad e2 46 2 (z0 + 1) z0 ∧ StrAt ad e2 47 4 (z1 + 1) z1 ∧ StrAt ad e2 48 6 (z2 + 1) z2 ∧ Fr e2 ev (fun j => j = 46 ∨ j = 47 ∨ j = 48)

set_option maxHeartbeats 4000000 in
set_option maxRecDepth 100000 in
theorem TX1_goOnBehindStable (l : Launch) {G : GG} {N : Nat} {ad : Nat → Nat} {ev : Nat → va_E} {a0 a1 a2 b0 b1 b2 : Int} (hN : 53 ≤ N) (k41 : ev 41 = .inr (1, [.ref (ad 2), .ref (ad 4), .ref (ad 6), .ref (ad 42), .ref (ad 44), .ref (ad 46), .ref (ad 47), .ref (ad 48)])) (s46 : StrAt ad ev 46 2 a0 b0) (s47 : StrAt ad ev 47 4 a1 b1) (s48 : StrAt ad ev 48 6 a2 b2) : Ct l yX1_goOnBehindStable wsX1_goOnBehindStable rmX1_goOnBehindStable [.ref (ad 41)] G N ad ev 0 0 (pX1_goOnBehindStable ad ev b0 b1 b2) := by
  refine Ct_of (cc := cX1_goOnBehindStable) (maxL := 1) (ret := none) (lv := [(0, .ref (ad 41))]) (by decide) rfl (Nat.le_of_ble_eq_true rfl) rfl ?_
  intro p E s m args below meth c A C hr hnm
  refine n_aload_n C dX1_goOnBehindStable_0 0 rfl rfl ?_
  refine n_get (k9 := 5) C dX1_goOnBehindStable_1 (by omega) k41 hX1_goOnBehindStable_X1 rfl (by decide) kX1_goOnBehindStable_37 rfl ?_
  refine n_callV (rest := []) C dX1_goOnBehindStable_4 (TX4_goOnBehindStable l (by omega) s46) (cwV 0 C.2.2.2.2.1 gX1_goOnBehindStable_X4_goOnBehindStable rfl rfl rfl cdX4_goOnBehindStable ⟨Nat.le_of_ble_eq_true rfl, Nat.le_of_ble_eq_true rfl⟩) (by omega) s46 rfl rfl rfl (Nat.le_of_ble_eq_true rfl) ⟨Nat.le_of_ble_eq_true rfl, Nat.le_of_ble_eq_true rfl⟩ ?_
  rintro _ x0 ⟨rfl, s46, hF0⟩
  refine n_pc (pc2 := 7) rfl (n_st (st2 := []) rfl ?_)
  have k41 := (hF0 _ (by omega)).trans k41
  have s47 := s47.fr hF0 (by omega)
  have s48 := s48.fr hF0 (by omega)
  refine n_aload_n C dX1_goOnBehindStable_7 0 rfl rfl ?_
  refine n_get (k9 := 6) C dX1_goOnBehindStable_8 (by omega) k41 hX1_goOnBehindStable_X1 rfl (by decide) kX1_goOnBehindStable_41 rfl ?_
  refine n_callV (rest := []) C dX1_goOnBehindStable_11 (TX4_goOnBehindStable l (by omega) s47) (cwV 0 C.2.2.2.2.1 gX1_goOnBehindStable_X4_goOnBehindStable rfl rfl rfl cdX4_goOnBehindStable ⟨Nat.le_of_ble_eq_true rfl, Nat.le_of_ble_eq_true rfl⟩) (by omega) s47 rfl rfl rfl (Nat.le_of_ble_eq_true rfl) ⟨Nat.le_of_ble_eq_true rfl, Nat.le_of_ble_eq_true rfl⟩ ?_
  rintro _ x1 ⟨rfl, s47, hF1⟩
  refine n_pc (pc2 := 14) rfl (n_st (st2 := []) rfl ?_)
  have k41 := (hF1 _ (by omega)).trans k41
  have s46 := s46.fr hF1 (by omega)
  have s48 := s48.fr hF1 (by omega)
  refine n_aload_n C dX1_goOnBehindStable_14 0 rfl rfl ?_
  refine n_get (k9 := 7) C dX1_goOnBehindStable_15 (by omega) k41 hX1_goOnBehindStable_X1 rfl (by decide) kX1_goOnBehindStable_44 rfl ?_
  refine n_callV (rest := []) C dX1_goOnBehindStable_18 (TX4_goOnBehindStable l (by omega) s48) (cwV 0 C.2.2.2.2.1 gX1_goOnBehindStable_X4_goOnBehindStable rfl rfl rfl cdX4_goOnBehindStable ⟨Nat.le_of_ble_eq_true rfl, Nat.le_of_ble_eq_true rfl⟩) (by omega) s48 rfl rfl rfl (Nat.le_of_ble_eq_true rfl) ⟨Nat.le_of_ble_eq_true rfl, Nat.le_of_ble_eq_true rfl⟩ ?_
  rintro _ x2 ⟨rfl, s48, hF2⟩
  refine n_pc (pc2 := 21) rfl (n_st (st2 := []) rfl ?_)
  have k41 := (hF2 _ (by omega)).trans k41
  have s46 := s46.fr hF2 (by omega)
  have s47 := s47.fr hF2 (by omega)
  exact n_vret C hr dX1_goOnBehindStable_21 (⟨rfl, s46, s47, s48, fun j hj => (hF2 j (by omega)).trans ((hF1 j (by omega)).trans (hF0 j (by omega)))⟩)

def pX1_mergeStretch (G : GG) (ad : Nat → Nat) (ev : Nat → va_E) (r : Nat) (zs b x y : List Int32) : Option Value → (Nat → va_E) → Prop := fun v e2 => v = some (.int (iI ((mst b x y).2 : Int))) ∧ RowAt G ad e2 r (zs ++ (mst b x y).1) 123 ∧ Fr e2 ev (fun j => j = r ∨ j = r + 1)

set_option maxHeartbeats 4000000 in
set_option maxRecDepth 100000 in
theorem TX1_mergeStretch (l : Launch) {G : GG} {N : Nat} {ad : Nat → Nat} {ev : Nat → va_E} {r b0 b1 x0 x1 y0 y1 : Nat} {xs0 xs1 xs2 zs : List Int32} (hN : 53 ≤ N) (k41 : ev 41 = .inr (1, [.ref (ad 2), .ref (ad 4), .ref (ad 6), .ref (ad 42), .ref (ad 44), .ref (ad 46), .ref (ad 47), .ref (ad 48)])) (r2 : RowAt G ad ev 2 xs0 20) (r4 : RowAt G ad ev 4 xs1 20) (r6 : RowAt G ad ev 6 xs2 20) (hr49 : 49 ≤ r) (hrN : r + 1 < N) (rr : RowAt G ad ev r zs 123) (s46 : StrAt ad ev 46 2 (b0 : Nat) (b1 : Nat)) (s47 : StrAt ad ev 47 4 (x0 : Nat) (x1 : Nat)) (s48 : StrAt ad ev 48 6 (y0 : Nat) (y1 : Nat)) (hb01 : b0 ≤ b1) (hb1 : b1 ≤ xs0.length) (hx01 : x0 ≤ x1) (hx1 : x1 ≤ xs1.length) (hy01 : y0 ≤ y1) (hy1 : y1 ≤ xs2.length) (hcap : zs.length + (x1 - x0) + (y1 - y0) + 3 ≤ 123) : Ct l yX1_mergeStretch wsX1_mergeStretch rmX1_mergeStretch [.ref (ad 41), .ref (ad r)] G N ad ev 0 0 (pX1_mergeStretch G ad ev r zs (sl xs0 b0 b1) (sl xs1 x0 x1) (sl xs2 y0 y1)) := by
  have hl0 := r2.le
  have hl1 := r4.le
  have hl2 := r6.le
  refine Ct_of (cc := cX1_mergeStretch) (maxL := 2) (ret := some .int) (lv := [(0, .ref (ad 41)), (1, .ref (ad r))]) (by decide) rfl (Nat.le_of_ble_eq_true rfl) rfl ?_
  intro p E s m args below meth c A C hr hnm
  refine n_aload_n C dX1_mergeStretch_0 0 rfl rfl ?_
  refine n_get (k9 := 6) C dX1_mergeStretch_1 (by omega) k41 hX1_mergeStretch_X1 rfl (by decide) kX1_mergeStretch_41 rfl ?_
  refine n_aload_n C dX1_mergeStretch_4 0 rfl rfl ?_
  refine n_get (k9 := 7) C dX1_mergeStretch_5 (by omega) k41 hX1_mergeStretch_X1 rfl (by decide) kX1_mergeStretch_44 rfl ?_
  refine n_callV (rest := []) C dX1_mergeStretch_8 (TX4_isSameAs l (i := 47) (k := 48) (by omega) (by omega) s47 s48 (by omega) (by omega) r4 r6 hx01 hx1 hy01 hy1) (cwV 1 C.2.2.2.2.1 gX1_mergeStretch_X4_isSameAs rfl rfl rfl cdX4_isSameAs ⟨Nat.le_of_ble_eq_true rfl, Nat.le_of_ble_eq_true rfl⟩) (by omega) s47 rfl rfl rfl (Nat.le_of_ble_eq_true rfl) ⟨Nat.le_of_ble_eq_true rfl, Nat.le_of_ble_eq_true rfl⟩ ?_
  rintro _ _ ⟨rfl, rfl⟩
  refine n_pc (pc2 := 11) rfl (n_st (st2 := [.int (bI (decide (sl xs1 x0 x1 = sl xs2 y0 y1)))]) rfl ?_)
  refine n_if_neB C dX1_mergeStretch_11 (by decide) (tgt := 28) (fun c1 => ?_) (fun c1 => ?_)
  · refine n_aload_n C dX1_mergeStretch_28 0 rfl rfl ?_
    refine n_get (k9 := 6) C dX1_mergeStretch_29 (by omega) k41 hX1_mergeStretch_X1 rfl (by decide) kX1_mergeStretch_41 rfl ?_
    refine n_aload_n C dX1_mergeStretch_32 1 rfl rfl ?_
    refine n_callV (rest := []) C dX1_mergeStretch_33 (TX4_addTo l (by omega) s47 (by omega) hrN r4 rr (by omega) (by omega) (by omega) hx1 (by omega) (by omega)) (cwV 1 C.2.2.2.2.1 gX1_mergeStretch_X4_addTo rfl rfl rfl cdX4_addTo ⟨Nat.le_of_ble_eq_true rfl, Nat.le_of_ble_eq_true rfl⟩) (by omega) s47 rfl rfl rfl (Nat.le_of_ble_eq_true rfl) ⟨Nat.le_of_ble_eq_true rfl, Nat.le_of_ble_eq_true rfl⟩ ?_
    rintro _ e2 ⟨rfl, rr, hF⟩
    refine n_pc (pc2 := 36) rfl (n_st (st2 := []) rfl ?_)
    refine n_iconst C dX1_mergeStretch_36 ?_
    have hm : mst (sl xs0 b0 b1) (sl xs1 x0 x1) (sl xs2 y0 y1) = (sl xs1 x0 x1, 0) := by unfold mst; rw [if_pos (Or.inl (of_decide_eq_true c1))]
    exact n_iret C hr dX1_mergeStretch_37 (by unfold pX1_mergeStretch; rw [hm]; exact ⟨rfl, rr, hF⟩)
  · refine n_aload_n C dX1_mergeStretch_14 0 rfl rfl ?_
    refine n_get (k9 := 7) C dX1_mergeStretch_15 (by omega) k41 hX1_mergeStretch_X1 rfl (by decide) kX1_mergeStretch_44 rfl ?_
    refine n_aload_n C dX1_mergeStretch_18 0 rfl rfl ?_
    refine n_get (k9 := 5) C dX1_mergeStretch_19 (by omega) k41 hX1_mergeStretch_X1 rfl (by decide) kX1_mergeStretch_37 rfl ?_
    refine n_callV (rest := []) C dX1_mergeStretch_22 (TX4_isSameAs l (i := 48) (k := 46) (by omega) (by omega) s48 s46 (by omega) (by omega) r6 r2 hy01 hy1 hb01 hb1) (cwV 1 C.2.2.2.2.1 gX1_mergeStretch_X4_isSameAs rfl rfl rfl cdX4_isSameAs ⟨Nat.le_of_ble_eq_true rfl, Nat.le_of_ble_eq_true rfl⟩) (by omega) s48 rfl rfl rfl (Nat.le_of_ble_eq_true rfl) ⟨Nat.le_of_ble_eq_true rfl, Nat.le_of_ble_eq_true rfl⟩ ?_
    rintro _ _ ⟨rfl, rfl⟩
    refine n_pc (pc2 := 25) rfl (n_st (st2 := [.int (bI (decide (sl xs2 y0 y1 = sl xs0 b0 b1)))]) rfl ?_)
    refine n_if_eqB C dX1_mergeStretch_25 (by decide) (tgt := 38) (fun c2 => ?_) (fun c2 => ?_)
    · have hn : ¬ (sl xs1 x0 x1 = sl xs2 y0 y1 ∨ sl xs2 y0 y1 = sl xs0 b0 b1) := fun h => h.elim (of_decide_eq_false c1) (of_decide_eq_false c2)
      refine n_aload_n C dX1_mergeStretch_38 0 rfl rfl ?_
      refine n_get (k9 := 6) C dX1_mergeStretch_39 (by omega) k41 hX1_mergeStretch_X1 rfl (by decide) kX1_mergeStretch_41 rfl ?_
      refine n_aload_n C dX1_mergeStretch_42 0 rfl rfl ?_
      refine n_get (k9 := 5) C dX1_mergeStretch_43 (by omega) k41 hX1_mergeStretch_X1 rfl (by decide) kX1_mergeStretch_37 rfl ?_
      refine n_callV (rest := []) C dX1_mergeStretch_46 (TX4_isSameAs l (i := 47) (k := 46) (by omega) (by omega) s47 s46 (by omega) (by omega) r4 r2 hx01 hx1 hb01 hb1) (cwV 1 C.2.2.2.2.1 gX1_mergeStretch_X4_isSameAs rfl rfl rfl cdX4_isSameAs ⟨Nat.le_of_ble_eq_true rfl, Nat.le_of_ble_eq_true rfl⟩) (by omega) s47 rfl rfl rfl (Nat.le_of_ble_eq_true rfl) ⟨Nat.le_of_ble_eq_true rfl, Nat.le_of_ble_eq_true rfl⟩ ?_
      rintro _ _ ⟨rfl, rfl⟩
      refine n_pc (pc2 := 49) rfl (n_st (st2 := [.int (bI (decide (sl xs1 x0 x1 = sl xs0 b0 b1)))]) rfl ?_)
      refine n_if_eqB C dX1_mergeStretch_49 (by decide) (tgt := 62) (fun c3 => ?_) (fun c3 => ?_)
      · have hm : mst (sl xs0 b0 b1) (sl xs1 x0 x1) (sl xs2 y0 y1) = ([iI (-1)] ++ sl xs1 x0 x1 ++ [iI (-2)] ++ sl xs2 y0 y1 ++ [iI (-3)], 1) := by unfold mst; rw [if_neg hn, if_neg (of_decide_eq_false c3)]
        have hlx := sl_len (a := x0) hx1
        have hly := sl_len (a := y0) hy1
        refine n_aload_n C dX1_mergeStretch_62 1 rfl rfl ?_
        refine n_iconst C dX1_mergeStretch_63 ?_
        refine n_callV (rest := []) C dX1_mergeStretch_64 (TX2_add l (i := r) hrN rr (x := iI (-1))) (cwV 1 C.2.2.2.2.1 gX1_mergeStretch_X2_add rfl rfl rfl cdX2_add ⟨Nat.le_of_ble_eq_true rfl, Nat.le_of_ble_eq_true rfl⟩) (by omega) rr.obj rfl rfl rfl (Nat.le_of_ble_eq_true rfl) ⟨Nat.le_of_ble_eq_true rfl, Nat.le_of_ble_eq_true rfl⟩ ?_
        rintro _ ez1 ⟨rfl, rr, hF1⟩
        refine n_pc (pc2 := 67) rfl (n_st (st2 := [.int (bI (decide ((zs).length < 123)))]) rfl ?_)
        rw [if_pos (by first | omega | (simp only [List.length_append, List.length_cons, List.length_nil]; omega))] at rr
        have r2 := r2.fr hF1 (by omega) (by omega)
        have r4 := r4.fr hF1 (by omega) (by omega)
        have r6 := r6.fr hF1 (by omega) (by omega)
        have k41 := (hF1 _ (by omega)).trans k41
        have s46 := s46.fr hF1 (by omega)
        have s47 := s47.fr hF1 (by omega)
        have s48 := s48.fr hF1 (by omega)
        refine n_pop C dX1_mergeStretch_67 rfl ?_
        refine n_aload_n C dX1_mergeStretch_68 0 rfl rfl ?_
        refine n_get (k9 := 6) C dX1_mergeStretch_69 (by omega) k41 hX1_mergeStretch_X1 rfl (by decide) kX1_mergeStretch_41 rfl ?_
        refine n_aload_n C dX1_mergeStretch_72 1 rfl rfl ?_
        refine n_callV (rest := []) C dX1_mergeStretch_73 (TX4_addTo l (by omega) s47 (by omega) hrN r4 rr (by omega) (by omega) (by omega) hx1 (by omega) (by simp only [List.length_append, List.length_cons, List.length_nil]; omega)) (cwV 1 C.2.2.2.2.1 gX1_mergeStretch_X4_addTo rfl rfl rfl cdX4_addTo ⟨Nat.le_of_ble_eq_true rfl, Nat.le_of_ble_eq_true rfl⟩) (by omega) s47 rfl rfl rfl (Nat.le_of_ble_eq_true rfl) ⟨Nat.le_of_ble_eq_true rfl, Nat.le_of_ble_eq_true rfl⟩ ?_
        rintro _ ez2 ⟨rfl, rr, hF2⟩
        refine n_pc (pc2 := 76) rfl (n_st (st2 := []) rfl ?_)
        have r2 := r2.fr hF2 (by omega) (by omega)
        have r4 := r4.fr hF2 (by omega) (by omega)
        have r6 := r6.fr hF2 (by omega) (by omega)
        have k41 := (hF2 _ (by omega)).trans k41
        have s46 := s46.fr hF2 (by omega)
        have s47 := s47.fr hF2 (by omega)
        have s48 := s48.fr hF2 (by omega)
        refine n_aload_n C dX1_mergeStretch_76 1 rfl rfl ?_
        refine n_bipush C dX1_mergeStretch_77 (by decide) ?_
        refine n_callV (rest := []) C dX1_mergeStretch_79 (TX2_add l (i := r) hrN rr (x := iI (-2))) (cwV 1 C.2.2.2.2.1 gX1_mergeStretch_X2_add rfl rfl rfl cdX2_add ⟨Nat.le_of_ble_eq_true rfl, Nat.le_of_ble_eq_true rfl⟩) (by omega) rr.obj rfl rfl rfl (Nat.le_of_ble_eq_true rfl) ⟨Nat.le_of_ble_eq_true rfl, Nat.le_of_ble_eq_true rfl⟩ ?_
        rintro _ ez3 ⟨rfl, rr, hF3⟩
        refine n_pc (pc2 := 82) rfl (n_st (st2 := [.int (bI (decide ((zs ++ [iI (-1)] ++ sl xs1 x0 x1).length < 123)))]) rfl ?_)
        rw [if_pos (by first | omega | (simp only [List.length_append, List.length_cons, List.length_nil]; omega))] at rr
        have r2 := r2.fr hF3 (by omega) (by omega)
        have r4 := r4.fr hF3 (by omega) (by omega)
        have r6 := r6.fr hF3 (by omega) (by omega)
        have k41 := (hF3 _ (by omega)).trans k41
        have s46 := s46.fr hF3 (by omega)
        have s47 := s47.fr hF3 (by omega)
        have s48 := s48.fr hF3 (by omega)
        refine n_pop C dX1_mergeStretch_82 rfl ?_
        refine n_aload_n C dX1_mergeStretch_83 0 rfl rfl ?_
        refine n_get (k9 := 7) C dX1_mergeStretch_84 (by omega) k41 hX1_mergeStretch_X1 rfl (by decide) kX1_mergeStretch_44 rfl ?_
        refine n_aload_n C dX1_mergeStretch_87 1 rfl rfl ?_
        refine n_callV (rest := []) C dX1_mergeStretch_88 (TX4_addTo l (by omega) s48 (by omega) hrN r6 rr (by omega) (by omega) (by omega) hy1 (by omega) (by simp only [List.length_append, List.length_cons, List.length_nil]; omega)) (cwV 1 C.2.2.2.2.1 gX1_mergeStretch_X4_addTo rfl rfl rfl cdX4_addTo ⟨Nat.le_of_ble_eq_true rfl, Nat.le_of_ble_eq_true rfl⟩) (by omega) s48 rfl rfl rfl (Nat.le_of_ble_eq_true rfl) ⟨Nat.le_of_ble_eq_true rfl, Nat.le_of_ble_eq_true rfl⟩ ?_
        rintro _ ez4 ⟨rfl, rr, hF4⟩
        refine n_pc (pc2 := 91) rfl (n_st (st2 := []) rfl ?_)
        have r2 := r2.fr hF4 (by omega) (by omega)
        have r4 := r4.fr hF4 (by omega) (by omega)
        have r6 := r6.fr hF4 (by omega) (by omega)
        have k41 := (hF4 _ (by omega)).trans k41
        have s46 := s46.fr hF4 (by omega)
        have s47 := s47.fr hF4 (by omega)
        have s48 := s48.fr hF4 (by omega)
        refine n_aload_n C dX1_mergeStretch_91 1 rfl rfl ?_
        refine n_bipush C dX1_mergeStretch_92 (by decide) ?_
        refine n_callV (rest := []) C dX1_mergeStretch_94 (TX2_add l (i := r) hrN rr (x := iI (-3))) (cwV 1 C.2.2.2.2.1 gX1_mergeStretch_X2_add rfl rfl rfl cdX2_add ⟨Nat.le_of_ble_eq_true rfl, Nat.le_of_ble_eq_true rfl⟩) (by omega) rr.obj rfl rfl rfl (Nat.le_of_ble_eq_true rfl) ⟨Nat.le_of_ble_eq_true rfl, Nat.le_of_ble_eq_true rfl⟩ ?_
        rintro _ ez5 ⟨rfl, rr, hF5⟩
        refine n_pc (pc2 := 97) rfl (n_st (st2 := [.int (bI (decide ((zs ++ [iI (-1)] ++ sl xs1 x0 x1 ++ [iI (-2)] ++ sl xs2 y0 y1).length < 123)))]) rfl ?_)
        rw [if_pos (by first | omega | (simp only [List.length_append, List.length_cons, List.length_nil]; omega))] at rr
        have r2 := r2.fr hF5 (by omega) (by omega)
        have r4 := r4.fr hF5 (by omega) (by omega)
        have r6 := r6.fr hF5 (by omega) (by omega)
        have k41 := (hF5 _ (by omega)).trans k41
        have s46 := s46.fr hF5 (by omega)
        have s47 := s47.fr hF5 (by omega)
        have s48 := s48.fr hF5 (by omega)
        refine n_pop C dX1_mergeStretch_97 rfl ?_
        refine n_iconst C dX1_mergeStretch_98 ?_
        exact n_iret C hr dX1_mergeStretch_99 (by
          unfold pX1_mergeStretch
          rw [hm]
          refine ⟨rfl, ?_, fun j hj => (hF5 j hj).trans ((hF4 j hj).trans ((hF3 j hj).trans ((hF2 j hj).trans (hF1 j hj))))⟩
          simpa only [List.append_assoc] using rr)
      · refine n_aload_n C dX1_mergeStretch_52 0 rfl rfl ?_
        refine n_get (k9 := 7) C dX1_mergeStretch_53 (by omega) k41 hX1_mergeStretch_X1 rfl (by decide) kX1_mergeStretch_44 rfl ?_
        refine n_aload_n C dX1_mergeStretch_56 1 rfl rfl ?_
        refine n_callV (rest := []) C dX1_mergeStretch_57 (TX4_addTo l (by omega) s48 (by omega) hrN r6 rr (by omega) (by omega) (by omega) hy1 (by omega) (by omega)) (cwV 1 C.2.2.2.2.1 gX1_mergeStretch_X4_addTo rfl rfl rfl cdX4_addTo ⟨Nat.le_of_ble_eq_true rfl, Nat.le_of_ble_eq_true rfl⟩) (by omega) s48 rfl rfl rfl (Nat.le_of_ble_eq_true rfl) ⟨Nat.le_of_ble_eq_true rfl, Nat.le_of_ble_eq_true rfl⟩ ?_
        rintro _ e2 ⟨rfl, rr, hF⟩
        refine n_pc (pc2 := 60) rfl (n_st (st2 := []) rfl ?_)
        refine n_iconst C dX1_mergeStretch_60 ?_
        have hm : mst (sl xs0 b0 b1) (sl xs1 x0 x1) (sl xs2 y0 y1) = (sl xs2 y0 y1, 0) := by unfold mst; rw [if_neg hn, if_pos (of_decide_eq_true c3)]
        exact n_iret C hr dX1_mergeStretch_61 (by unfold pX1_mergeStretch; rw [hm]; exact ⟨rfl, rr, hF⟩)
    · refine n_aload_n C dX1_mergeStretch_28 0 rfl rfl ?_
      refine n_get (k9 := 6) C dX1_mergeStretch_29 (by omega) k41 hX1_mergeStretch_X1 rfl (by decide) kX1_mergeStretch_41 rfl ?_
      refine n_aload_n C dX1_mergeStretch_32 1 rfl rfl ?_
      refine n_callV (rest := []) C dX1_mergeStretch_33 (TX4_addTo l (by omega) s47 (by omega) hrN r4 rr (by omega) (by omega) (by omega) hx1 (by omega) (by omega)) (cwV 1 C.2.2.2.2.1 gX1_mergeStretch_X4_addTo rfl rfl rfl cdX4_addTo ⟨Nat.le_of_ble_eq_true rfl, Nat.le_of_ble_eq_true rfl⟩) (by omega) s47 rfl rfl rfl (Nat.le_of_ble_eq_true rfl) ⟨Nat.le_of_ble_eq_true rfl, Nat.le_of_ble_eq_true rfl⟩ ?_
      rintro _ e2 ⟨rfl, rr, hF⟩
      refine n_pc (pc2 := 36) rfl (n_st (st2 := []) rfl ?_)
      refine n_iconst C dX1_mergeStretch_36 ?_
      have hm : mst (sl xs0 b0 b1) (sl xs1 x0 x1) (sl xs2 y0 y1) = (sl xs1 x0 x1, 0) := by unfold mst; rw [if_pos (Or.inr (of_decide_eq_true c2))]
      exact n_iret C hr dX1_mergeStretch_37 (by unfold pX1_mergeStretch; rw [hm]; exact ⟨rfl, rr, hF⟩)
end
section
/-- what a merge gives: the result, the conflicts -/
def mrg (xs0 xs1 xs2 : List Int32) : List Int32 × Nat := mg xs0 xs1 xs2 (kp xs0 xs1 0 0) (kp xs0 xs2 0 0) 0 0 0 0
/-- the objects that comparing and merging use on the way -/
def WrkAt (G : GG) (ad : Nat → Nat) (ev : Nat → va_E) : Prop :=
  (∃ (qa qb : Nat) (M : Nat → Nat → Int32), CmpAt G ad ev qa qb M) ∧ ev 41 = .inr (1, [.ref (ad 2), .ref (ad 4), .ref (ad 6), .ref (ad 42), .ref (ad 44), .ref (ad 46), .ref (ad 47), .ref (ad 48)]) ∧ (∃ zs, RowAt G ad ev 42 zs 20) ∧ (∃ zs, RowAt G ad ev 44 zs 20) ∧ (∃ a b : Int, StrAt ad ev 46 2 a b) ∧ (∃ a b : Int, StrAt ad ev 47 4 a b) ∧ ∃ a b : Int, StrAt ad ev 48 6 a b
theorem WrkAt.fr {G : GG} {ad : Nat → Nat} {ev e2 : Nat → va_E} {S : Nat → Prop} (h : WrkAt G ad ev) (hF : Fr e2 ev S) (hS : ∀ j, (16 ≤ j ∧ j < 39) ∨ (41 ≤ j ∧ j < 49) → ¬ S j) : WrkAt G ad e2 := by
  obtain ⟨⟨qa, qb, M, h1⟩, h2, ⟨z1, h3⟩, ⟨z2, h4⟩, ⟨a0, b0, h5⟩, ⟨a1, b1, h6⟩, ⟨a2, b2, h7⟩⟩ := h
  exact ⟨⟨qa, qb, M, h1.fr hF (fun j p q => hS j (Or.inl ⟨p, q⟩))⟩, (hF _ (hS 41 (by omega))).trans h2, ⟨z1, h3.fr hF (hS 42 (by omega)) (hS 43 (by omega))⟩, ⟨z2, h4.fr hF (hS 44 (by omega)) (hS 45 (by omega))⟩, ⟨a0, b0, h5.fr hF (hS 46 (by omega))⟩, ⟨a1, b1, h6.fr hF (hS 47 (by omega))⟩, ⟨a2, b2, h7.fr hF (hS 48 (by omega))⟩⟩
def pX1_mergeTo (G : GG) (ad : Nat → Nat) (ev : Nat → va_E) (r : Nat) (xs0 xs1 xs2 : List Int32) : Option Value → (Nat → va_E) → Prop := fun v e2 => v = some (.int (iI ((mrg xs0 xs1 xs2).2 : Int))) ∧ RowAt G ad e2 r (mrg xs0 xs1 xs2).1 123 ∧ WrkAt G ad e2 ∧ Fr e2 ev (fun j => (16 ≤ j ∧ j < 39) ∨ (42 ≤ j ∧ j < 49) ∨ j = r ∨ j = r + 1)

set_option maxHeartbeats 4000000 in
set_option maxRecDepth 100000 in
theorem TX1_mergeTo (l : Launch) {G : GG} {N : Nat} {ad : Nat → Nat} {ev : Nat → va_E} {r : Nat} {xs0 xs1 xs2 : List Int32} (hN : 53 ≤ N) (hW : WrkAt G ad ev) (r2 : RowAt G ad ev 2 xs0 20) (r4 : RowAt G ad ev 4 xs1 20) (r6 : RowAt G ad ev 6 xs2 20) (hr49 : 49 ≤ r) (hrN : r + 1 < N) (rr : RowAt G ad ev r [] 123) : Ct l yX1_mergeTo wsX1_mergeTo rmX1_mergeTo [.ref (ad 41), .ref (ad r), .ref (ad 16)] G N ad ev 0 0 (pX1_mergeTo G ad ev r xs0 xs1 xs2) := by
  have hl0 := r2.le
  have hl1 := r4.le
  have hl2 := r6.le
  obtain ⟨⟨qa, qb, M, hc⟩, k41, ⟨z1, r42⟩, ⟨z2, r44⟩, ⟨a0, b0, s46⟩, ⟨a1, b1, s47⟩, ⟨a2, b2, s48⟩⟩ := hW
  have ok1 := okW_kp xs0 xs1
  have ok2 := okW_kp xs0 xs2
  refine Ct_of (cc := cX1_mergeTo) (maxL := 5) (ret := some .int) (lv := [(0, .ref (ad 41)), (1, .ref (ad r)), (2, .ref (ad 16))]) (by decide) rfl (Nat.le_of_ble_eq_true rfl) rfl ?_
  intro p E s m args below meth c A C hr hnm
  refine n_aload_n C dX1_mergeTo_0 2 rfl rfl ?_
  refine n_aload_n C dX1_mergeTo_1 0 rfl rfl ?_
  refine n_get (k9 := 0) C dX1_mergeTo_2 (by omega) k41 hX1_mergeTo_X1 rfl (by decide) kX1_mergeTo_9 rfl ?_
  refine n_aload_n C dX1_mergeTo_5 0 rfl rfl ?_
  refine n_get (k9 := 1) C dX1_mergeTo_6 (by omega) k41 hX1_mergeTo_X1 rfl (by decide) kX1_mergeTo_15 rfl ?_
  refine n_callV (rest := []) C dX1_mergeTo_9 (TX0_compare l hN hc r2 r4 (by omega) (by omega)) (cwV 2 C.2.2.2.2.1 gX1_mergeTo_X0_compare rfl rfl rfl cdX0_compare ⟨Nat.le_of_ble_eq_true rfl, Nat.le_of_ble_eq_true rfl⟩) (by omega) hc.1 rfl rfl rfl (Nat.le_of_ble_eq_true rfl) ⟨Nat.le_of_ble_eq_true rfl, Nat.le_of_ble_eq_true rfl⟩ ?_
  rintro _ x1 ⟨rfl, ⟨M1, hc, ok9⟩, hF1⟩
  refine n_pc (pc2 := 12) rfl (n_st (st2 := []) rfl ?_)
  have r2 := r2.fr hF1 (by omega) (by omega)
  have r4 := r4.fr hF1 (by omega) (by omega)
  have r6 := r6.fr hF1 (by omega) (by omega)
  have r42 := r42.fr hF1 (by omega) (by omega)
  have r44 := r44.fr hF1 (by omega) (by omega)
  have rr := rr.fr hF1 (by omega) (by omega)
  have k41 := (hF1 _ (by omega)).trans k41
  have s46 := s46.fr hF1 (by omega)
  have s47 := s47.fr hF1 (by omega)
  have s48 := s48.fr hF1 (by omega)
  refine n_aload_n C dX1_mergeTo_12 2 rfl rfl ?_
  refine n_aload_n C dX1_mergeTo_13 0 rfl rfl ?_
  refine n_get (k9 := 3) C dX1_mergeTo_14 (by omega) k41 hX1_mergeTo_X1 rfl (by decide) kX1_mergeTo_26 rfl ?_
  refine n_callV (rest := []) C dX1_mergeTo_17 (TX0_pairTo l hN hc r2 r4 (by omega) (by omega) ok9 (k := 42) (by omega) (by omega) r42) (cwV 1 C.2.2.2.2.1 gX1_mergeTo_X0_pairTo rfl rfl rfl cdX0_pairTo ⟨Nat.le_of_ble_eq_true rfl, Nat.le_of_ble_eq_true rfl⟩) (by omega) hc.1 rfl rfl rfl (Nat.le_of_ble_eq_true rfl) ⟨Nat.le_of_ble_eq_true rfl, Nat.le_of_ble_eq_true rfl⟩ ?_
  rintro _ x2 ⟨rfl, r42, hF2⟩
  refine n_pc (pc2 := 20) rfl (n_st (st2 := []) rfl ?_)
  have r2 := r2.fr hF2 (by omega) (by omega)
  have r4 := r4.fr hF2 (by omega) (by omega)
  have r6 := r6.fr hF2 (by omega) (by omega)
  have r44 := r44.fr hF2 (by omega) (by omega)
  have rr := rr.fr hF2 (by omega) (by omega)
  have k41 := (hF2 _ (by omega)).trans k41
  have s46 := s46.fr hF2 (by omega)
  have s47 := s47.fr hF2 (by omega)
  have s48 := s48.fr hF2 (by omega)
  have hc := hc.fr hF2 (fun j h1 h2 => by omega)
  refine n_aload_n C dX1_mergeTo_20 2 rfl rfl ?_
  refine n_aload_n C dX1_mergeTo_21 0 rfl rfl ?_
  refine n_get (k9 := 0) C dX1_mergeTo_22 (by omega) k41 hX1_mergeTo_X1 rfl (by decide) kX1_mergeTo_9 rfl ?_
  refine n_aload_n C dX1_mergeTo_25 0 rfl rfl ?_
  refine n_get (k9 := 2) C dX1_mergeTo_26 (by omega) k41 hX1_mergeTo_X1 rfl (by decide) kX1_mergeTo_18 rfl ?_
  refine n_callV (rest := []) C dX1_mergeTo_29 (TX0_compare l hN hc r2 r6 (by omega) (by omega)) (cwV 2 C.2.2.2.2.1 gX1_mergeTo_X0_compare rfl rfl rfl cdX0_compare ⟨Nat.le_of_ble_eq_true rfl, Nat.le_of_ble_eq_true rfl⟩) (by omega) hc.1 rfl rfl rfl (Nat.le_of_ble_eq_true rfl) ⟨Nat.le_of_ble_eq_true rfl, Nat.le_of_ble_eq_true rfl⟩ ?_
  rintro _ x3 ⟨rfl, ⟨M2, hc, ok9⟩, hF3⟩
  refine n_pc (pc2 := 32) rfl (n_st (st2 := []) rfl ?_)
  have r2 := r2.fr hF3 (by omega) (by omega)
  have r4 := r4.fr hF3 (by omega) (by omega)
  have r6 := r6.fr hF3 (by omega) (by omega)
  have r42 := r42.fr hF3 (by omega) (by omega)
  have r44 := r44.fr hF3 (by omega) (by omega)
  have rr := rr.fr hF3 (by omega) (by omega)
  have k41 := (hF3 _ (by omega)).trans k41
  have s46 := s46.fr hF3 (by omega)
  have s47 := s47.fr hF3 (by omega)
  have s48 := s48.fr hF3 (by omega)
  refine n_aload_n C dX1_mergeTo_32 2 rfl rfl ?_
  refine n_aload_n C dX1_mergeTo_33 0 rfl rfl ?_
  refine n_get (k9 := 4) C dX1_mergeTo_34 (by omega) k41 hX1_mergeTo_X1 rfl (by decide) kX1_mergeTo_29 rfl ?_
  refine n_callV (rest := []) C dX1_mergeTo_37 (TX0_pairTo l hN hc r2 r6 (by omega) (by omega) ok9 (k := 44) (by omega) (by omega) r44) (cwV 1 C.2.2.2.2.1 gX1_mergeTo_X0_pairTo rfl rfl rfl cdX0_pairTo ⟨Nat.le_of_ble_eq_true rfl, Nat.le_of_ble_eq_true rfl⟩) (by omega) hc.1 rfl rfl rfl (Nat.le_of_ble_eq_true rfl) ⟨Nat.le_of_ble_eq_true rfl, Nat.le_of_ble_eq_true rfl⟩ ?_
  rintro _ x4 ⟨rfl, r44, hF4⟩
  refine n_pc (pc2 := 40) rfl (n_st (st2 := []) rfl ?_)
  have r2 := r2.fr hF4 (by omega) (by omega)
  have r4 := r4.fr hF4 (by omega) (by omega)
  have r6 := r6.fr hF4 (by omega) (by omega)
  have r42 := r42.fr hF4 (by omega) (by omega)
  have rr := rr.fr hF4 (by omega) (by omega)
  have k41 := (hF4 _ (by omega)).trans k41
  have s46 := s46.fr hF4 (by omega)
  have s47 := s47.fr hF4 (by omega)
  have s48 := s48.fr hF4 (by omega)
  have hc := hc.fr hF4 (fun j h1 h2 => by omega)
  refine n_aload_n C dX1_mergeTo_40 0 rfl rfl ?_
  refine n_get (k9 := 5) C dX1_mergeTo_41 (by omega) k41 hX1_mergeTo_X1 rfl (by decide) kX1_mergeTo_37 rfl ?_
  refine n_callV (rest := []) C dX1_mergeTo_44 (TX4_begin l (by omega) s46) (cwV 0 C.2.2.2.2.1 gX1_mergeTo_X4_begin rfl rfl rfl cdX4_begin ⟨Nat.le_of_ble_eq_true rfl, Nat.le_of_ble_eq_true rfl⟩) (by omega) s46 rfl rfl rfl (Nat.le_of_ble_eq_true rfl) ⟨Nat.le_of_ble_eq_true rfl, Nat.le_of_ble_eq_true rfl⟩ ?_
  rintro _ x5 ⟨rfl, s46, hF5⟩
  refine n_pc (pc2 := 47) rfl (n_st (st2 := []) rfl ?_)
  have r2 := r2.fr hF5 (by omega) (by omega)
  have r4 := r4.fr hF5 (by omega) (by omega)
  have r6 := r6.fr hF5 (by omega) (by omega)
  have r42 := r42.fr hF5 (by omega) (by omega)
  have r44 := r44.fr hF5 (by omega) (by omega)
  have rr := rr.fr hF5 (by omega) (by omega)
  have k41 := (hF5 _ (by omega)).trans k41
  have s47 := s47.fr hF5 (by omega)
  have s48 := s48.fr hF5 (by omega)
  have hc := hc.fr hF5 (fun j h1 h2 => by omega)
  refine n_aload_n C dX1_mergeTo_47 0 rfl rfl ?_
  refine n_get (k9 := 6) C dX1_mergeTo_48 (by omega) k41 hX1_mergeTo_X1 rfl (by decide) kX1_mergeTo_41 rfl ?_
  refine n_callV (rest := []) C dX1_mergeTo_51 (TX4_begin l (by omega) s47) (cwV 0 C.2.2.2.2.1 gX1_mergeTo_X4_begin rfl rfl rfl cdX4_begin ⟨Nat.le_of_ble_eq_true rfl, Nat.le_of_ble_eq_true rfl⟩) (by omega) s47 rfl rfl rfl (Nat.le_of_ble_eq_true rfl) ⟨Nat.le_of_ble_eq_true rfl, Nat.le_of_ble_eq_true rfl⟩ ?_
  rintro _ x6 ⟨rfl, s47, hF6⟩
  refine n_pc (pc2 := 54) rfl (n_st (st2 := []) rfl ?_)
  have r2 := r2.fr hF6 (by omega) (by omega)
  have r4 := r4.fr hF6 (by omega) (by omega)
  have r6 := r6.fr hF6 (by omega) (by omega)
  have r42 := r42.fr hF6 (by omega) (by omega)
  have r44 := r44.fr hF6 (by omega) (by omega)
  have rr := rr.fr hF6 (by omega) (by omega)
  have k41 := (hF6 _ (by omega)).trans k41
  have s46 := s46.fr hF6 (by omega)
  have s48 := s48.fr hF6 (by omega)
  have hc := hc.fr hF6 (fun j h1 h2 => by omega)
  refine n_aload_n C dX1_mergeTo_54 0 rfl rfl ?_
  refine n_get (k9 := 7) C dX1_mergeTo_55 (by omega) k41 hX1_mergeTo_X1 rfl (by decide) kX1_mergeTo_44 rfl ?_
  refine n_callV (rest := []) C dX1_mergeTo_58 (TX4_begin l (by omega) s48) (cwV 0 C.2.2.2.2.1 gX1_mergeTo_X4_begin rfl rfl rfl cdX4_begin ⟨Nat.le_of_ble_eq_true rfl, Nat.le_of_ble_eq_true rfl⟩) (by omega) s48 rfl rfl rfl (Nat.le_of_ble_eq_true rfl) ⟨Nat.le_of_ble_eq_true rfl, Nat.le_of_ble_eq_true rfl⟩ ?_
  rintro _ x7 ⟨rfl, s48, hF7⟩
  refine n_pc (pc2 := 61) rfl (n_st (st2 := []) rfl ?_)
  have r2 := r2.fr hF7 (by omega) (by omega)
  have r4 := r4.fr hF7 (by omega) (by omega)
  have r6 := r6.fr hF7 (by omega) (by omega)
  have r42 := r42.fr hF7 (by omega) (by omega)
  have r44 := r44.fr hF7 (by omega) (by omega)
  have rr := rr.fr hF7 (by omega) (by omega)
  have k41 := (hF7 _ (by omega)).trans k41
  have s46 := s46.fr hF7 (by omega)
  have s47 := s47.fr hF7 (by omega)
  have hc := hc.fr hF7 (fun j h1 h2 => by omega)
  refine n_iconst C dX1_mergeTo_61 ?_
  refine n_istore_n (lv' := [(0, .ref (ad 41)), (1, .ref (ad r)), (2, .ref (ad 16)), (3, .int (iI 0))]) C dX1_mergeTo_62 rfl (by decide) rfl ?_
  refine n_iconst C dX1_mergeTo_63 ?_
  refine n_istore (lv' := [(0, .ref (ad 41)), (1, .ref (ad r)), (2, .ref (ad 16)), (3, .int (iI 0)), (4, .int (iI 0))]) C dX1_mergeTo_64 (by decide) rfl ?_
  have hFx : Fr x7 ev (fun j => (16 ≤ j ∧ j < 39) ∨ (42 ≤ j ∧ j < 49) ∨ j = r ∨ j = r + 1) := fun j hj => (hF7 j (by omega)).trans ((hF6 j (by omega)).trans ((hF5 j (by omega)).trans ((hF4 j (by omega)).trans ((hF3 j (by omega)).trans ((hF2 j (by omega)).trans (hF1 j (by omega)))))))
  clear hF1 hF2 hF3 hF4 hF5 hF6 hF7
  have loop : ∀ (n9 : Nat) (k b x y cf : Nat) (t0 t1 t2 : Int) (zs : List Int32) (M2 : Nat → Nat → Int32) (ex : Nat → va_E), xs0.length + 1 - k < n9 → (k ≤ xs0.length) → (b ≤ k) → (frW (kp xs0 xs1 0 0) xs1.length k x) → (frW (kp xs0 xs2 0 0) xs2.length k y) → (zs ++ (mg xs0 xs1 xs2 (kp xs0 xs1 0 0) (kp xs0 xs2 0 0) k b x y).1 = (mrg xs0 xs1 xs2).1) → (cf + (mg xs0 xs1 xs2 (kp xs0 xs1 0 0) (kp xs0 xs2 0 0) k b x y).2 = (mrg xs0 xs1 xs2).2) → (zs.length ≤ x + y + 2 * k) → (StrAt ad ex 46 2 (b : Nat) t0) → (StrAt ad ex 47 4 (x : Nat) t1) → (StrAt ad ex 48 6 (y : Nat) t2) → (RowAt G ad ex r zs 123) → (RowAt G ad ex 42 ((kp xs0 xs1 0 0).map iI) 20) → (RowAt G ad ex 44 ((kp xs0 xs2 0 0).map iI) 20) → (CmpAt G ad ex 2 6 M2) → (RowAt G ad ex 2 xs0 20) → (RowAt G ad ex 4 xs1 20) → (RowAt G ad ex 6 xs2 20) → (ex 41 = .inr (1, [.ref (ad 2), .ref (ad 4), .ref (ad 6), .ref (ad 42), .ref (ad 44), .ref (ad 46), .ref (ad 47), .ref (ad 48)])) → (Fr ex ev (fun j => (16 ≤ j ∧ j < 39) ∨ (42 ≤ j ∧ j < 49) ∨ j = r ∨ j = r + 1)) → V p l E rmX1_mergeTo s m args below meth c G A 5 (MQ below (Qg G N ad A (pX1_mergeTo G ad ev r xs0 xs1 xs2)) args s 0 0 A) N ad ex 0 0 66 [(0, .ref (ad 41)), (1, .ref (ad r)), (2, .ref (ad 16)), (3, .int (iI (cf : Int))), (4, .int (iI (k : Int)))] [] := by
    intro n9
    induction n9 with
    | zero =>
      intro k b x y cf t0 t1 t2 zs M2 ex hm9
      exact absurd hm9 (Nat.not_lt_zero _)
    | succ n9 ih =>
      intro k b x y cf t0 t1 t2 zs M2 ex hm9 hk hbk fx fy hz hcf hzl s46 s47 s48 rr r42 r44 hc r2 r4 r6 k41 hFx
      have fx1 := fx.1
      have fy1 := fy.1
      refine n_iload C dX1_mergeTo_66 4 rfl ?_
      refine n_aload_n C dX1_mergeTo_68 0 rfl rfl ?_
      refine n_get (k9 := 0) C dX1_mergeTo_69 (by omega) k41 hX1_mergeTo_X1 rfl (by decide) kX1_mergeTo_9 rfl ?_
      refine n_getN (k9 := 1) C dX1_mergeTo_72 (by omega) r2.obj hX1_mergeTo_X2 rfl (by decide) kn_X1_59 rfl ?_
      refine n_icmp_ge C dX1_mergeTo_75 (by decide) (by omega) (by omega) (by omega) (by omega) (tgt := 146) (fun c1 => ?_) (fun c1 => ?_)
      · have hke : k = xs0.length := by omega
        subst hke
        rw [mg_end (Nat.le_refl _)] at hz hcf
        refine n_aload_n C dX1_mergeTo_146 0 rfl rfl ?_
        refine n_aload_n C dX1_mergeTo_147 0 rfl rfl ?_
        refine n_get (k9 := 0) C dX1_mergeTo_148 (by omega) k41 hX1_mergeTo_X1 rfl (by decide) kX1_mergeTo_9 rfl ?_
        refine n_getN (k9 := 1) C dX1_mergeTo_151 (by omega) r2.obj hX1_mergeTo_X2 rfl (by decide) kn_X1_59 rfl ?_
        refine n_aload_n C dX1_mergeTo_154 0 rfl rfl ?_
        refine n_get (k9 := 1) C dX1_mergeTo_155 (by omega) k41 hX1_mergeTo_X1 rfl (by decide) kX1_mergeTo_15 rfl ?_
        refine n_getN (k9 := 1) C dX1_mergeTo_158 (by omega) r4.obj hX1_mergeTo_X2 rfl (by decide) kn_X1_59 rfl ?_
        refine n_aload_n C dX1_mergeTo_161 0 rfl rfl ?_
        refine n_get (k9 := 2) C dX1_mergeTo_162 (by omega) k41 hX1_mergeTo_X1 rfl (by decide) kX1_mergeTo_18 rfl ?_
        refine n_getN (k9 := 1) C dX1_mergeTo_165 (by omega) r6.obj hX1_mergeTo_X2 rfl (by decide) kn_X1_59 rfl ?_
        refine n_callV (rest := []) C dX1_mergeTo_168 (TX1_endStretches l hN k41 s46 s47 s48) (cwV 3 C.2.2.2.2.1 gX1_mergeTo_X1_endStretches rfl rfl rfl cdX1_endStretches ⟨Nat.le_of_ble_eq_true rfl, Nat.le_of_ble_eq_true rfl⟩) (by omega) k41 rfl rfl rfl (Nat.le_of_ble_eq_true rfl) ⟨Nat.le_of_ble_eq_true rfl, Nat.le_of_ble_eq_true rfl⟩ ?_
        rintro _ e1 ⟨rfl, s46, s47, s48, hG1⟩
        refine n_pc (pc2 := 171) rfl (n_st (st2 := []) rfl ?_)
        have r2 := r2.fr hG1 (by omega) (by omega)
        have r4 := r4.fr hG1 (by omega) (by omega)
        have r6 := r6.fr hG1 (by omega) (by omega)
        have rr := rr.fr hG1 (by omega) (by omega)
        have r42 := r42.fr hG1 (by omega) (by omega)
        have r44 := r44.fr hG1 (by omega) (by omega)
        have k41 := (hG1 _ (by omega)).trans k41
        have hc := hc.fr hG1 (fun j h1 h2 => by omega)
        refine n_iload_n C dX1_mergeTo_171 3 rfl rfl ?_
        refine n_aload_n C dX1_mergeTo_172 0 rfl rfl ?_
        refine n_aload_n C dX1_mergeTo_173 1 rfl rfl ?_
        refine n_callV (rest := [.int (iI (cf : Int))]) C dX1_mergeTo_174 (TX1_mergeStretch l hN k41 r2 r4 r6 hr49 hrN rr s46 s47 s48 (by omega) (by omega) (by omega) (by omega) (by omega) (by omega) (by omega)) (cwV 1 C.2.2.2.2.1 gX1_mergeTo_X1_mergeStretch rfl rfl rfl cdX1_mergeStretch ⟨Nat.le_of_ble_eq_true rfl, Nat.le_of_ble_eq_true rfl⟩) (by omega) k41 rfl rfl rfl (Nat.le_of_ble_eq_true rfl) ⟨Nat.le_of_ble_eq_true rfl, Nat.le_of_ble_eq_true rfl⟩ ?_
        rintro _ e2 ⟨rfl, rr, hG2⟩
        refine n_pc (pc2 := 177) rfl (n_st (st2 := [.int (iI ((mst (sl xs0 b xs0.length) (sl xs1 x xs1.length) (sl xs2 y xs2.length)).2 : Int)), .int (iI (cf : Int))]) rfl ?_)
        have r42 := r42.fr hG2 (by omega) (by omega)
        have r44 := r44.fr hG2 (by omega) (by omega)
        have k41 := (hG2 _ (by omega)).trans k41
        have s46 := s46.fr hG2 (by omega)
        have s47 := s47.fr hG2 (by omega)
        have s48 := s48.fr hG2 (by omega)
        have hc := hc.fr hG2 (fun j h1 h2 => by omega)
        refine n_iadd C dX1_mergeTo_177 ?_
        exact n_iret C hr dX1_mergeTo_178 (⟨by rw [← hcf]; simp, by rw [← hz]; exact rr, ⟨⟨2, 6, M2, hc⟩, k41, ⟨_, r42⟩, ⟨_, r44⟩, ⟨_, _, s46⟩, ⟨_, _, s47⟩, ⟨_, _, s48⟩⟩, fun j hj => (hG2 j (by omega)).trans ((hG1 j (by omega)).trans (hFx j hj))⟩)
      · obtain ⟨p9, hp9⟩ := some_of_lt (show k < (kp xs0 xs1 0 0).length by rw [ok1.1]; omega)
        obtain ⟨q9, hq9⟩ := some_of_lt (show k < (kp xs0 xs2 0 0).length by rw [ok2.1]; omega)
        have bp := ok1.2.1 k p9 hp9
        have bq := ok2.2.1 k q9 hq9
        refine n_aload_n C dX1_mergeTo_78 0 rfl rfl ?_
        refine n_iload C dX1_mergeTo_79 4 rfl ?_
        refine n_callV (rest := []) C dX1_mergeTo_81 (TX1_isStable l hN k41 r42 r44 hp9 hq9 (by omega) (by omega) (by omega) (by omega)) (cwV 1 C.2.2.2.2.1 gX1_mergeTo_X1_isStable rfl rfl rfl cdX1_isStable ⟨Nat.le_of_ble_eq_true rfl, Nat.le_of_ble_eq_true rfl⟩) (by omega) k41 rfl rfl rfl (Nat.le_of_ble_eq_true rfl) ⟨Nat.le_of_ble_eq_true rfl, Nat.le_of_ble_eq_true rfl⟩ ?_
        rintro _ _ ⟨rfl, rfl⟩
        refine n_pc (pc2 := 84) rfl (n_st (st2 := [.int (bI (decide (p9 ≠ -1 ∧ q9 ≠ -1)))]) rfl ?_)
        refine n_if_eqB C dX1_mergeTo_84 (by decide) (tgt := 140) (fun c2 => ?_) (fun c2 => ?_)
        · have hns := of_decide_eq_false c2
          rw [mg_no (by omega) hp9 hq9 (by omega)] at hz hcf
          refine n_iinc (lv' := [(0, .ref (ad 41)), (1, .ref (ad r)), (2, .ref (ad 16)), (3, .int (iI (cf : Int))), (4, .int (iI ((k : Int) + 1)))]) C dX1_mergeTo_140 4 rfl (by decide) rfl ?_
          refine n_goto (tgt := 66) C dX1_mergeTo_143 (by decide) ?_
          refine n_lv (lv2 := [(0, .ref (ad 41)), (1, .ref (ad r)), (2, .ref (ad 16)), (3, .int (iI (cf : Int))), (4, .int (iI ((k + 1 : Nat) : Int)))]) (by simp) ?_
          exact ih (k + 1) b x y cf t0 t1 t2 zs M2 ex (by omega) (by omega) (by omega) (frW_no fx) (frW_no fy) hz hcf (by omega) s46 s47 s48 rr r42 r44 hc r2 r4 r6 k41 hFx
        · have hst := of_decide_eq_true c2
          have gx := fx.2 k p9 (Nat.le_refl k) hp9 hst.1
          have gy := fy.2 k q9 (Nat.le_refl k) hq9 hst.2
          obtain ⟨p, rfl⟩ : ∃ p : Nat, p9 = (p : Int) := ⟨p9.toNat, by omega⟩
          obtain ⟨q, rfl⟩ : ∃ q : Nat, q9 = (q : Int) := ⟨q9.toNat, by omega⟩
          obtain ⟨s9, hs9⟩ := some_of_lt (show k < xs0.length by omega)
          rw [mg_st (by omega) hp9 hq9 hs9] at hz hcf
          have m1 : ((kp xs0 xs1 0 0).map iI)[k]? = some (iI (p : Int)) := by rw [List.getElem?_map, hp9]; rfl
          have m2 : ((kp xs0 xs2 0 0).map iI)[k]? = some (iI (q : Int)) := by rw [List.getElem?_map, hq9]; rfl
          refine n_aload_n C dX1_mergeTo_87 0 rfl rfl ?_
          refine n_iload C dX1_mergeTo_88 4 rfl ?_
          refine n_aload_n C dX1_mergeTo_90 0 rfl rfl ?_
          refine n_get (k9 := 3) C dX1_mergeTo_91 (by omega) k41 hX1_mergeTo_X1 rfl (by decide) kX1_mergeTo_26 rfl ?_
          refine n_iload C dX1_mergeTo_94 4 rfl ?_
          refine n_iconst C dX1_mergeTo_96 ?_
          refine n_callV (rest := [.int (iI (k : Int)), .ref (ad 41)]) C dX1_mergeTo_97 (TX2_at l (i := 42) (by omega) r42 (by omega) (by omega)) (cwV 2 C.2.2.2.2.1 gX1_mergeTo_X2_at rfl rfl rfl cdX2_at ⟨Nat.le_of_ble_eq_true rfl, Nat.le_of_ble_eq_true rfl⟩) (by omega) r42.obj rfl rfl rfl (Nat.le_of_ble_eq_true rfl) ⟨Nat.le_of_ble_eq_true rfl, Nat.le_of_ble_eq_true rfl⟩ ?_
          rintro _ _ ⟨rfl, rfl⟩
          refine n_pc (pc2 := 100) rfl (n_st (st2 := [.int (atD ((kp xs0 xs1 0 0).map iI) (k : Int) (iI (-1))), .int (iI (k : Int)), .ref (ad 41)]) rfl ?_)
          refine n_topI (y := (iI (p : Int))) (atD_in rfl (by rw [List.length_map, ok1.1]; omega) m1) ?_
          refine n_aload_n C dX1_mergeTo_100 0 rfl rfl ?_
          refine n_get (k9 := 4) C dX1_mergeTo_101 (by omega) k41 hX1_mergeTo_X1 rfl (by decide) kX1_mergeTo_29 rfl ?_
          refine n_iload C dX1_mergeTo_104 4 rfl ?_
          refine n_iconst C dX1_mergeTo_106 ?_
          refine n_callV (rest := [.int (iI (p : Int)), .int (iI (k : Int)), .ref (ad 41)]) C dX1_mergeTo_107 (TX2_at l (i := 44) (by omega) r44 (by omega) (by omega)) (cwV 2 C.2.2.2.2.1 gX1_mergeTo_X2_at rfl rfl rfl cdX2_at ⟨Nat.le_of_ble_eq_true rfl, Nat.le_of_ble_eq_true rfl⟩) (by omega) r44.obj rfl rfl rfl (Nat.le_of_ble_eq_true rfl) ⟨Nat.le_of_ble_eq_true rfl, Nat.le_of_ble_eq_true rfl⟩ ?_
          rintro _ _ ⟨rfl, rfl⟩
          refine n_pc (pc2 := 110) rfl (n_st (st2 := [.int (atD ((kp xs0 xs2 0 0).map iI) (k : Int) (iI (-1))), .int (iI (p : Int)), .int (iI (k : Int)), .ref (ad 41)]) rfl ?_)
          refine n_topI (y := (iI (q : Int))) (atD_in rfl (by rw [List.length_map, ok2.1]; omega) m2) ?_
          refine n_callV (rest := []) C dX1_mergeTo_110 (TX1_endStretches l hN k41 s46 s47 s48) (cwV 3 C.2.2.2.2.1 gX1_mergeTo_X1_endStretches rfl rfl rfl cdX1_endStretches ⟨Nat.le_of_ble_eq_true rfl, Nat.le_of_ble_eq_true rfl⟩) (by omega) k41 rfl rfl rfl (Nat.le_of_ble_eq_true rfl) ⟨Nat.le_of_ble_eq_true rfl, Nat.le_of_ble_eq_true rfl⟩ ?_
          rintro _ e1 ⟨rfl, s46, s47, s48, hG1⟩
          refine n_pc (pc2 := 113) rfl (n_st (st2 := []) rfl ?_)
          have r2 := r2.fr hG1 (by omega) (by omega)
          have r4 := r4.fr hG1 (by omega) (by omega)
          have r6 := r6.fr hG1 (by omega) (by omega)
          have rr := rr.fr hG1 (by omega) (by omega)
          have r42 := r42.fr hG1 (by omega) (by omega)
          have r44 := r44.fr hG1 (by omega) (by omega)
          have k41 := (hG1 _ (by omega)).trans k41
          have hc := hc.fr hG1 (fun j h1 h2 => by omega)
          have hm9 := (mst_le (sl xs0 b k) (sl xs1 x p) (sl xs2 y q)).1
          rw [sl_len (by omega), sl_len (by omega)] at hm9
          refine n_iload_n C dX1_mergeTo_113 3 rfl rfl ?_
          refine n_aload_n C dX1_mergeTo_114 0 rfl rfl ?_
          refine n_aload_n C dX1_mergeTo_115 1 rfl rfl ?_
          refine n_callV (rest := [.int (iI (cf : Int))]) C dX1_mergeTo_116 (TX1_mergeStretch l hN k41 r2 r4 r6 hr49 hrN rr s46 s47 s48 (by omega) (by omega) (by omega) (by omega) (by omega) (by omega) (by omega)) (cwV 1 C.2.2.2.2.1 gX1_mergeTo_X1_mergeStretch rfl rfl rfl cdX1_mergeStretch ⟨Nat.le_of_ble_eq_true rfl, Nat.le_of_ble_eq_true rfl⟩) (by omega) k41 rfl rfl rfl (Nat.le_of_ble_eq_true rfl) ⟨Nat.le_of_ble_eq_true rfl, Nat.le_of_ble_eq_true rfl⟩ ?_
          rintro _ e2 ⟨rfl, rr, hG2⟩
          refine n_pc (pc2 := 119) rfl (n_st (st2 := [.int (iI ((mst (sl xs0 b k) (sl xs1 x p) (sl xs2 y q)).2 : Int)), .int (iI (cf : Int))]) rfl ?_)
          have r2 := r2.fr hG2 (by omega) (by omega)
          have r4 := r4.fr hG2 (by omega) (by omega)
          have r6 := r6.fr hG2 (by omega) (by omega)
          have r42 := r42.fr hG2 (by omega) (by omega)
          have r44 := r44.fr hG2 (by omega) (by omega)
          have k41 := (hG2 _ (by omega)).trans k41
          have s46 := s46.fr hG2 (by omega)
          have s47 := s47.fr hG2 (by omega)
          have s48 := s48.fr hG2 (by omega)
          have hc := hc.fr hG2 (fun j h1 h2 => by omega)
          refine n_iadd C dX1_mergeTo_119 ?_
          refine n_istore_n (lv' := [(0, .ref (ad 41)), (1, .ref (ad r)), (2, .ref (ad 16)), (3, .int (iI ((cf : Int) + ((mst (sl xs0 b k) (sl xs1 x p) (sl xs2 y q)).2 : Int)))), (4, .int (iI (k : Int)))]) C dX1_mergeTo_120 rfl (by decide) rfl ?_
          refine n_aload_n C dX1_mergeTo_121 1 rfl rfl ?_
          refine n_aload_n C dX1_mergeTo_122 0 rfl rfl ?_
          refine n_get (k9 := 0) C dX1_mergeTo_123 (by omega) k41 hX1_mergeTo_X1 rfl (by decide) kX1_mergeTo_9 rfl ?_
          refine n_iload C dX1_mergeTo_126 4 rfl ?_
          refine n_iconst C dX1_mergeTo_128 ?_
          refine n_callV (rest := [.ref (ad r)]) C dX1_mergeTo_129 (TX2_at l (i := 2) (by omega) r2 (by omega) (by omega)) (cwV 2 C.2.2.2.2.1 gX1_mergeTo_X2_at rfl rfl rfl cdX2_at ⟨Nat.le_of_ble_eq_true rfl, Nat.le_of_ble_eq_true rfl⟩) (by omega) r2.obj rfl rfl rfl (Nat.le_of_ble_eq_true rfl) ⟨Nat.le_of_ble_eq_true rfl, Nat.le_of_ble_eq_true rfl⟩ ?_
          rintro _ _ ⟨rfl, rfl⟩
          refine n_pc (pc2 := 132) rfl (n_st (st2 := [.int (atD xs0 (k : Int) (iI (-1))), .ref (ad r)]) rfl ?_)
          refine n_topI (y := s9) (atD_in rfl (by omega) hs9) ?_
          refine n_callV (rest := []) C dX1_mergeTo_132 (TX2_add l (i := r) hrN rr (x := s9)) (cwV 1 C.2.2.2.2.1 gX1_mergeTo_X2_add rfl rfl rfl cdX2_add ⟨Nat.le_of_ble_eq_true rfl, Nat.le_of_ble_eq_true rfl⟩) (by omega) rr.obj rfl rfl rfl (Nat.le_of_ble_eq_true rfl) ⟨Nat.le_of_ble_eq_true rfl, Nat.le_of_ble_eq_true rfl⟩ ?_
          rintro _ e3 ⟨rfl, rr, hG3⟩
          refine n_pc (pc2 := 135) rfl (n_st (st2 := [.int (bI (decide ((zs ++ (mst (sl xs0 b k) (sl xs1 x p) (sl xs2 y q)).1).length < 123)))]) rfl ?_)
          rw [if_pos (by rw [List.length_append]; omega)] at rr
          have r2 := r2.fr hG3 (by omega) (by omega)
          have r4 := r4.fr hG3 (by omega) (by omega)
          have r6 := r6.fr hG3 (by omega) (by omega)
          have r42 := r42.fr hG3 (by omega) (by omega)
          have r44 := r44.fr hG3 (by omega) (by omega)
          have k41 := (hG3 _ (by omega)).trans k41
          have s46 := s46.fr hG3 (by omega)
          have s47 := s47.fr hG3 (by omega)
          have s48 := s48.fr hG3 (by omega)
          have hc := hc.fr hG3 (fun j h1 h2 => by omega)
          refine n_pop C dX1_mergeTo_135 rfl ?_
          refine n_aload_n C dX1_mergeTo_136 0 rfl rfl ?_
          refine n_callV (rest := []) C dX1_mergeTo_137 (TX1_goOnBehindStable l hN k41 s46 s47 s48) (cwV 0 C.2.2.2.2.1 gX1_mergeTo_X1_goOnBehindStable rfl rfl rfl cdX1_goOnBehindStable ⟨Nat.le_of_ble_eq_true rfl, Nat.le_of_ble_eq_true rfl⟩) (by omega) k41 rfl rfl rfl (Nat.le_of_ble_eq_true rfl) ⟨Nat.le_of_ble_eq_true rfl, Nat.le_of_ble_eq_true rfl⟩ ?_
          rintro _ e4 ⟨rfl, s46, s47, s48, hG4⟩
          refine n_pc (pc2 := 140) rfl (n_st (st2 := []) rfl ?_)
          have r2 := r2.fr hG4 (by omega) (by omega)
          have r4 := r4.fr hG4 (by omega) (by omega)
          have r6 := r6.fr hG4 (by omega) (by omega)
          have rr := rr.fr hG4 (by omega) (by omega)
          have r42 := r42.fr hG4 (by omega) (by omega)
          have r44 := r44.fr hG4 (by omega) (by omega)
          have k41 := (hG4 _ (by omega)).trans k41
          have hc := hc.fr hG4 (fun j h1 h2 => by omega)
          refine n_iinc (lv' := [(0, .ref (ad 41)), (1, .ref (ad r)), (2, .ref (ad 16)), (3, .int (iI ((cf : Int) + ((mst (sl xs0 b k) (sl xs1 x p) (sl xs2 y q)).2 : Int)))), (4, .int (iI ((k : Int) + 1)))]) C dX1_mergeTo_140 4 rfl (by decide) rfl ?_
          refine n_goto (tgt := 66) C dX1_mergeTo_143 (by decide) ?_
          refine n_lv (lv2 := [(0, .ref (ad 41)), (1, .ref (ad r)), (2, .ref (ad 16)), (3, .int (iI ((cf + (mst (sl xs0 b k) (sl xs1 x p) (sl xs2 y q)).2 : Nat) : Int))), (4, .int (iI ((k + 1 : Nat) : Int)))]) (by simp) ?_
          exact ih (k + 1) (k + 1) (p + 1) (q + 1) _ _ _ _ _ M2 e4 (by omega) (by omega) (Nat.le_refl _) (frW_st ok1 hp9) (frW_st ok2 hq9) (by rw [← hz]; simp only [List.append_assoc]) (by rw [← hcf]; omega) (by simp only [List.length_append, List.length_cons, List.length_nil]; omega) s46 s47 s48 rr r42 r44 hc r2 r4 r6 k41 (fun j hj => (hG4 j (by omega)).trans ((hG3 j (by omega)).trans ((hG2 j (by omega)).trans ((hG1 j (by omega)).trans (hFx j hj)))))
  exact loop _ 0 0 0 0 0 0 0 0 [] M2 x7 (Nat.lt_succ_self _) (Nat.zero_le _) (Nat.le_refl _) (frW_0 ok1) (frW_0 ok2) rfl (Nat.zero_add _) (Nat.zero_le _) s46 s47 s48 rr r42 r44 hc r2 r4 r6 k41 hFx
end
section
/-! DiffDesk: cells 0 .. 52 -/
/-- the object as its parts: rc, dc the cells of result and draft -/
def DeskB (G : GG) (ad : Nat → Nat) (ev : Nat → va_E) (lim : Int) (R : Nat → List Int32) (ops : List Tr) (ls : List Op) (lsz : Nat) (rc dc : Nat) (rs ds : List Int32) (g : Nat → Option Nat) : Prop :=
  (0 ≤ lim ∧ lim ≤ 40 ∧ lsz ≤ 20 ∧ Sm ls ∧ ((rc = 49 ∧ dc = 51) ∨ (rc = 51 ∧ dc = 49))) ∧ ev 0 = .inr (5, [.int (iI lim), .ref (ad 1), .ref (ad 8), .ref (ad 12), .int (iI (lsz : Int)), .ref (ad 16), .ref (ad 41), .ref (ad rc), .ref (ad dc)]) ∧ ev 1 = .inl (G.2.2.1, 3, .inr (.inr (.inr (.inr g)))) ∧ (∀ j, j < 3 → g j = some (ad (2 + 2 * j))) ∧ (∀ j, j < 3 → RowAt G ad ev (2 + 2 * j) (R j) 20) ∧ ScrAt G ad ev 8 ops ∧ ScrAt G ad ev 12 (ls.map encO) ∧ WrkAt G ad ev ∧ RowAt G ad ev rc rs 123 ∧ RowAt G ad ev dc ds 123
def DeskAt (G : GG) (ad : Nat → Nat) (ev : Nat → va_E) (lim : Int) (R : Nat → List Int32) (ops : List Tr) (ls : List Op) (lsz : Nat) (rs : List Int32) : Prop :=
  ∃ (rc dc : Nat) (ds : List Int32) (g : Nat → Option Nat), DeskB G ad ev lim R ops ls lsz rc dc rs ds g
def dS : Nat → Prop := fun j => j < 53
/-- a row that is one -/
def isR (z : Int) : Bool := decide (0 ≤ z ∧ z < 3)
def isS (z : Int) : Bool := decide (0 ≤ z ∧ z ≤ 30000)
def isA (z : Int) : Bool := decide (0 ≤ z ∧ z ≤ 9)
theorem DeskB.rows {G : GG} {ad : Nat → Nat} {ev e2 : Nat → va_E} {lim : Int} {R : Nat → List Int32} {ops : List Tr} {ls : List Op} {lsz rc dc : Nat} {rs ds : List Int32} {g : Nat → Option Nat} {j : Nat} {xs : List Int32} (h : DeskB G ad ev lim R ops ls lsz rc dc rs ds g) (hj : j < 3) (hr : RowAt G ad e2 (2 + 2 * j) xs 20) (hF : Fr e2 ev (fun k => k = 2 + 2 * j ∨ k = 2 + 2 * j + 1)) : DeskB G ad e2 lim (va_up R j xs) ops ls lsz rc dc rs ds g := by
  obtain ⟨hb, k0, k1, hg, hr9, h8, h12, hw, hrr, hdd⟩ := h
  refine ⟨hb, (hF _ (by omega)).trans k0, (hF _ (by omega)).trans k1, hg, fun i hi => ?_, h8.fr hF (by omega) (by omega) (by omega) (by omega), h12.fr hF (by omega) (by omega) (by omega) (by omega), hw.fr hF (fun i q => by omega), hrr.fr hF (by omega) (by omega), hdd.fr hF (by omega) (by omega)⟩
  by_cases e : i = j
  · subst e; rw [va_up_self]; exact hr
  · rw [va_up_ne _ _ e]; exact (hr9 i hi).fr hF (by omega) (by omega)
theorem DeskB.ops {G : GG} {ad : Nat → Nat} {ev e2 : Nat → va_E} {lim : Int} {R : Nat → List Int32} {ops ops2 : List Tr} {ls : List Op} {lsz rc dc : Nat} {rs ds : List Int32} {g : Nat → Option Nat} (h : DeskB G ad ev lim R ops ls lsz rc dc rs ds g) (hs : ScrAt G ad e2 8 ops2) (hF : Fr e2 ev (fun k => k = 8 ∨ k = 8 + 1 ∨ k = 8 + 2 ∨ k = 8 + 3)) : DeskB G ad e2 lim R ops2 ls lsz rc dc rs ds g := by
  obtain ⟨hb, k0, k1, hg, hr9, h8, h12, hw, hrr, hdd⟩ := h
  exact ⟨hb, (hF _ (by omega)).trans k0, (hF _ (by omega)).trans k1, hg, fun i hi => (hr9 i hi).fr hF (by omega) (by omega), hs, h12.fr hF (by omega) (by omega) (by omega) (by omega), hw.fr hF (fun i q => by omega), hrr.fr hF (by omega) (by omega), hdd.fr hF (by omega) (by omega)⟩

def pX5_isRow (ev : Nat → va_E) (z : Int) : Option Value → (Nat → va_E) → Prop := fun v e2 => v = some (.int (bI (isR z))) ∧ ev = e2

set_option maxHeartbeats 4000000 in
set_option maxRecDepth 100000 in
theorem TX5_isRow (l : Launch) {G : GG} {N : Nat} {ad : Nat → Nat} {ev : Nat → va_E} {z : Int} (hz1 : -2147483648 ≤ z) (hz2 : z < 2147483648) : Ct l yX5_isRow wsX5_isRow rmX5_isRow [.int (iI z)] G N ad ev 0 0 (pX5_isRow ev z) := by
  unfold pX5_isRow isR
  refine Ct_of (cc := cX5_isRow) (maxL := 1) (ret := some .boolean) (lv := [(0, .int (iI z))]) (by decide) rfl (Nat.le_of_ble_eq_true rfl) rfl ?_
  intro p E s m args below meth c A C hr hnm
  refine n_iload_n C dX5_isRow_0 0 rfl rfl ?_
  refine n_if_lt C dX5_isRow_1 (by decide) (by omega) (by omega) (tgt := 13) (fun c1 => ?_) (fun c1 => ?_)
  · refine n_iconst C dX5_isRow_13 ?_
    exact n_zret C hr dX5_isRow_14 (by decide) (⟨by rw [decide_eq_false (by omega)]; rfl, rfl⟩)
  · refine n_iload_n C dX5_isRow_4 0 rfl rfl ?_
    refine n_iconst C dX5_isRow_5 ?_
    refine n_icmp_ge C dX5_isRow_6 (by decide) (by omega) (by omega) (by omega) (by omega) (tgt := 13) (fun c2 => ?_) (fun c2 => ?_)
    · refine n_iconst C dX5_isRow_13 ?_
      exact n_zret C hr dX5_isRow_14 (by decide) (⟨by rw [decide_eq_false (by omega)]; rfl, rfl⟩)
    · refine n_iconst C dX5_isRow_9 ?_
      refine n_goto (tgt := 14) C dX5_isRow_10 (by decide) ?_
      exact n_zret C hr dX5_isRow_14 (by decide) (⟨by rw [decide_eq_true (by omega)]; rfl, rfl⟩)

def pX5_isSymbol (ev : Nat → va_E) (z : Int) : Option Value → (Nat → va_E) → Prop := fun v e2 => v = some (.int (bI (isS z))) ∧ ev = e2

set_option maxHeartbeats 4000000 in
set_option maxRecDepth 100000 in
theorem TX5_isSymbol (l : Launch) {G : GG} {N : Nat} {ad : Nat → Nat} {ev : Nat → va_E} {z : Int} (hz1 : -2147483648 ≤ z) (hz2 : z < 2147483648) : Ct l yX5_isSymbol wsX5_isSymbol rmX5_isSymbol [.int (iI z)] G N ad ev 0 0 (pX5_isSymbol ev z) := by
  unfold pX5_isSymbol isS
  refine Ct_of (cc := cX5_isSymbol) (maxL := 1) (ret := some .boolean) (lv := [(0, .int (iI z))]) (by decide) rfl (Nat.le_of_ble_eq_true rfl) rfl ?_
  intro p E s m args below meth c A C hr hnm
  refine n_iload_n C dX5_isSymbol_0 0 rfl rfl ?_
  refine n_if_lt C dX5_isSymbol_1 (by decide) (by omega) (by omega) (tgt := 15) (fun c1 => ?_) (fun c1 => ?_)
  · refine n_iconst C dX5_isSymbol_15 ?_
    exact n_zret C hr dX5_isSymbol_16 (by decide) (⟨by rw [decide_eq_false (by omega)]; rfl, rfl⟩)
  · refine n_iload_n C dX5_isSymbol_4 0 rfl rfl ?_
    refine n_sipush C dX5_isSymbol_5 (by decide) ?_
    refine n_icmp_gt C dX5_isSymbol_8 (by decide) (by omega) (by omega) (by omega) (by omega) (tgt := 15) (fun c2 => ?_) (fun c2 => ?_)
    · refine n_iconst C dX5_isSymbol_15 ?_
      exact n_zret C hr dX5_isSymbol_16 (by decide) (⟨by rw [decide_eq_false (by omega)]; rfl, rfl⟩)
    · refine n_iconst C dX5_isSymbol_11 ?_
      refine n_goto (tgt := 16) C dX5_isSymbol_12 (by decide) ?_
      exact n_zret C hr dX5_isSymbol_16 (by decide) (⟨by rw [decide_eq_true (by omega)]; rfl, rfl⟩)

def pX5_isAround (ev : Nat → va_E) (z : Int) : Option Value → (Nat → va_E) → Prop := fun v e2 => v = some (.int (bI (isA z))) ∧ ev = e2

set_option maxHeartbeats 4000000 in
set_option maxRecDepth 100000 in
theorem TX5_isAround (l : Launch) {G : GG} {N : Nat} {ad : Nat → Nat} {ev : Nat → va_E} {z : Int} (hz1 : -2147483648 ≤ z) (hz2 : z < 2147483648) : Ct l yX5_isAround wsX5_isAround rmX5_isAround [.int (iI z)] G N ad ev 0 0 (pX5_isAround ev z) := by
  unfold pX5_isAround isA
  refine Ct_of (cc := cX5_isAround) (maxL := 1) (ret := some .boolean) (lv := [(0, .int (iI z))]) (by decide) rfl (Nat.le_of_ble_eq_true rfl) rfl ?_
  intro p E s m args below meth c A C hr hnm
  refine n_iload_n C dX5_isAround_0 0 rfl rfl ?_
  refine n_if_lt C dX5_isAround_1 (by decide) (by omega) (by omega) (tgt := 14) (fun c1 => ?_) (fun c1 => ?_)
  · refine n_iconst C dX5_isAround_14 ?_
    exact n_zret C hr dX5_isAround_15 (by decide) (⟨by rw [decide_eq_false (by omega)]; rfl, rfl⟩)
  · refine n_iload_n C dX5_isAround_4 0 rfl rfl ?_
    refine n_bipush C dX5_isAround_5 (by decide) ?_
    refine n_icmp_gt C dX5_isAround_7 (by decide) (by omega) (by omega) (by omega) (by omega) (tgt := 14) (fun c2 => ?_) (fun c2 => ?_)
    · refine n_iconst C dX5_isAround_14 ?_
      exact n_zret C hr dX5_isAround_15 (by decide) (⟨by rw [decide_eq_false (by omega)]; rfl, rfl⟩)
    · refine n_iconst C dX5_isAround_10 ?_
      refine n_goto (tgt := 15) C dX5_isAround_11 (by decide) ?_
      exact n_zret C hr dX5_isAround_15 (by decide) (⟨by rw [decide_eq_true (by omega)]; rfl, rfl⟩)

def fdB (R : Nat → List Int32) (z y : Int) : Bool := isR z && (isS y && decide ((R z.toNat).length < 20))
def fdR (R : Nat → List Int32) (z y : Int) : Nat → List Int32 := if fdB R z y then va_up R z.toNat (R z.toNat ++ [iI y]) else R
def pX5_feed (G : GG) (ad : Nat → Nat) (ev : Nat → va_E) (lim : Int) (R : Nat → List Int32) (ops : List Tr) (ls : List Op) (lsz : Nat) (rs : List Int32) (z y : Int) : Option Value → (Nat → va_E) → Prop := fun v e2 => v = some (.int (bI (fdB R z y))) ∧ DeskAt G ad e2 lim (fdR R z y) ops ls lsz rs ∧ Fr e2 ev (fun j => j < 53)

set_option maxHeartbeats 4000000 in
set_option maxRecDepth 100000 in
theorem TX5_feed (l : Launch) {G : GG} {N : Nat} {ad : Nat → Nat} {ev : Nat → va_E} {lim : Int} {R9 : Nat → List Int32} {ops : List Tr} {ls : List Op} {lsz : Nat} {rs9 : List Int32} {z y : Int} (hN : 53 ≤ N) (hD : DeskAt G ad ev lim R9 ops ls lsz rs9) (hza : -2147483648 ≤ z) (hzb : z < 2147483648) (hya : -2147483648 ≤ y) (hyb : y < 2147483648) : Ct l yX5_feed wsX5_feed rmX5_feed [.ref (ad 0), .int (iI z), .int (iI y)] G N ad ev 0 0 (pX5_feed G ad ev lim R9 ops ls lsz rs9 z y) := by
  obtain ⟨rc, dc, ds, g, hB⟩ := hD
  obtain ⟨⟨hli1, hli2, hlsz, hsm, hrd⟩, k0, k1, hg, hr9, h8, h12, hwk, hrr, hdd⟩ := id hB
  refine Ct_of (cc := cX5_feed) (maxL := 3) (ret := some .boolean) (lv := [(0, .ref (ad 0)), (1, .int (iI z)), (2, .int (iI y))]) (by decide) rfl (Nat.le_of_ble_eq_true rfl) rfl ?_
  intro p E s m args below meth c A C hr hnm
  refine n_iload_n C dX5_feed_0 1 rfl rfl ?_
  refine n_callS (rest := []) C dX5_feed_1 (TX5_isRow l hza hzb) (cwS 1 C.2.2.2.2.1 gX5_feed_X5_isRow rfl rfl rfl cdX5_isRow ⟨Nat.le_of_ble_eq_true rfl, Nat.le_of_ble_eq_true rfl⟩) rfl rfl (Nat.le_of_ble_eq_true rfl) ⟨Nat.le_of_ble_eq_true rfl, Nat.le_of_ble_eq_true rfl⟩ ?_
  rintro _ _ ⟨rfl, rfl⟩
  refine n_pc (pc2 := 4) rfl (n_st (st2 := [.int (bI (isR z))]) rfl ?_)
  refine n_if_eqB C dX5_feed_4 (by decide) (tgt := 31) (fun c1 => ?_) (fun c1 => ?_)
  · refine n_iconst C dX5_feed_31 ?_
    have h9 : fdB R9 z y = false := by unfold fdB; rw [c1]; rfl
    exact n_zret C hr dX5_feed_32 (by decide) (⟨by rw [h9]; rfl, by unfold fdR; rw [h9]; exact ⟨rc, dc, ds, g, hB⟩, Fr.rf⟩)
  · refine n_iload_n C dX5_feed_7 2 rfl rfl ?_
    refine n_callS (rest := []) C dX5_feed_8 (TX5_isSymbol l hya hyb) (cwS 1 C.2.2.2.2.1 gX5_feed_X5_isSymbol rfl rfl rfl cdX5_isSymbol ⟨Nat.le_of_ble_eq_true rfl, Nat.le_of_ble_eq_true rfl⟩) rfl rfl (Nat.le_of_ble_eq_true rfl) ⟨Nat.le_of_ble_eq_true rfl, Nat.le_of_ble_eq_true rfl⟩ ?_
    rintro _ _ ⟨rfl, rfl⟩
    refine n_pc (pc2 := 11) rfl (n_st (st2 := [.int (bI (isS y))]) rfl ?_)
    refine n_if_eqB C dX5_feed_11 (by decide) (tgt := 31) (fun c2 => ?_) (fun c2 => ?_)
    · refine n_iconst C dX5_feed_31 ?_
      have h9 : fdB R9 z y = false := by unfold fdB; rw [c1, c2]; rfl
      exact n_zret C hr dX5_feed_32 (by decide) (⟨by rw [h9]; rfl, by unfold fdR; rw [h9]; exact ⟨rc, dc, ds, g, hB⟩, Fr.rf⟩)
    · have c1w := of_decide_eq_true c1
      obtain ⟨j, rfl⟩ : ∃ j : Nat, z = (j : Int) := ⟨z.toNat, by omega⟩
      have hrj := hr9 j (by omega)
      refine n_aload_n C dX5_feed_14 0 rfl rfl ?_
      refine n_get (k9 := 1) C dX5_feed_15 (by omega) k0 hX5_feed_X5 rfl (by decide) kX5_feed_24 rfl ?_
      refine n_iload_n C dX5_feed_18 1 rfl rfl ?_
      refine n_aald (j := j) (q := ad (2 + 2 * j)) C dX5_feed_19 (by omega) k1 (by omega) (by omega) (by omega) (hg j (by omega)) ?_
      refine n_iload_n C dX5_feed_20 2 rfl rfl ?_
      refine n_callV (rest := []) C dX5_feed_21 (TX2_add l (i := 2 + 2 * j) (by omega) hrj (x := iI y)) (cwV 1 C.2.2.2.2.1 gX5_feed_X2_add rfl rfl rfl cdX2_add ⟨Nat.le_of_ble_eq_true rfl, Nat.le_of_ble_eq_true rfl⟩) (by omega) hrj.obj rfl rfl rfl (Nat.le_of_ble_eq_true rfl) ⟨Nat.le_of_ble_eq_true rfl, Nat.le_of_ble_eq_true rfl⟩ ?_
      rintro _ e1 ⟨rfl, hq, hF⟩
      refine n_pc (pc2 := 24) rfl (n_st (st2 := [.int (bI (decide ((R9 j).length < 20)))]) rfl ?_)
      refine n_if_eqB C dX5_feed_24 (by decide) (tgt := 31) (fun c3 => ?_) (fun c3 => ?_)
      · refine n_iconst C dX5_feed_31 ?_
        have c4 := of_decide_eq_false c3
        have h9 : fdB R9 (j : Int) y = false := by unfold fdB; rw [c1, c2, Int.toNat_natCast, c3]; rfl
        rw [if_neg c4] at hq
        have hB2 := hB.rows (by omega) hq hF
        have e9 : va_up R9 j (R9 j) = R9 := funext fun k => by by_cases e : k = j <;> simp [va_up, e]
        rw [e9] at hB2
        exact n_zret C hr dX5_feed_32 (by decide) (⟨by rw [h9]; rfl, by unfold fdR; rw [h9]; exact ⟨rc, dc, ds, g, hB2⟩, hF.mono (fun k hk => by omega)⟩)
      · refine n_iconst C dX5_feed_27 ?_
        refine n_goto (tgt := 32) C dX5_feed_28 (by decide) ?_
        have c4 := of_decide_eq_true c3
        have h9 : fdB R9 (j : Int) y = true := by unfold fdB; rw [c1, c2, Int.toNat_natCast, c3]; rfl
        rw [if_pos c4] at hq
        have hB2 := hB.rows (by omega) hq hF
        exact n_zret C hr dX5_feed_32 (by decide) (⟨by rw [h9]; rfl, by unfold fdR; rw [h9, if_pos rfl, Int.toNat_natCast]; exact ⟨rc, dc, ds, g, hB2⟩, hF.mono (fun k hk => by omega)⟩)

def clR (R : Nat → List Int32) (z : Int) : Nat → List Int32 := if isR z then va_up R z.toNat [] else R
def pX5_clear (G : GG) (ad : Nat → Nat) (ev : Nat → va_E) (lim : Int) (R : Nat → List Int32) (ops : List Tr) (ls : List Op) (lsz : Nat) (rs : List Int32) (z : Int) : Option Value → (Nat → va_E) → Prop := fun v e2 => v = some (.int (bI (isR z))) ∧ DeskAt G ad e2 lim (clR R z) ops ls lsz rs ∧ Fr e2 ev (fun j => j < 53)

set_option maxHeartbeats 4000000 in
set_option maxRecDepth 100000 in
theorem TX5_clear (l : Launch) {G : GG} {N : Nat} {ad : Nat → Nat} {ev : Nat → va_E} {lim : Int} {R9 : Nat → List Int32} {ops : List Tr} {ls : List Op} {lsz : Nat} {rs9 : List Int32} {z : Int} (hN : 53 ≤ N) (hD : DeskAt G ad ev lim R9 ops ls lsz rs9) (hza : -2147483648 ≤ z) (hzb : z < 2147483648) : Ct l yX5_clear wsX5_clear rmX5_clear [.ref (ad 0), .int (iI z)] G N ad ev 0 0 (pX5_clear G ad ev lim R9 ops ls lsz rs9 z) := by
  obtain ⟨rc, dc, ds, g, hB⟩ := hD
  obtain ⟨⟨hli1, hli2, hlsz, hsm, hrd⟩, k0, k1, hg, hr9, h8, h12, hwk, hrr, hdd⟩ := id hB
  refine Ct_of (cc := cX5_clear) (maxL := 2) (ret := some .boolean) (lv := [(0, .ref (ad 0)), (1, .int (iI z))]) (by decide) rfl (Nat.le_of_ble_eq_true rfl) rfl ?_
  intro p E s m args below meth c A C hr hnm
  refine n_iload_n C dX5_clear_0 1 rfl rfl ?_
  refine n_callS (rest := []) C dX5_clear_1 (TX5_isRow l hza hzb) (cwS 1 C.2.2.2.2.1 gX5_clear_X5_isRow rfl rfl rfl cdX5_isRow ⟨Nat.le_of_ble_eq_true rfl, Nat.le_of_ble_eq_true rfl⟩) rfl rfl (Nat.le_of_ble_eq_true rfl) ⟨Nat.le_of_ble_eq_true rfl, Nat.le_of_ble_eq_true rfl⟩ ?_
  rintro _ _ ⟨rfl, rfl⟩
  refine n_pc (pc2 := 4) rfl (n_st (st2 := [.int (bI (isR z))]) rfl ?_)
  refine n_if_neB C dX5_clear_4 (by decide) (tgt := 9) (fun c1 => ?_) (fun c1 => ?_)
  · have c1w := of_decide_eq_true c1
    obtain ⟨j, rfl⟩ : ∃ j : Nat, z = (j : Int) := ⟨z.toNat, by omega⟩
    have hrj := hr9 j (by omega)
    refine n_aload_n C dX5_clear_9 0 rfl rfl ?_
    refine n_get (k9 := 1) C dX5_clear_10 (by omega) k0 hX5_clear_X5 rfl (by decide) kX5_clear_24 rfl ?_
    refine n_iload_n C dX5_clear_13 1 rfl rfl ?_
    refine n_aald (j := j) (q := ad (2 + 2 * j)) C dX5_clear_14 (by omega) k1 (by omega) (by omega) (by omega) (hg j (by omega)) ?_
    refine n_callV (rest := []) C dX5_clear_15 (TX2_empty l (i := 2 + 2 * j) (by omega) hrj) (cwV 0 C.2.2.2.2.1 gX5_clear_X2_empty rfl rfl rfl cdX2_empty ⟨Nat.le_of_ble_eq_true rfl, Nat.le_of_ble_eq_true rfl⟩) (by omega) hrj.obj rfl rfl rfl (Nat.le_of_ble_eq_true rfl) ⟨Nat.le_of_ble_eq_true rfl, Nat.le_of_ble_eq_true rfl⟩ ?_
    rintro _ e1 ⟨rfl, hq, hF⟩
    refine n_pc (pc2 := 18) rfl (n_st (st2 := []) rfl ?_)
    refine n_iconst C dX5_clear_18 ?_
    exact n_zret C hr dX5_clear_19 (by decide) (⟨by rw [c1]; rfl, by unfold clR; rw [c1, if_pos rfl, Int.toNat_natCast]; exact ⟨rc, dc, ds, g, hB.rows (by omega) hq hF⟩, hF.mono (fun k hk => by omega)⟩)
  · refine n_iconst C dX5_clear_7 ?_
    exact n_zret C hr dX5_clear_8 (by decide) (⟨by rw [c1]; rfl, by unfold clR; rw [c1]; exact ⟨rc, dc, ds, g, hB⟩, Fr.rf⟩)

def szS (R : Nat → List Int32) (z : Int) : Int := if isR z then ((R z.toNat).length : Int) else -1
def pX5_size (ev : Nat → va_E) (R : Nat → List Int32) (z : Int) : Option Value → (Nat → va_E) → Prop := fun v e2 => v = some (.int (iI (szS R z))) ∧ ev = e2

set_option maxHeartbeats 4000000 in
set_option maxRecDepth 100000 in
theorem TX5_size (l : Launch) {G : GG} {N : Nat} {ad : Nat → Nat} {ev : Nat → va_E} {lim : Int} {R9 : Nat → List Int32} {ops : List Tr} {ls : List Op} {lsz : Nat} {rs9 : List Int32} {z : Int} (hN : 53 ≤ N) (hD : DeskAt G ad ev lim R9 ops ls lsz rs9) (hza : -2147483648 ≤ z) (hzb : z < 2147483648) : Ct l yX5_size wsX5_size rmX5_size [.ref (ad 0), .int (iI z)] G N ad ev 0 0 (pX5_size ev R9 z) := by
  obtain ⟨rc, dc, ds, g, hB⟩ := hD
  obtain ⟨⟨hli1, hli2, hlsz, hsm, hrd⟩, k0, k1, hg, hr9, h8, h12, hwk, hrr, hdd⟩ := id hB
  refine Ct_of (cc := cX5_size) (maxL := 2) (ret := some .int) (lv := [(0, .ref (ad 0)), (1, .int (iI z))]) (by decide) rfl (Nat.le_of_ble_eq_true rfl) rfl ?_
  intro p E s m args below meth c A C hr hnm
  refine n_iload_n C dX5_size_0 1 rfl rfl ?_
  refine n_callS (rest := []) C dX5_size_1 (TX5_isRow l hza hzb) (cwS 1 C.2.2.2.2.1 gX5_size_X5_isRow rfl rfl rfl cdX5_isRow ⟨Nat.le_of_ble_eq_true rfl, Nat.le_of_ble_eq_true rfl⟩) rfl rfl (Nat.le_of_ble_eq_true rfl) ⟨Nat.le_of_ble_eq_true rfl, Nat.le_of_ble_eq_true rfl⟩ ?_
  rintro _ _ ⟨rfl, rfl⟩
  refine n_pc (pc2 := 4) rfl (n_st (st2 := [.int (bI (isR z))]) rfl ?_)
  refine n_if_eqB C dX5_size_4 (by decide) (tgt := 19) (fun c1 => ?_) (fun c1 => ?_)
  · refine n_iconst C dX5_size_19 ?_
    exact n_iret C hr dX5_size_20 (⟨by unfold szS; rw [c1]; rfl, rfl⟩)
  · have c1w := of_decide_eq_true c1
    obtain ⟨j, rfl⟩ : ∃ j : Nat, z = (j : Int) := ⟨z.toNat, by omega⟩
    have hrj := hr9 j (by omega)
    refine n_aload_n C dX5_size_7 0 rfl rfl ?_
    refine n_get (k9 := 1) C dX5_size_8 (by omega) k0 hX5_size_X5 rfl (by decide) kX5_size_24 rfl ?_
    refine n_iload_n C dX5_size_11 1 rfl rfl ?_
    refine n_aald (j := j) (q := ad (2 + 2 * j)) C dX5_size_12 (by omega) k1 (by omega) (by omega) (by omega) (hg j (by omega)) ?_
    refine n_getN (k9 := 1) C dX5_size_13 (by omega) hrj.obj hX5_size_X2 rfl (by decide) kn_X5_80 rfl ?_
    refine n_goto (tgt := 20) C dX5_size_16 (by decide) ?_
    exact n_iret C hr dX5_size_20 (⟨by unfold szS; rw [c1, Int.toNat_natCast]; rfl, rfl⟩)

def syS (R : Nat → List Int32) (z k : Int) : Int32 := (if isR z then atD (R z.toNat) k (iI (-1)) else iI (-1)).toInt16.toInt32
def pX5_symbol (ev : Nat → va_E) (R : Nat → List Int32) (z k : Int) : Option Value → (Nat → va_E) → Prop := fun v e2 => v = some (.int (syS R z k)) ∧ ev = e2

set_option maxHeartbeats 4000000 in
set_option maxRecDepth 100000 in
theorem TX5_symbol (l : Launch) {G : GG} {N : Nat} {ad : Nat → Nat} {ev : Nat → va_E} {lim : Int} {R9 : Nat → List Int32} {ops : List Tr} {ls : List Op} {lsz : Nat} {rs9 : List Int32} {z k : Int} (hN : 53 ≤ N) (hD : DeskAt G ad ev lim R9 ops ls lsz rs9) (hza : -2147483648 ≤ z) (hzb : z < 2147483648) (hka : -2147483648 ≤ k) (hkb : k < 2147483648) : Ct l yX5_symbol wsX5_symbol rmX5_symbol [.ref (ad 0), .int (iI z), .int (iI k)] G N ad ev 0 0 (pX5_symbol ev R9 z k) := by
  obtain ⟨rc, dc, ds, g, hB⟩ := hD
  obtain ⟨⟨hli1, hli2, hlsz, hsm, hrd⟩, k0, k1, hg, hr9, h8, h12, hwk, hrr, hdd⟩ := id hB
  refine Ct_of (cc := cX5_symbol) (maxL := 3) (ret := some .short) (lv := [(0, .ref (ad 0)), (1, .int (iI z)), (2, .int (iI k))]) (by decide) rfl (Nat.le_of_ble_eq_true rfl) rfl ?_
  intro p E s m args below meth c A C hr hnm
  refine n_iload_n C dX5_symbol_0 1 rfl rfl ?_
  refine n_callS (rest := []) C dX5_symbol_1 (TX5_isRow l hza hzb) (cwS 1 C.2.2.2.2.1 gX5_symbol_X5_isRow rfl rfl rfl cdX5_isRow ⟨Nat.le_of_ble_eq_true rfl, Nat.le_of_ble_eq_true rfl⟩) rfl rfl (Nat.le_of_ble_eq_true rfl) ⟨Nat.le_of_ble_eq_true rfl, Nat.le_of_ble_eq_true rfl⟩ ?_
  rintro _ _ ⟨rfl, rfl⟩
  refine n_pc (pc2 := 4) rfl (n_st (st2 := [.int (bI (isR z))]) rfl ?_)
  refine n_if_eqB C dX5_symbol_4 (by decide) (tgt := 22) (fun c1 => ?_) (fun c1 => ?_)
  · refine n_iconst C dX5_symbol_22 ?_
    exact n_zret C hr dX5_symbol_23 (by decide) (⟨by unfold syS; rw [c1]; rfl, rfl⟩)
  · have c1w := of_decide_eq_true c1
    obtain ⟨j, rfl⟩ : ∃ j : Nat, z = (j : Int) := ⟨z.toNat, by omega⟩
    have hrj := hr9 j (by omega)
    refine n_aload_n C dX5_symbol_7 0 rfl rfl ?_
    refine n_get (k9 := 1) C dX5_symbol_8 (by omega) k0 hX5_symbol_X5 rfl (by decide) kX5_symbol_24 rfl ?_
    refine n_iload_n C dX5_symbol_11 1 rfl rfl ?_
    refine n_aald (j := j) (q := ad (2 + 2 * j)) C dX5_symbol_12 (by omega) k1 (by omega) (by omega) (by omega) (hg j (by omega)) ?_
    refine n_iload_n C dX5_symbol_13 2 rfl rfl ?_
    refine n_iconst C dX5_symbol_14 ?_
    refine n_callV (rest := []) C dX5_symbol_15 (TX2_at l (i := 2 + 2 * j) (by omega) hrj hka hkb) (cwV 2 C.2.2.2.2.1 gX5_symbol_X2_at rfl rfl rfl cdX2_at ⟨Nat.le_of_ble_eq_true rfl, Nat.le_of_ble_eq_true rfl⟩) (by omega) hrj.obj rfl rfl rfl (Nat.le_of_ble_eq_true rfl) ⟨Nat.le_of_ble_eq_true rfl, Nat.le_of_ble_eq_true rfl⟩ ?_
    rintro _ _ ⟨rfl, rfl⟩
    refine n_pc (pc2 := 18) rfl (n_st (st2 := [.int (atD (R9 j) k (iI (-1)))]) rfl ?_)
    refine n_i2sR C dX5_symbol_18 ?_
    refine n_goto (tgt := 23) C dX5_symbol_19 (by decide) ?_
    exact n_zret C hr dX5_symbol_23 (pk_ns _) (⟨by unfold syS; rw [c1, Int.toNat_natCast]; rfl, rfl⟩)

def opS (ops : List Tr) (z q : Int) : Int32 := if 0 ≤ z ∧ z < ops.length then (if q = 0 then (ops.getD z.toNat (0, 0, 0)).1 else if q = 1 then (ops.getD z.toNat (0, 0, 0)).2.1 else if q = 2 then (ops.getD z.toNat (0, 0, 0)).2.2 else iI (-1)) else iI (-1)
theorem opS_in {ops : List Tr} {j : Nat} {q : Int} {t : Tr} (hj : j < ops.length) (ht : ops[j]? = some t) : opS ops (j : Int) q = if q = 0 then t.1 else if q = 1 then t.2.1 else if q = 2 then t.2.2 else iI (-1) := by
  unfold opS
  rw [if_pos ⟨by omega, by omega⟩]
  simp [List.getD, ht]
def pX5_operation (ev : Nat → va_E) (ops : List Tr) (z q : Int) : Option Value → (Nat → va_E) → Prop := fun v e2 => v = some (.int (opS ops z q)) ∧ ev = e2

set_option maxHeartbeats 4000000 in
set_option maxRecDepth 100000 in
theorem TX5_operation (l : Launch) {G : GG} {N : Nat} {ad : Nat → Nat} {ev : Nat → va_E} {lim : Int} {R9 : Nat → List Int32} {ops : List Tr} {ls : List Op} {lsz : Nat} {rs9 : List Int32} {z q : Int} (hN : 53 ≤ N) (hD : DeskAt G ad ev lim R9 ops ls lsz rs9) (hza : -2147483648 ≤ z) (hzb : z < 2147483648) (hqa : -2147483648 ≤ q) (hqb : q < 2147483648) : Ct l yX5_operation wsX5_operation rmX5_operation [.ref (ad 0), .int (iI z), .int (iI q)] G N ad ev 0 0 (pX5_operation ev ops z q) := by
  obtain ⟨rc, dc, ds, g, hB⟩ := hD
  obtain ⟨⟨hli1, hli2, hlsz, hsm, hrd⟩, k0, k1, hg, hr9, h8, h12, hwk, hrr, hdd⟩ := id hB
  obtain ⟨fk, fp, fs, -, g1, g2, g3, hf, hlc⟩ := id h8
  refine Ct_of (cc := cX5_operation) (maxL := 3) (ret := some .int) (lv := [(0, .ref (ad 0)), (1, .int (iI z)), (2, .int (iI q))]) (by decide) rfl (Nat.le_of_ble_eq_true rfl) rfl ?_
  intro p E s m args below meth c A C hr hnm
  refine n_aload_n C dX5_operation_0 0 rfl rfl ?_
  refine n_get (k9 := 2) C dX5_operation_1 (by omega) k0 hX5_operation_X5 rfl (by decide) kX5_operation_34 rfl ?_
  refine n_iload_n C dX5_operation_4 1 rfl rfl ?_
  refine n_callV (rest := []) C dX5_operation_5 (TX3_has l (i := 8) (by omega) h8 hza hzb) (cwV 1 C.2.2.2.2.1 gX5_operation_X3_has rfl rfl rfl cdX3_has ⟨Nat.le_of_ble_eq_true rfl, Nat.le_of_ble_eq_true rfl⟩) (by omega) h8.obj rfl rfl rfl (Nat.le_of_ble_eq_true rfl) ⟨Nat.le_of_ble_eq_true rfl, Nat.le_of_ble_eq_true rfl⟩ ?_
  rintro _ _ ⟨rfl, rfl⟩
  refine n_pc (pc2 := 8) rfl (n_st (st2 := [.int (bI (decide (0 ≤ z ∧ z < ops.length)))]) rfl ?_)
  refine n_if_neB C dX5_operation_8 (by decide) (tgt := 13) (fun c1 => ?_) (fun c1 => ?_)
  · have c2 := of_decide_eq_true c1
    obtain ⟨j, rfl⟩ : ∃ j : Nat, z = (j : Int) := ⟨z.toNat, by omega⟩
    have hj9 := opS_in (q := q) (show j < ops.length by omega) (hf j (by omega))
    refine n_iload_n C dX5_operation_13 2 rfl rfl ?_
    rcases (show q = 0 ∨ q = 1 ∨ q = 2 ∨ (q < 0 ∨ 2 < q) by omega) with rfl | rfl | rfl | hq
    · refine n_tswIn (off := 26) (tgt := 40) C dX5_operation_14 (by decide) (by decide) (by decide) (by decide) (by decide) (by decide) ?_
      refine n_aload_n C dX5_operation_40 0 rfl rfl ?_
      refine n_get (k9 := 2) C dX5_operation_41 (by omega) k0 hX5_operation_X5 rfl (by decide) kX5_operation_34 rfl ?_
      refine n_getN (k9 := 0) C dX5_operation_44 (by omega) h8.obj hX5_operation_X3 rfl (by decide) kn_X5_114 rfl ?_
      refine n_iload_n C dX5_operation_47 1 rfl rfl ?_
      refine n_iald (j := j) C dX5_operation_48 (by omega) g1 (by omega) (by omega) (by omega) ?_
      exact n_iret C hr dX5_operation_49 (⟨by rw [hj9]; rfl, rfl⟩)
    · refine n_tswIn (off := 36) (tgt := 50) C dX5_operation_14 (by decide) (by decide) (by decide) (by decide) (by decide) (by decide) ?_
      refine n_aload_n C dX5_operation_50 0 rfl rfl ?_
      refine n_get (k9 := 2) C dX5_operation_51 (by omega) k0 hX5_operation_X5 rfl (by decide) kX5_operation_34 rfl ?_
      refine n_getN (k9 := 1) C dX5_operation_54 (by omega) h8.obj hX5_operation_X3 rfl (by decide) kn_X5_118 rfl ?_
      refine n_iload_n C dX5_operation_57 1 rfl rfl ?_
      refine n_iald (j := j) C dX5_operation_58 (by omega) g2 (by omega) (by omega) (by omega) ?_
      exact n_iret C hr dX5_operation_59 (⟨by rw [hj9]; rfl, rfl⟩)
    · refine n_tswIn (off := 46) (tgt := 60) C dX5_operation_14 (by decide) (by decide) (by decide) (by decide) (by decide) (by decide) ?_
      refine n_aload_n C dX5_operation_60 0 rfl rfl ?_
      refine n_get (k9 := 2) C dX5_operation_61 (by omega) k0 hX5_operation_X5 rfl (by decide) kX5_operation_34 rfl ?_
      refine n_getN (k9 := 2) C dX5_operation_64 (by omega) h8.obj hX5_operation_X3 rfl (by decide) kn_X5_121 rfl ?_
      refine n_iload_n C dX5_operation_67 1 rfl rfl ?_
      refine n_iald (j := j) C dX5_operation_68 (by omega) g3 (by omega) (by omega) (by omega) ?_
      exact n_iret C hr dX5_operation_69 (⟨by rw [hj9]; rfl, rfl⟩)
    · refine n_tswOut (tgt := 70) C dX5_operation_14 (by omega) (by omega) hq (by decide) ?_
      refine n_iconst C dX5_operation_70 ?_
      exact n_iret C hr dX5_operation_71 (⟨by rw [hj9, if_neg (by omega), if_neg (by omega), if_neg (by omega)], rfl⟩)
  · refine n_iconst C dX5_operation_11 ?_
    exact n_iret C hr dX5_operation_12 (⟨by unfold opS; rw [if_neg (of_decide_eq_false c1)], rfl⟩)

def pX5_forget (G : GG) (ad : Nat → Nat) (ev : Nat → va_E) (lim : Int) (R : Nat → List Int32) (ls : List Op) (lsz : Nat) (rs : List Int32) : Option Value → (Nat → va_E) → Prop := fun v e2 => v = none ∧ DeskAt G ad e2 lim R [] ls lsz rs ∧ Fr e2 ev (fun j => j < 53)

set_option maxHeartbeats 4000000 in
set_option maxRecDepth 100000 in
theorem TX5_forget (l : Launch) {G : GG} {N : Nat} {ad : Nat → Nat} {ev : Nat → va_E} {lim : Int} {R9 : Nat → List Int32} {ops : List Tr} {ls : List Op} {lsz : Nat} {rs9 : List Int32} (hN : 53 ≤ N) (hD : DeskAt G ad ev lim R9 ops ls lsz rs9) : Ct l yX5_forget wsX5_forget rmX5_forget [.ref (ad 0)] G N ad ev 0 0 (pX5_forget G ad ev lim R9 ls lsz rs9) := by
  obtain ⟨rc, dc, ds, g, hB⟩ := hD
  obtain ⟨⟨hli1, hli2, hlsz, hsm, hrd⟩, k0, k1, hg, hr9, h8, h12, hwk, hrr, hdd⟩ := id hB
  refine Ct_of (cc := cX5_forget) (maxL := 1) (ret := none) (lv := [(0, .ref (ad 0))]) (by decide) rfl (Nat.le_of_ble_eq_true rfl) rfl ?_
  intro p E s m args below meth c A C hr hnm
  refine n_aload_n C dX5_forget_0 0 rfl rfl ?_
  refine n_get (k9 := 2) C dX5_forget_1 (by omega) k0 hX5_forget_X5 rfl (by decide) kX5_forget_34 rfl ?_
  refine n_callV (rest := []) C dX5_forget_4 (TX3_empty l (i := 8) (by omega) h8) (cwV 0 C.2.2.2.2.1 gX5_forget_X3_empty rfl rfl rfl cdX3_empty ⟨Nat.le_of_ble_eq_true rfl, Nat.le_of_ble_eq_true rfl⟩) (by omega) h8.obj rfl rfl rfl (Nat.le_of_ble_eq_true rfl) ⟨Nat.le_of_ble_eq_true rfl, Nat.le_of_ble_eq_true rfl⟩ ?_
  rintro _ e1 ⟨rfl, hq, hF⟩
  refine n_pc (pc2 := 7) rfl (n_st (st2 := []) rfl ?_)
  exact n_vret C hr dX5_forget_7 (⟨rfl, ⟨rc, dc, ds, g, hB.ops hq hF⟩, hF.mono (fun k hk => by omega)⟩)

def ldO (ops : List Tr) (x y z : Int32) : List Tr := if ops.length < 60 then ops ++ [(x, y, z)] else ops
def pX5_load (G : GG) (ad : Nat → Nat) (ev : Nat → va_E) (lim : Int) (R : Nat → List Int32) (ops : List Tr) (ls : List Op) (lsz : Nat) (rs : List Int32) (x y z : Int32) : Option Value → (Nat → va_E) → Prop := fun v e2 => v = some (.int (bI (decide (ops.length < 60)))) ∧ DeskAt G ad e2 lim R (ldO ops x y z) ls lsz rs ∧ Fr e2 ev (fun j => j < 53)
theorem nar_b (b : Bool) : narrow .boolean (.int (bI b)) = .int (bI b) := by cases b <;> decide

set_option maxHeartbeats 4000000 in
set_option maxRecDepth 100000 in
theorem TX5_load (l : Launch) {G : GG} {N : Nat} {ad : Nat → Nat} {ev : Nat → va_E} {lim : Int} {R9 : Nat → List Int32} {ops : List Tr} {ls : List Op} {lsz : Nat} {rs9 : List Int32} {x y z : Int32} (hN : 53 ≤ N) (hD : DeskAt G ad ev lim R9 ops ls lsz rs9) : Ct l yX5_load wsX5_load rmX5_load [.ref (ad 0), .int x, .int y, .int z] G N ad ev 0 0 (pX5_load G ad ev lim R9 ops ls lsz rs9 x y z) := by
  obtain ⟨rc, dc, ds, g, hB⟩ := hD
  obtain ⟨⟨hli1, hli2, hlsz, hsm, hrd⟩, k0, k1, hg, hr9, h8, h12, hwk, hrr, hdd⟩ := id hB
  refine Ct_of (cc := cX5_load) (maxL := 4) (ret := some .boolean) (lv := [(0, .ref (ad 0)), (1, .int x), (2, .int y), (3, .int z)]) (by decide) rfl (Nat.le_of_ble_eq_true rfl) rfl ?_
  intro p E s m args below meth c A C hr hnm
  refine n_aload_n C dX5_load_0 0 rfl rfl ?_
  refine n_get (k9 := 2) C dX5_load_1 (by omega) k0 hX5_load_X5 rfl (by decide) kX5_load_34 rfl ?_
  refine n_iload_n C dX5_load_4 1 rfl rfl ?_
  refine n_iload_n C dX5_load_5 2 rfl rfl ?_
  refine n_iload_n C dX5_load_6 3 rfl rfl ?_
  refine n_callV (rest := []) C dX5_load_7 (TX3_add l (i := 8) (by omega) h8) (cwV 3 C.2.2.2.2.1 gX5_load_X3_add rfl rfl rfl cdX3_add ⟨Nat.le_of_ble_eq_true rfl, Nat.le_of_ble_eq_true rfl⟩) (by omega) h8.obj rfl rfl rfl (Nat.le_of_ble_eq_true rfl) ⟨Nat.le_of_ble_eq_true rfl, Nat.le_of_ble_eq_true rfl⟩ ?_
  rintro _ e1 ⟨rfl, hq, hF⟩
  refine n_pc (pc2 := 10) rfl (n_st (st2 := [.int (bI (decide (ops.length < 60)))]) rfl ?_)
  exact n_zret C hr dX5_load_10 (nar_b _) (⟨rfl, ⟨rc, dc, ds, g, hB.ops hq hF⟩, hF.mono (fun k hk => by omega)⟩)

def pX5_result (ev : Nat → va_E) (rs : List Int32) (z : Int) : Option Value → (Nat → va_E) → Prop := fun v e2 => v = some (.int (atD rs z (iI (-40)))) ∧ ev = e2

set_option maxHeartbeats 4000000 in
set_option maxRecDepth 100000 in
theorem TX5_result (l : Launch) {G : GG} {N : Nat} {ad : Nat → Nat} {ev : Nat → va_E} {lim : Int} {R9 : Nat → List Int32} {ops : List Tr} {ls : List Op} {lsz : Nat} {rs9 : List Int32} {z : Int} (hN : 53 ≤ N) (hD : DeskAt G ad ev lim R9 ops ls lsz rs9) (hza : -2147483648 ≤ z) (hzb : z < 2147483648) : Ct l yX5_result wsX5_result rmX5_result [.ref (ad 0), .int (iI z)] G N ad ev 0 0 (pX5_result ev rs9 z) := by
  obtain ⟨rc, dc, ds, g, hB⟩ := hD
  obtain ⟨⟨hli1, hli2, hlsz, hsm, hrd⟩, k0, k1, hg, hr9, h8, h12, hwk, hrr, hdd⟩ := id hB
  refine Ct_of (cc := cX5_result) (maxL := 2) (ret := some .int) (lv := [(0, .ref (ad 0)), (1, .int (iI z))]) (by decide) rfl (Nat.le_of_ble_eq_true rfl) rfl ?_
  intro p E s m args below meth c A C hr hnm
  refine n_aload_n C dX5_result_0 0 rfl rfl ?_
  refine n_get (k9 := 7) C dX5_result_1 (by omega) k0 hX5_result_X5 rfl (by decide) kX5_result_60 rfl ?_
  refine n_iload_n C dX5_result_4 1 rfl rfl ?_
  refine n_bipush C dX5_result_5 (by decide) ?_
  refine n_callV (rest := []) C dX5_result_7 (TX2_at l (i := rc) (by omega) hrr hza hzb) (cwV 2 C.2.2.2.2.1 gX5_result_X2_at rfl rfl rfl cdX2_at ⟨Nat.le_of_ble_eq_true rfl, Nat.le_of_ble_eq_true rfl⟩) (by omega) hrr.obj rfl rfl rfl (Nat.le_of_ble_eq_true rfl) ⟨Nat.le_of_ble_eq_true rfl, Nat.le_of_ble_eq_true rfl⟩ ?_
  rintro _ _ ⟨rfl, rfl⟩
  refine n_pc (pc2 := 10) rfl (n_st (st2 := [.int (atD rs9 z (iI (-40)))]) rfl ?_)
  exact n_iret C hr dX5_result_10 (⟨rfl, rfl⟩)

def pX5_results (ev : Nat → va_E) (rs : List Int32) : Option Value → (Nat → va_E) → Prop := fun v e2 => v = some (.int (iI (rs.length : Int))) ∧ ev = e2

set_option maxHeartbeats 4000000 in
set_option maxRecDepth 100000 in
theorem TX5_results (l : Launch) {G : GG} {N : Nat} {ad : Nat → Nat} {ev : Nat → va_E} {lim : Int} {R9 : Nat → List Int32} {ops : List Tr} {ls : List Op} {lsz : Nat} {rs9 : List Int32} (hN : 53 ≤ N) (hD : DeskAt G ad ev lim R9 ops ls lsz rs9) : Ct l yX5_results wsX5_results rmX5_results [.ref (ad 0)] G N ad ev 0 0 (pX5_results ev rs9) := by
  obtain ⟨rc, dc, ds, g, hB⟩ := hD
  obtain ⟨⟨hli1, hli2, hlsz, hsm, hrd⟩, k0, k1, hg, hr9, h8, h12, hwk, hrr, hdd⟩ := id hB
  refine Ct_of (cc := cX5_results) (maxL := 1) (ret := some .int) (lv := [(0, .ref (ad 0))]) (by decide) rfl (Nat.le_of_ble_eq_true rfl) rfl ?_
  intro p E s m args below meth c A C hr hnm
  refine n_aload_n C dX5_results_0 0 rfl rfl ?_
  refine n_get (k9 := 7) C dX5_results_1 (by omega) k0 hX5_results_X5 rfl (by decide) kX5_results_60 rfl ?_
  refine n_getN (k9 := 1) C dX5_results_4 (by omega) hrr.obj hX5_results_X2 rfl (by decide) kn_X5_80 rfl ?_
  exact n_iret C hr dX5_results_7 (⟨rfl, rfl⟩)

def pX5_merge (G : GG) (ad : Nat → Nat) (ev : Nat → va_E) (lim : Int) (R : Nat → List Int32) (ops : List Tr) (ls : List Op) (lsz : Nat) : Option Value → (Nat → va_E) → Prop := fun v e2 => v = some (.int (iI ((mrg (R 0) (R 1) (R 2)).2 : Int))) ∧ DeskAt G ad e2 lim R ops ls lsz (mrg (R 0) (R 1) (R 2)).1 ∧ Fr e2 ev (fun j => j < 53)

set_option maxHeartbeats 4000000 in
set_option maxRecDepth 100000 in
theorem TX5_merge (l : Launch) {G : GG} {N : Nat} {ad : Nat → Nat} {ev : Nat → va_E} {lim : Int} {R9 : Nat → List Int32} {ops : List Tr} {ls : List Op} {lsz : Nat} {rs9 : List Int32} (hN : 53 ≤ N) (hD : DeskAt G ad ev lim R9 ops ls lsz rs9) : Ct l yX5_merge wsX5_merge rmX5_merge [.ref (ad 0)] G N ad ev 0 0 (pX5_merge G ad ev lim R9 ops ls lsz) := by
  obtain ⟨rc, dc, ds, g, hB⟩ := hD
  obtain ⟨⟨hli1, hli2, hlsz, hsm, hrd⟩, k0, k1, hg, hr9, h8, h12, hwk, hrr, hdd⟩ := id hB
  refine Ct_of (cc := cX5_merge) (maxL := 1) (ret := some .int) (lv := [(0, .ref (ad 0))]) (by decide) rfl (Nat.le_of_ble_eq_true rfl) rfl ?_
  intro p E s m args below meth c A C hr hnm
  refine n_aload_n C dX5_merge_0 0 rfl rfl ?_
  refine n_get (k9 := 7) C dX5_merge_1 (by omega) k0 hX5_merge_X5 rfl (by decide) kX5_merge_60 rfl ?_
  refine n_callV (rest := []) C dX5_merge_4 (TX2_empty l (i := rc) (by omega) hrr) (cwV 0 C.2.2.2.2.1 gX5_merge_X2_empty rfl rfl rfl cdX2_empty ⟨Nat.le_of_ble_eq_true rfl, Nat.le_of_ble_eq_true rfl⟩) (by omega) hrr.obj rfl rfl rfl (Nat.le_of_ble_eq_true rfl) ⟨Nat.le_of_ble_eq_true rfl, Nat.le_of_ble_eq_true rfl⟩ ?_
  rintro _ e1 ⟨rfl, hrr, hF⟩
  refine n_pc (pc2 := 7) rfl (n_st (st2 := []) rfl ?_)
  have r2 := (hr9 0 (by omega)).fr hF (by omega) (by omega)
  have r4 := (hr9 1 (by omega)).fr hF (by omega) (by omega)
  have r6 := (hr9 2 (by omega)).fr hF (by omega) (by omega)
  have hwk := hwk.fr hF (fun j q => by omega)
  have hdd := hdd.fr hF (by omega) (by omega)
  have k0 := (hF _ (by omega)).trans k0
  have k1 := (hF _ (by omega)).trans k1
  have h8 := h8.fr hF (by omega) (by omega) (by omega) (by omega)
  have h12 := h12.fr hF (by omega) (by omega) (by omega) (by omega)
  refine n_aload_n C dX5_merge_7 0 rfl rfl ?_
  refine n_get (k9 := 6) C dX5_merge_8 (by omega) k0 hX5_merge_X5 rfl (by decide) kX5_merge_56 rfl ?_
  refine n_aload_n C dX5_merge_11 0 rfl rfl ?_
  refine n_get (k9 := 7) C dX5_merge_12 (by omega) k0 hX5_merge_X5 rfl (by decide) kX5_merge_60 rfl ?_
  refine n_aload_n C dX5_merge_15 0 rfl rfl ?_
  refine n_get (k9 := 5) C dX5_merge_16 (by omega) k0 hX5_merge_X5 rfl (by decide) kX5_merge_47 rfl ?_
  refine n_callV (rest := []) C dX5_merge_19 (TX1_mergeTo l hN hwk r2 r4 r6 (r := rc) (by omega) (by omega) hrr) (cwV 2 C.2.2.2.2.1 gX5_merge_X1_mergeTo rfl rfl rfl cdX1_mergeTo ⟨Nat.le_of_ble_eq_true rfl, Nat.le_of_ble_eq_true rfl⟩) (by omega) hwk.2.1 rfl rfl rfl (Nat.le_of_ble_eq_true rfl) ⟨Nat.le_of_ble_eq_true rfl, Nat.le_of_ble_eq_true rfl⟩ ?_
  rintro _ e2 ⟨rfl, hrr, hwk, hF2⟩
  refine n_pc (pc2 := 22) rfl (n_st (st2 := [.int (iI ((mrg (R9 0) (R9 1) (R9 2)).2 : Int))]) rfl ?_)
  have hdd := hdd.fr hF2 (by omega) (by omega)
  have k0 := (hF2 _ (by omega)).trans k0
  have k1 := (hF2 _ (by omega)).trans k1
  have h8 := h8.fr hF2 (by omega) (by omega) (by omega) (by omega)
  have h12 := h12.fr hF2 (by omega) (by omega) (by omega) (by omega)
  exact n_iret C hr dX5_merge_22 (⟨rfl, ⟨rc, dc, ds, g, ⟨hli1, hli2, hlsz, hsm, hrd⟩, k0, k1, hg, fun j hj => ((hr9 j hj).fr hF (by omega) (by omega)).fr hF2 (by omega) (by omega), h8, h12, hwk, hrr, hdd⟩, fun j hj => (hF2 j (by omega)).trans (hF j (by omega))⟩)
end
