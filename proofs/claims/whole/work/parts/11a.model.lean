/-! DiffDeskModel: cells 53 .. 65 -/
abbrev mO (ad : Nat → Nat) (lim thr : Int) (no : Nat) (cmp : Bool) (nl lsz nr : Nat) : va_E := .inr (6, [.int (iI lim), .int (iI thr), .ref (ad 54), .ref (ad 55), .int (iI (no : Int)), .ref (ad 56), .ref (ad 57), .ref (ad 58), .int (bI cmp), .int (iI (nl : Int)), .int (iI (lsz : Int)), .ref (ad 59), .ref (ad 60), .int (iI (nr : Int)), .ref (ad 61), .ref (ad 62), .ref (ad 63), .ref (ad 64), .ref (ad 65)])
def MRows (G : GG) (ev : Nat → va_E) (R : Nat → List Int32) (fz fy : Nat → Int32) : Prop := ev 54 = .inl (G.2.1, 3, .inl fz) ∧ ev 55 = .inl (G.2.1, 60, .inl fy) ∧ ∀ j, j < 3 → fz j = iI ((R j).length : Int) ∧ (R j).length ≤ 20 ∧ ∀ k, k < (R j).length → (R j)[k]? = some (fy (20 * j + k))
def MOps (G : GG) (ev : Nat → va_E) (ops : List Tr) (fk fp fs : Nat → Int32) : Prop := ev 56 = .inl (G.2.1, 60, .inl fk) ∧ ev 57 = .inl (G.2.1, 60, .inl fp) ∧ ev 58 = .inl (G.2.1, 60, .inl fs) ∧ (∀ j, j < ops.length → ops[j]? = some (fk j, fp j, fs j)) ∧ ops.length ≤ 60
def MMade (G : GG) (ev : Nat → va_E) (ls : List Op) (mk mp : Nat → Int32) : Prop := ev 59 = .inl (G.2.1, 60, .inl mk) ∧ ev 60 = .inl (G.2.1, 60, .inl mp) ∧ (∀ (j : Nat) (t : Op), ls[j]? = some t → mk j = (encO t).1 ∧ mp j = (encO t).2.1) ∧ ls.length ≤ 60 ∧ Sm ls
def MRes (G : GG) (ev : Nat → va_E) (rs : List Int32) (fr : Nat → Int32) : Prop := ev 61 = .inl (G.2.1, 128, .inl fr) ∧ (∀ j, j < rs.length → rs[j]? = some (fr j)) ∧ rs.length ≤ 128
def MWrk (G : GG) (ev : Nat → va_E) (fq w1 w2 fd : Nat → Int32) : Prop := ev 62 = .inl (G.2.1, 441, .inl fq) ∧ ev 63 = .inl (G.2.1, 20, .inl w1) ∧ ev 64 = .inl (G.2.1, 20, .inl w2) ∧ ev 65 = .inl (G.2.1, 4, .inl fd)
theorem MRows.fr {G : GG} {ev e2 : Nat → va_E} {R : Nat → List Int32} {fz fy : Nat → Int32} {S : Nat → Prop} (h : MRows G ev R fz fy) (hF : Fr e2 ev S) (h0 : ¬ S 54) (h1 : ¬ S 55) : MRows G e2 R fz fy := ⟨(hF _ h0).trans h.1, (hF _ h1).trans h.2.1, h.2.2⟩
theorem MOps.fr {G : GG} {ev e2 : Nat → va_E} {ops : List Tr} {fk fp fs : Nat → Int32} {S : Nat → Prop} (h : MOps G ev ops fk fp fs) (hF : Fr e2 ev S) (h0 : ¬ S 56) (h1 : ¬ S 57) (h2 : ¬ S 58) : MOps G e2 ops fk fp fs := ⟨(hF _ h0).trans h.1, (hF _ h1).trans h.2.1, (hF _ h2).trans h.2.2.1, h.2.2.2⟩
theorem MMade.fr {G : GG} {ev e2 : Nat → va_E} {ls : List Op} {mk mp : Nat → Int32} {S : Nat → Prop} (h : MMade G ev ls mk mp) (hF : Fr e2 ev S) (h0 : ¬ S 59) (h1 : ¬ S 60) : MMade G e2 ls mk mp := ⟨(hF _ h0).trans h.1, (hF _ h1).trans h.2.1, h.2.2⟩
theorem MRes.fr {G : GG} {ev e2 : Nat → va_E} {rs : List Int32} {fr : Nat → Int32} {S : Nat → Prop} (h : MRes G ev rs fr) (hF : Fr e2 ev S) (h0 : ¬ S 61) : MRes G e2 rs fr := ⟨(hF _ h0).trans h.1, h.2⟩
theorem MWrk.fr {G : GG} {ev e2 : Nat → va_E} {fq w1 w2 fd : Nat → Int32} {S : Nat → Prop} (h : MWrk G ev fq w1 w2 fd) (hF : Fr e2 ev S) (h0 : ¬ S 62) (h1 : ¬ S 63) (h2 : ¬ S 64) (h3 : ¬ S 65) : MWrk G e2 fq w1 w2 fd := ⟨(hF _ h0).trans h.1, (hF _ h1).trans h.2.1, (hF _ h2).trans h.2.2.1, (hF _ h3).trans h.2.2.2⟩
/-- the object: what it has thrown last stands in thr -/
def MdlAt (G : GG) (ad : Nat → Nat) (ev : Nat → va_E) (lim thr : Int) (R : Nat → List Int32) (ops : List Tr) (ls : List Op) (lsz : Nat) (rs : List Int32) : Prop :=
  ∃ (cmp : Bool) (fz fy fk fp fs mk mp fr fq w1 w2 fd : Nat → Int32), (0 ≤ lim ∧ lim ≤ 40 ∧ lsz ≤ 20 ∧ (cmp = false → ls = [])) ∧ ev 53 = mO ad lim thr ops.length cmp ls.length lsz rs.length ∧ MRows G ev R fz fy ∧ MOps G ev ops fk fp fs ∧ MMade G ev ls mk mp ∧ MRes G ev rs fr ∧ MWrk G ev fq w1 w2 fd
theorem MdlAt.fr {G : GG} {ad : Nat → Nat} {ev e2 : Nat → va_E} {lim thr : Int} {R : Nat → List Int32} {ops : List Tr} {ls : List Op} {lsz : Nat} {rs : List Int32} {S : Nat → Prop} (h : MdlAt G ad ev lim thr R ops ls lsz rs) (hF : Fr e2 ev S) (hS : ∀ j, 53 ≤ j → j < 66 → ¬ S j) : MdlAt G ad e2 lim thr R ops ls lsz rs := by
  obtain ⟨cmp, fz, fy, fk, fp, fs, mk, mp, fr, fq, w1, w2, fd, hb, k53, h1, h2, h3, h4, h5⟩ := h
  exact ⟨cmp, fz, fy, fk, fp, fs, mk, mp, fr, fq, w1, w2, fd, hb, (hF _ (hS 53 (by omega) (by omega))).trans k53, h1.fr hF (hS 54 (by omega) (by omega)) (hS 55 (by omega) (by omega)), h2.fr hF (hS 56 (by omega) (by omega)) (hS 57 (by omega) (by omega)) (hS 58 (by omega) (by omega)), h3.fr hF (hS 59 (by omega) (by omega)) (hS 60 (by omega) (by omega)), h4.fr hF (hS 61 (by omega) (by omega)), h5.fr hF (hS 62 (by omega) (by omega)) (hS 63 (by omega) (by omega)) (hS 64 (by omega) (by omega)) (hS 65 (by omega) (by omega))⟩
theorem DeskAt.fr {G : GG} {ad : Nat → Nat} {ev e2 : Nat → va_E} {lim : Int} {R : Nat → List Int32} {ops : List Tr} {ls : List Op} {lsz : Nat} {rs : List Int32} {S : Nat → Prop} (h : DeskAt G ad ev lim R ops ls lsz rs) (hF : Fr e2 ev S) (hS : ∀ j, j < 53 → ¬ S j) : DeskAt G ad e2 lim R ops ls lsz rs := by
  obtain ⟨rc, dc, ds, g, hb, k0, k1, hg, hr9, h8, h12, hw, hrr, hdd⟩ := h
  exact ⟨rc, dc, ds, g, hb, (hF _ (hS _ (by omega))).trans k0, (hF _ (hS _ (by omega))).trans k1, hg, fun i hi => (hr9 i hi).fr hF (hS _ (by omega)) (hS _ (by omega)), h8.fr hF (hS _ (by omega)) (hS _ (by omega)) (hS _ (by omega)) (hS _ (by omega)), h12.fr hF (hS _ (by omega)) (hS _ (by omega)) (hS _ (by omega)) (hS _ (by omega)), hw.fr hF (fun i q => hS _ (by omega)), hrr.fr hF (hS _ (by omega)) (hS _ (by omega)), hdd.fr hF (hS _ (by omega)) (hS _ (by omega))⟩
theorem MRows.at {G : GG} {ev : Nat → va_E} {R : Nat → List Int32} {fz fy : Nat → Int32} (h : MRows G ev R fz fy) {j : Nat} (hj : j < 3) : fz j = iI ((R j).length : Int) ∧ (R j).length ≤ 20 ∧ ∀ k, k < (R j).length → (R j)[k]? = some (fy (20 * j + k)) := h.2.2 j hj

set_option maxHeartbeats 4000000 in
set_option maxRecDepth 100000 in
theorem TX6_thrown (l : Launch) {G : GG} {N : Nat} {ad : Nat → Nat} {ev : Nat → va_E} {lim thr : Int} {R9 : Nat → List Int32} {ops : List Tr} {ls : List Op} {lsz : Nat} {rs9 : List Int32} (hN : 66 ≤ N) (hM : MdlAt G ad ev lim thr R9 ops ls lsz rs9) : Ct l yX6_thrown wsX6_thrown rmX6_thrown [.ref (ad 53)] G N ad ev 0 0 (fun v e2 => v = some (.int (iI thr)) ∧ ev = e2) := by
  obtain ⟨cmp, fz, fy, fk, fp, fs, mk, mp, fr, fq, w1, w2, fd, hbb, k53, m1, m2, m3, m4, m5⟩ := hM
  obtain ⟨hli1, hli2, hlsz, hcmp⟩ := hbb
  refine Ct_of (cc := cX6_thrown) (maxL := 1) (ret := some .int) (lv := [(0, .ref (ad 53))]) (by decide) rfl (Nat.le_of_ble_eq_true rfl) rfl ?_
  intro p E s m args below meth c A C hr hnm
  refine n_aload_n C dX6_thrown_0 0 rfl rfl ?_
  refine n_get (k9 := 1) C dX6_thrown_1 (by omega) k53 hX6_thrown_X6 rfl (by decide) kX6_thrown_50 rfl ?_
  exact n_iret C hr dX6_thrown_4 (⟨rfl, rfl⟩)

set_option maxHeartbeats 4000000 in
set_option maxRecDepth 100000 in
theorem TX6_isRow (l : Launch) {G : GG} {N : Nat} {ad : Nat → Nat} {ev : Nat → va_E} {z : Int} (hza : -2147483648 ≤ z) (hzb : z < 2147483648) : Ct l yX6_isRow wsX6_isRow rmX6_isRow [.int (iI z)] G N ad ev 0 0 (fun v e2 => v = some (.int (bI (isR z))) ∧ ev = e2) := by
  unfold isR
  refine Ct_of (cc := cX6_isRow) (maxL := 1) (ret := some .boolean) (lv := [(0, .int (iI z))]) (by decide) rfl (Nat.le_of_ble_eq_true rfl) rfl ?_
  intro p E s m args below meth c A C hr hnm
  refine n_iload_n C dX6_isRow_0 0 rfl rfl ?_
  refine n_if_lt C dX6_isRow_1 (by decide) (by omega) (by omega) (tgt := 13) (fun c1 => ?_) (fun c1 => ?_)
  · refine n_iconst C dX6_isRow_13 ?_
    exact n_zret C hr dX6_isRow_14 (by decide) (⟨by rw [decide_eq_false (by omega)]; rfl, rfl⟩)
  · refine n_iload_n C dX6_isRow_4 0 rfl rfl ?_
    refine n_iconst C dX6_isRow_5 ?_
    refine n_icmp_gt C dX6_isRow_6 (by decide) (by omega) (by omega) (by omega) (by omega) (tgt := 13) (fun c2 => ?_) (fun c2 => ?_)
    · refine n_iconst C dX6_isRow_13 ?_
      exact n_zret C hr dX6_isRow_14 (by decide) (⟨by rw [decide_eq_false (by omega)]; rfl, rfl⟩)
    · refine n_iconst C dX6_isRow_9 ?_
      refine n_goto (tgt := 14) C dX6_isRow_10 (by decide) ?_
      exact n_zret C hr dX6_isRow_14 (by decide) (⟨by rw [decide_eq_true (by omega)]; rfl, rfl⟩)

theorem rows_up {R : Nat → List Int32} {fz fy : Nat → Int32} {j : Nat} {x : Int32} (hj : j < 3) (hl : (R j).length < 20) (h : ∀ i, i < 3 → fz i = iI ((R i).length : Int) ∧ (R i).length ≤ 20 ∧ ∀ k, k < (R i).length → (R i)[k]? = some (fy (20 * i + k))) :
    ∀ i, i < 3 → upd fz j (iI ((R j).length + 1 : Int)) i = iI ((va_up R j (R j ++ [x]) i).length : Int) ∧ (va_up R j (R j ++ [x]) i).length ≤ 20 ∧ ∀ k, k < (va_up R j (R j ++ [x]) i).length → (va_up R j (R j ++ [x]) i)[k]? = some (upd fy (20 * j + (R j).length) x (20 * i + k)) := by
  intro i hi
  obtain ⟨a, b, c⟩ := h i hi
  by_cases e : i = j
  · subst e
    rw [va_up_self]
    refine ⟨by simp [upd], by simp; omega, fun k hk => ?_⟩
    rw [List.length_append, List.length_singleton] at hk
    by_cases h1 : k < (R i).length
    · rw [List.getElem?_append_left h1, c k h1]
      have hne : k ≠ (R i).length := by omega
      simp [upd, hne]
    · have h2 : k = (R i).length := by omega
      subst h2
      simp [upd]
  · rw [va_up_ne _ _ e]
    refine ⟨by rw [← a]; simp [upd, e], b, fun k hk => ?_⟩
    rw [c k hk]
    simp [upd, show ¬ (20 * i + k = 20 * j + (R j).length) by omega]
theorem rows_cl {R : Nat → List Int32} {fz fy : Nat → Int32} {j : Nat} (h : ∀ i, i < 3 → fz i = iI ((R i).length : Int) ∧ (R i).length ≤ 20 ∧ ∀ k, k < (R i).length → (R i)[k]? = some (fy (20 * i + k))) :
    ∀ i, i < 3 → upd fz j (iI 0) i = iI ((va_up R j [] i).length : Int) ∧ (va_up R j [] i).length ≤ 20 ∧ ∀ k, k < (va_up R j [] i).length → (va_up R j [] i)[k]? = some (fy (20 * i + k)) := by
  intro i hi
  obtain ⟨a, b, c⟩ := h i hi
  by_cases e : i = j
  · subst e
    rw [va_up_self]
    exact ⟨by simp [upd], by simp, fun k hk => absurd hk (Nat.not_lt_zero k)⟩
  · rw [va_up_ne _ _ e]
    exact ⟨by rw [← a]; simp [upd, e], b, c⟩

set_option maxHeartbeats 4000000 in
set_option maxRecDepth 100000 in
theorem TX6_feed (l : Launch) {G : GG} {N : Nat} {ad : Nat → Nat} {ev : Nat → va_E} {lim thr : Int} {R9 : Nat → List Int32} {ops : List Tr} {ls : List Op} {lsz : Nat} {rs9 : List Int32} {z y : Int} (hN : 66 ≤ N) (hM : MdlAt G ad ev lim thr R9 ops ls lsz rs9) (hza : -2147483648 ≤ z) (hzb : z < 2147483648) (hya : -2147483648 ≤ y) (hyb : y < 2147483648) : Ct l yX6_feed wsX6_feed rmX6_feed [.ref (ad 53), .int (iI z), .int (iI y)] G N ad ev 0 0 (fun v e2 => v = some (.int (bI (fdB R9 z y))) ∧ MdlAt G ad e2 lim 0 (fdR R9 z y) ops ls lsz rs9 ∧ Fr e2 ev (fun j => 53 ≤ j ∧ j < 66)) := by
  obtain ⟨cmp, fz, fy, fk, fp, fs, mk, mp, fr, fq, w1, w2, fd, hbb, k53, m1, m2, m3, m4, m5⟩ := hM
  obtain ⟨hli1, hli2, hlsz, hcmp⟩ := hbb
  refine Ct_of (cc := cX6_feed) (maxL := 3) (ret := some .boolean) (lv := [(0, .ref (ad 53)), (1, .int (iI z)), (2, .int (iI y))]) (by decide) rfl (Nat.le_of_ble_eq_true rfl) rfl ?_
  intro p E s m args below meth c A C hr hnm
  refine n_aload_n C dX6_feed_0 0 rfl rfl ?_
  refine n_iconst C dX6_feed_1 ?_
  refine n_put (k9 := 1) (fs2 := [.int (iI lim), .int (iI 0), .ref (ad 54), .ref (ad 55), .int (iI (ops.length : Int)), .ref (ad 56), .ref (ad 57), .ref (ad 58), .int (bI cmp), .int (iI (ls.length : Int)), .int (iI (lsz : Int)), .ref (ad 59), .ref (ad 60), .int (iI (rs9.length : Int)), .ref (ad 61), .ref (ad 62), .ref (ad 63), .ref (ad 64), .ref (ad 65)]) C dX6_feed_2 (by omega) k53 hX6_feed_X6 tyX6_ok nmX6 rfl (by decide) kX6_feed_50 rfl rfl rfl (Nat.le_of_ble_eq_true rfl) rfl (fun e1 hs2 ho3 => ?_)
  have hP4 : Fr e1 _ (fun j => j = 53) := fun j hj => ho3 j hj
  have m1 := m1.fr hP4 (by omega) (by omega)
  have m2 := m2.fr hP4 (by omega) (by omega) (by omega)
  have m3 := m3.fr hP4 (by omega) (by omega)
  have m4 := m4.fr hP4 (by omega)
  have m5 := m5.fr hP4 (by omega) (by omega) (by omega) (by omega)
  refine n_iload_n C dX6_feed_5 1 rfl rfl ?_
  refine n_callS (rest := []) C dX6_feed_6 (TX6_isRow l hza hzb) (cwS 1 C.2.2.2.2.1 gX6_feed_X6_isRow rfl rfl rfl cdX6_isRow ⟨Nat.le_of_ble_eq_true rfl, Nat.le_of_ble_eq_true rfl⟩) rfl rfl (Nat.le_of_ble_eq_true rfl) ⟨Nat.le_of_ble_eq_true rfl, Nat.le_of_ble_eq_true rfl⟩ ?_
  rintro _ _ ⟨rfl, rfl⟩
  refine n_pc (pc2 := 9) rfl (n_st (st2 := [.int (bI (isR z))]) rfl ?_)
  refine n_if_eqB C dX6_feed_9 (by decide) (tgt := 34) (fun c1 => ?_) (fun c1 => ?_)
  · refine n_iconst C dX6_feed_34 ?_
    have h9 : fdB R9 z y = false := by unfold fdB; rw [c1]; rfl
    exact n_zret C hr dX6_feed_35 (by decide) (⟨by rw [h9]; rfl, by unfold fdR; rw [h9]; exact ⟨cmp, _, _, _, _, _, _, _, _, _, _, _, _, ⟨hli1, hli2, hlsz, hcmp⟩, hs2, m1, m2, m3, m4, m5⟩, fun j hj => hP4 j (by omega)⟩)
  · refine n_iload_n C dX6_feed_12 2 rfl rfl ?_
    refine n_if_lt C dX6_feed_13 (by decide) (by omega) (by omega) (tgt := 34) (fun c2 => ?_) (fun c2 => ?_)
    · refine n_iconst C dX6_feed_34 ?_
      have h9 : fdB R9 z y = false := by unfold fdB; rw [c1, show isS y = false from decide_eq_false (by omega)]; rfl
      exact n_zret C hr dX6_feed_35 (by decide) (⟨by rw [h9]; rfl, by unfold fdR; rw [h9]; exact ⟨cmp, _, _, _, _, _, _, _, _, _, _, _, _, ⟨hli1, hli2, hlsz, hcmp⟩, hs2, m1, m2, m3, m4, m5⟩, fun j hj => hP4 j (by omega)⟩)
    · refine n_iload_n C dX6_feed_16 2 rfl rfl ?_
      refine n_sipush C dX6_feed_17 (by decide) ?_
      refine n_icmp_gt C dX6_feed_20 (by decide) (by omega) (by omega) (by omega) (by omega) (tgt := 34) (fun c3 => ?_) (fun c3 => ?_)
      · refine n_iconst C dX6_feed_34 ?_
        have h9 : fdB R9 z y = false := by unfold fdB; rw [c1, show isS y = false from decide_eq_false (by omega)]; rfl
        exact n_zret C hr dX6_feed_35 (by decide) (⟨by rw [h9]; rfl, by unfold fdR; rw [h9]; exact ⟨cmp, _, _, _, _, _, _, _, _, _, _, _, _, ⟨hli1, hli2, hlsz, hcmp⟩, hs2, m1, m2, m3, m4, m5⟩, fun j hj => hP4 j (by omega)⟩)
      · have c1w := of_decide_eq_true c1
        obtain ⟨j, rfl⟩ : ∃ j : Nat, z = (j : Int) := ⟨z.toNat, by omega⟩
        obtain ⟨zj, lj, yj⟩ := m1.at (j := j) (by omega)
        refine n_aload_n C dX6_feed_23 0 rfl rfl ?_
        refine n_get (k9 := 2) C dX6_feed_24 (by omega) hs2 hX6_feed_X6 rfl (by decide) kX6_feed_7 rfl ?_
        refine n_iload_n C dX6_feed_27 1 rfl rfl ?_
        refine n_iald (j := j) C dX6_feed_28 (by omega) m1.1 (by omega) (by omega) (by omega) ?_
        refine n_topI (y := (iI ((R9 j).length : Int))) (zj) ?_
        refine n_bipush C dX6_feed_29 (by decide) ?_
        refine n_icmp_ne C dX6_feed_31 (by decide) (by omega) (by omega) (by omega) (by omega) (tgt := 36) (fun c4 => ?_) (fun c4 => ?_)
        · have h9 : fdB R9 (j : Int) y = true := by unfold fdB; rw [c1, show isS y = true from decide_eq_true (by omega), Int.toNat_natCast, decide_eq_true (by omega)]; rfl
          refine n_aload_n C dX6_feed_36 0 rfl rfl ?_
          refine n_get (k9 := 3) C dX6_feed_37 (by omega) hs2 hX6_feed_X6 rfl (by decide) kX6_feed_13 rfl ?_
          refine n_bipush C dX6_feed_40 (by decide) ?_
          refine n_iload_n C dX6_feed_42 1 rfl rfl ?_
          refine n_imul C dX6_feed_43 ?_
          refine n_aload_n C dX6_feed_44 0 rfl rfl ?_
          refine n_get (k9 := 2) C dX6_feed_45 (by omega) hs2 hX6_feed_X6 rfl (by decide) kX6_feed_7 rfl ?_
          refine n_iload_n C dX6_feed_48 1 rfl rfl ?_
          refine n_iald (j := j) C dX6_feed_49 (by omega) m1.1 (by omega) (by omega) (by omega) ?_
          refine n_topI (y := (iI ((R9 j).length : Int))) (zj) ?_
          refine n_iadd C dX6_feed_50 ?_
          refine n_iload_n C dX6_feed_51 2 rfl rfl ?_
          refine n_iast (j := 20 * j + (R9 j).length) C dX6_feed_52 (by omega) m1.2.1 (by omega) (by omega) (by omega) (fun e5 hs6 ho7 => ?_)
          have qh8 := (ho7 53 (by decide)).trans hs2
          have qh9 := (ho7 54 (by decide)).trans m1.1
          refine n_aload_n C dX6_feed_53 0 rfl rfl ?_
          refine n_get (k9 := 2) C dX6_feed_54 (by omega) qh8 hX6_feed_X6 rfl (by decide) kX6_feed_7 rfl ?_
          refine n_iload_n C dX6_feed_57 1 rfl rfl ?_
          refine n_dup2 C dX6_feed_58 rfl rfl ?_
          refine n_iald (j := j) C dX6_feed_59 (by omega) qh9 (by omega) (by omega) (by omega) ?_
          refine n_topI (y := (iI ((R9 j).length : Int))) (zj) ?_
          refine n_iconst C dX6_feed_60 ?_
          refine n_iadd C dX6_feed_61 ?_
          refine n_iast (j := j) C dX6_feed_62 (by omega) qh9 (by omega) (by omega) (by omega) (fun e10 hs11 ho12 => ?_)
          have qh13 := (ho12 53 (by decide)).trans qh8
          have qh14 := (ho12 55 (by decide)).trans hs6
          refine n_iconst C dX6_feed_63 ?_
          have hF : Fr e10 ev (fun j => 53 ≤ j ∧ j < 66) := fun j hj => ((ho12 j (by omega)).trans (ho7 j (by omega))).trans (hP4 j (by omega))
          have hF9 : Fr e10 _ (fun i => i = 54 ∨ i = 55) := fun i hi => (ho12 i (by omega)).trans (ho7 i (by omega))
          have m2 := m2.fr hF9 (by omega) (by omega) (by omega)
          have m3 := m3.fr hF9 (by omega) (by omega)
          have m4 := m4.fr hF9 (by omega)
          have m5 := m5.fr hF9 (by omega) (by omega) (by omega) (by omega)
          have m1 : MRows G e10 (va_up R9 j (R9 j ++ [iI y])) _ _ := ⟨hs11, qh14, rows_up (by omega) (by omega) m1.2.2⟩
          exact n_zret C hr dX6_feed_64 (by decide) (⟨by rw [h9]; rfl, by unfold fdR; rw [h9, if_pos rfl, Int.toNat_natCast]; exact ⟨cmp, _, _, _, _, _, _, _, _, _, _, _, _, ⟨hli1, hli2, hlsz, hcmp⟩, qh13, m1, m2, m3, m4, m5⟩, hF⟩)
        · refine n_iconst C dX6_feed_34 ?_
          have h9 : fdB R9 (j : Int) y = false := by unfold fdB; rw [c1, show isS y = true from decide_eq_true (by omega), Int.toNat_natCast, decide_eq_false (by omega)]; rfl
          exact n_zret C hr dX6_feed_35 (by decide) (⟨by rw [h9]; rfl, by unfold fdR; rw [h9]; exact ⟨cmp, _, _, _, _, _, _, _, _, _, _, _, _, ⟨hli1, hli2, hlsz, hcmp⟩, hs2, m1, m2, m3, m4, m5⟩, fun j hj => hP4 j (by omega)⟩)

set_option maxHeartbeats 4000000 in
set_option maxRecDepth 100000 in
theorem TX6_clear (l : Launch) {G : GG} {N : Nat} {ad : Nat → Nat} {ev : Nat → va_E} {lim thr : Int} {R9 : Nat → List Int32} {ops : List Tr} {ls : List Op} {lsz : Nat} {rs9 : List Int32} {z : Int} (hN : 66 ≤ N) (hM : MdlAt G ad ev lim thr R9 ops ls lsz rs9) (hza : -2147483648 ≤ z) (hzb : z < 2147483648) : Ct l yX6_clear wsX6_clear rmX6_clear [.ref (ad 53), .int (iI z)] G N ad ev 0 0 (fun v e2 => v = some (.int (bI (isR z))) ∧ MdlAt G ad e2 lim 0 (clR R9 z) ops ls lsz rs9 ∧ Fr e2 ev (fun j => 53 ≤ j ∧ j < 66)) := by
  obtain ⟨cmp, fz, fy, fk, fp, fs, mk, mp, fr, fq, w1, w2, fd, hbb, k53, m1, m2, m3, m4, m5⟩ := hM
  obtain ⟨hli1, hli2, hlsz, hcmp⟩ := hbb
  refine Ct_of (cc := cX6_clear) (maxL := 2) (ret := some .boolean) (lv := [(0, .ref (ad 53)), (1, .int (iI z))]) (by decide) rfl (Nat.le_of_ble_eq_true rfl) rfl ?_
  intro p E s m args below meth c A C hr hnm
  refine n_aload_n C dX6_clear_0 0 rfl rfl ?_
  refine n_iconst C dX6_clear_1 ?_
  refine n_put (k9 := 1) (fs2 := [.int (iI lim), .int (iI 0), .ref (ad 54), .ref (ad 55), .int (iI (ops.length : Int)), .ref (ad 56), .ref (ad 57), .ref (ad 58), .int (bI cmp), .int (iI (ls.length : Int)), .int (iI (lsz : Int)), .ref (ad 59), .ref (ad 60), .int (iI (rs9.length : Int)), .ref (ad 61), .ref (ad 62), .ref (ad 63), .ref (ad 64), .ref (ad 65)]) C dX6_clear_2 (by omega) k53 hX6_clear_X6 tyX6_ok nmX6 rfl (by decide) kX6_clear_50 rfl rfl rfl (Nat.le_of_ble_eq_true rfl) rfl (fun e1 hs2 ho3 => ?_)
  have hP4 : Fr e1 _ (fun j => j = 53) := fun j hj => ho3 j hj
  have m1 := m1.fr hP4 (by omega) (by omega)
  have m2 := m2.fr hP4 (by omega) (by omega) (by omega)
  have m3 := m3.fr hP4 (by omega) (by omega)
  have m4 := m4.fr hP4 (by omega)
  have m5 := m5.fr hP4 (by omega) (by omega) (by omega) (by omega)
  refine n_iload_n C dX6_clear_5 1 rfl rfl ?_
  refine n_callS (rest := []) C dX6_clear_6 (TX6_isRow l hza hzb) (cwS 1 C.2.2.2.2.1 gX6_clear_X6_isRow rfl rfl rfl cdX6_isRow ⟨Nat.le_of_ble_eq_true rfl, Nat.le_of_ble_eq_true rfl⟩) rfl rfl (Nat.le_of_ble_eq_true rfl) ⟨Nat.le_of_ble_eq_true rfl, Nat.le_of_ble_eq_true rfl⟩ ?_
  rintro _ _ ⟨rfl, rfl⟩
  refine n_pc (pc2 := 9) rfl (n_st (st2 := [.int (bI (isR z))]) rfl ?_)
  refine n_if_neB C dX6_clear_9 (by decide) (tgt := 14) (fun c1 => ?_) (fun c1 => ?_)
  · have c1w := of_decide_eq_true c1
    obtain ⟨j, rfl⟩ : ∃ j : Nat, z = (j : Int) := ⟨z.toNat, by omega⟩
    obtain ⟨zj, lj, yj⟩ := m1.at (j := j) (by omega)
    refine n_aload_n C dX6_clear_14 0 rfl rfl ?_
    refine n_get (k9 := 2) C dX6_clear_15 (by omega) hs2 hX6_clear_X6 rfl (by decide) kX6_clear_7 rfl ?_
    refine n_iload_n C dX6_clear_18 1 rfl rfl ?_
    refine n_iconst C dX6_clear_19 ?_
    refine n_iast (j := j) C dX6_clear_20 (by omega) m1.1 (by omega) (by omega) (by omega) (fun e5 hs6 ho7 => ?_)
    have qh8 := (ho7 53 (by decide)).trans hs2
    refine n_iconst C dX6_clear_21 ?_
    have hF9 : Fr e5 _ (fun i => i = 54) := fun i hi => ho7 i hi
    have m2 := m2.fr hF9 (by omega) (by omega) (by omega)
    have m3 := m3.fr hF9 (by omega) (by omega)
    have m4 := m4.fr hF9 (by omega)
    have m5 := m5.fr hF9 (by omega) (by omega) (by omega) (by omega)
    have m1 : MRows G e5 (va_up R9 j []) _ _ := ⟨hs6, (hF9 55 (by omega)).trans m1.2.1, rows_cl m1.2.2⟩
    exact n_zret C hr dX6_clear_22 (by decide) (⟨by rw [c1]; rfl, by unfold clR; rw [c1, if_pos rfl, Int.toNat_natCast]; exact ⟨cmp, _, _, _, _, _, _, _, _, _, _, _, _, ⟨hli1, hli2, hlsz, hcmp⟩, qh8, m1, m2, m3, m4, m5⟩, fun j hj => (ho7 j (by omega)).trans (hP4 j (by omega))⟩)
  · refine n_iconst C dX6_clear_12 ?_
    exact n_zret C hr dX6_clear_13 (by decide) (⟨by rw [c1]; rfl, by unfold clR; rw [c1]; exact ⟨cmp, _, _, _, _, _, _, _, _, _, _, _, _, ⟨hli1, hli2, hlsz, hcmp⟩, hs2, m1, m2, m3, m4, m5⟩, fun j hj => hP4 j (by omega)⟩)

set_option maxHeartbeats 4000000 in
set_option maxRecDepth 100000 in
theorem TX6_size (l : Launch) {G : GG} {N : Nat} {ad : Nat → Nat} {ev : Nat → va_E} {lim thr : Int} {R9 : Nat → List Int32} {ops : List Tr} {ls : List Op} {lsz : Nat} {rs9 : List Int32} {z : Int} (hN : 66 ≤ N) (hM : MdlAt G ad ev lim thr R9 ops ls lsz rs9) (hza : -2147483648 ≤ z) (hzb : z < 2147483648) : Ct l yX6_size wsX6_size rmX6_size [.ref (ad 53), .int (iI z)] G N ad ev 0 0 (fun v e2 => v = some (.int (iI (szS R9 z))) ∧ MdlAt G ad e2 lim 0 R9 ops ls lsz rs9 ∧ Fr e2 ev (fun j => 53 ≤ j ∧ j < 66)) := by
  obtain ⟨cmp, fz, fy, fk, fp, fs, mk, mp, fr, fq, w1, w2, fd, hbb, k53, m1, m2, m3, m4, m5⟩ := hM
  obtain ⟨hli1, hli2, hlsz, hcmp⟩ := hbb
  refine Ct_of (cc := cX6_size) (maxL := 2) (ret := some .int) (lv := [(0, .ref (ad 53)), (1, .int (iI z))]) (by decide) rfl (Nat.le_of_ble_eq_true rfl) rfl ?_
  intro p E s m args below meth c A C hr hnm
  refine n_aload_n C dX6_size_0 0 rfl rfl ?_
  refine n_iconst C dX6_size_1 ?_
  refine n_put (k9 := 1) (fs2 := [.int (iI lim), .int (iI 0), .ref (ad 54), .ref (ad 55), .int (iI (ops.length : Int)), .ref (ad 56), .ref (ad 57), .ref (ad 58), .int (bI cmp), .int (iI (ls.length : Int)), .int (iI (lsz : Int)), .ref (ad 59), .ref (ad 60), .int (iI (rs9.length : Int)), .ref (ad 61), .ref (ad 62), .ref (ad 63), .ref (ad 64), .ref (ad 65)]) C dX6_size_2 (by omega) k53 hX6_size_X6 tyX6_ok nmX6 rfl (by decide) kX6_size_50 rfl rfl rfl (Nat.le_of_ble_eq_true rfl) rfl (fun e1 hs2 ho3 => ?_)
  have hP4 : Fr e1 _ (fun j => j = 53) := fun j hj => ho3 j hj
  have m1 := m1.fr hP4 (by omega) (by omega)
  have m2 := m2.fr hP4 (by omega) (by omega) (by omega)
  have m3 := m3.fr hP4 (by omega) (by omega)
  have m4 := m4.fr hP4 (by omega)
  have m5 := m5.fr hP4 (by omega) (by omega) (by omega) (by omega)
  refine n_iload_n C dX6_size_5 1 rfl rfl ?_
  refine n_callS (rest := []) C dX6_size_6 (TX6_isRow l hza hzb) (cwS 1 C.2.2.2.2.1 gX6_size_X6_isRow rfl rfl rfl cdX6_isRow ⟨Nat.le_of_ble_eq_true rfl, Nat.le_of_ble_eq_true rfl⟩) rfl rfl (Nat.le_of_ble_eq_true rfl) ⟨Nat.le_of_ble_eq_true rfl, Nat.le_of_ble_eq_true rfl⟩ ?_
  rintro _ _ ⟨rfl, rfl⟩
  refine n_pc (pc2 := 9) rfl (n_st (st2 := [.int (bI (isR z))]) rfl ?_)
  refine n_if_eqB C dX6_size_9 (by decide) (tgt := 21) (fun c1 => ?_) (fun c1 => ?_)
  · refine n_iconst C dX6_size_21 ?_
    exact n_iret C hr dX6_size_22 (⟨by unfold szS; rw [c1]; rfl, ⟨cmp, _, _, _, _, _, _, _, _, _, _, _, _, ⟨hli1, hli2, hlsz, hcmp⟩, hs2, m1, m2, m3, m4, m5⟩, fun j hj => hP4 j (by omega)⟩)
  · have c1w := of_decide_eq_true c1
    obtain ⟨j, rfl⟩ : ∃ j : Nat, z = (j : Int) := ⟨z.toNat, by omega⟩
    obtain ⟨zj, lj, yj⟩ := m1.at (j := j) (by omega)
    refine n_aload_n C dX6_size_12 0 rfl rfl ?_
    refine n_get (k9 := 2) C dX6_size_13 (by omega) hs2 hX6_size_X6 rfl (by decide) kX6_size_7 rfl ?_
    refine n_iload_n C dX6_size_16 1 rfl rfl ?_
    refine n_iald (j := j) C dX6_size_17 (by omega) m1.1 (by omega) (by omega) (by omega) ?_
    refine n_topI (y := (iI ((R9 j).length : Int))) (zj) ?_
    refine n_goto (tgt := 22) C dX6_size_18 (by decide) ?_
    exact n_iret C hr dX6_size_22 (⟨by unfold szS; rw [c1, Int.toNat_natCast]; rfl, ⟨cmp, _, _, _, _, _, _, _, _, _, _, _, _, ⟨hli1, hli2, hlsz, hcmp⟩, hs2, m1, m2, m3, m4, m5⟩, fun j hj => hP4 j (by omega)⟩)

set_option maxHeartbeats 4000000 in
set_option maxRecDepth 100000 in
theorem TX6_symbol (l : Launch) {G : GG} {N : Nat} {ad : Nat → Nat} {ev : Nat → va_E} {lim thr : Int} {R9 : Nat → List Int32} {ops : List Tr} {ls : List Op} {lsz : Nat} {rs9 : List Int32} {z k : Int} (hN : 66 ≤ N) (hM : MdlAt G ad ev lim thr R9 ops ls lsz rs9) (hza : -2147483648 ≤ z) (hzb : z < 2147483648) (hka : -2147483648 ≤ k) (hkb : k < 2147483648) : Ct l yX6_symbol wsX6_symbol rmX6_symbol [.ref (ad 53), .int (iI z), .int (iI k)] G N ad ev 0 0 (fun v e2 => v = some (.int (syS R9 z k)) ∧ MdlAt G ad e2 lim 0 R9 ops ls lsz rs9 ∧ Fr e2 ev (fun j => 53 ≤ j ∧ j < 66)) := by
  obtain ⟨cmp, fz, fy, fk, fp, fs, mk, mp, fr, fq, w1, w2, fd, hbb, k53, m1, m2, m3, m4, m5⟩ := hM
  obtain ⟨hli1, hli2, hlsz, hcmp⟩ := hbb
  refine Ct_of (cc := cX6_symbol) (maxL := 3) (ret := some .short) (lv := [(0, .ref (ad 53)), (1, .int (iI z)), (2, .int (iI k))]) (by decide) rfl (Nat.le_of_ble_eq_true rfl) rfl ?_
  intro p E s m args below meth c A C hr hnm
  refine n_aload_n C dX6_symbol_0 0 rfl rfl ?_
  refine n_iconst C dX6_symbol_1 ?_
  refine n_put (k9 := 1) (fs2 := [.int (iI lim), .int (iI 0), .ref (ad 54), .ref (ad 55), .int (iI (ops.length : Int)), .ref (ad 56), .ref (ad 57), .ref (ad 58), .int (bI cmp), .int (iI (ls.length : Int)), .int (iI (lsz : Int)), .ref (ad 59), .ref (ad 60), .int (iI (rs9.length : Int)), .ref (ad 61), .ref (ad 62), .ref (ad 63), .ref (ad 64), .ref (ad 65)]) C dX6_symbol_2 (by omega) k53 hX6_symbol_X6 tyX6_ok nmX6 rfl (by decide) kX6_symbol_50 rfl rfl rfl (Nat.le_of_ble_eq_true rfl) rfl (fun e1 hs2 ho3 => ?_)
  have hP4 : Fr e1 _ (fun j => j = 53) := fun j hj => ho3 j hj
  have m1 := m1.fr hP4 (by omega) (by omega)
  have m2 := m2.fr hP4 (by omega) (by omega) (by omega)
  have m3 := m3.fr hP4 (by omega) (by omega)
  have m4 := m4.fr hP4 (by omega)
  have m5 := m5.fr hP4 (by omega) (by omega) (by omega) (by omega)
  refine n_iload_n C dX6_symbol_5 1 rfl rfl ?_
  refine n_callS (rest := []) C dX6_symbol_6 (TX6_isRow l hza hzb) (cwS 1 C.2.2.2.2.1 gX6_symbol_X6_isRow rfl rfl rfl cdX6_isRow ⟨Nat.le_of_ble_eq_true rfl, Nat.le_of_ble_eq_true rfl⟩) rfl rfl (Nat.le_of_ble_eq_true rfl) ⟨Nat.le_of_ble_eq_true rfl, Nat.le_of_ble_eq_true rfl⟩ ?_
  rintro _ _ ⟨rfl, rfl⟩
  refine n_pc (pc2 := 9) rfl (n_st (st2 := [.int (bI (isR z))]) rfl ?_)
  refine n_if_eqB C dX6_symbol_9 (by decide) (tgt := 40) (fun c1 => ?_) (fun c1 => ?_)
  · refine n_iconst C dX6_symbol_40 ?_
    refine n_i2sR C dX6_symbol_41 ?_
    exact n_zret C hr dX6_symbol_42 (pk_ns _) (⟨by unfold syS; rw [c1]; rfl, ⟨cmp, _, _, _, _, _, _, _, _, _, _, _, _, ⟨hli1, hli2, hlsz, hcmp⟩, hs2, m1, m2, m3, m4, m5⟩, fun j hj => hP4 j (by omega)⟩)
  · have c1w := of_decide_eq_true c1
    obtain ⟨j, rfl⟩ : ∃ j : Nat, z = (j : Int) := ⟨z.toNat, by omega⟩
    obtain ⟨zj, lj, yj⟩ := m1.at (j := j) (by omega)
    have hsy : syS R9 (j : Int) k = (atD (R9 j) k (iI (-1))).toInt16.toInt32 := by unfold syS; rw [c1, Int.toNat_natCast]; rfl
    refine n_iload_n C dX6_symbol_12 2 rfl rfl ?_
    refine n_if_lt C dX6_symbol_13 (by decide) (by omega) (by omega) (tgt := 40) (fun c2 => ?_) (fun c2 => ?_)
    · refine n_iconst C dX6_symbol_40 ?_
      refine n_i2sR C dX6_symbol_41 ?_
      exact n_zret C hr dX6_symbol_42 (pk_ns _) (⟨by rw [hsy, atD_out (Or.inl c2)], ⟨cmp, _, _, _, _, _, _, _, _, _, _, _, _, ⟨hli1, hli2, hlsz, hcmp⟩, hs2, m1, m2, m3, m4, m5⟩, fun j hj => hP4 j (by omega)⟩)
    · refine n_iload_n C dX6_symbol_16 2 rfl rfl ?_
      refine n_aload_n C dX6_symbol_17 0 rfl rfl ?_
      refine n_get (k9 := 2) C dX6_symbol_18 (by omega) hs2 hX6_symbol_X6 rfl (by decide) kX6_symbol_7 rfl ?_
      refine n_iload_n C dX6_symbol_21 1 rfl rfl ?_
      refine n_iald (j := j) C dX6_symbol_22 (by omega) m1.1 (by omega) (by omega) (by omega) ?_
      refine n_topI (y := (iI ((R9 j).length : Int))) (zj) ?_
      refine n_icmp_ge C dX6_symbol_23 (by decide) (by omega) (by omega) (by omega) (by omega) (tgt := 40) (fun c3 => ?_) (fun c3 => ?_)
      · refine n_iconst C dX6_symbol_40 ?_
        refine n_i2sR C dX6_symbol_41 ?_
        exact n_zret C hr dX6_symbol_42 (pk_ns _) (⟨by rw [hsy, atD_out (Or.inr c3)], ⟨cmp, _, _, _, _, _, _, _, _, _, _, _, _, ⟨hli1, hli2, hlsz, hcmp⟩, hs2, m1, m2, m3, m4, m5⟩, fun j hj => hP4 j (by omega)⟩)
      · obtain ⟨n, rfl⟩ : ∃ n : Nat, k = (n : Int) := ⟨k.toNat, by omega⟩
        refine n_aload_n C dX6_symbol_26 0 rfl rfl ?_
        refine n_get (k9 := 3) C dX6_symbol_27 (by omega) hs2 hX6_symbol_X6 rfl (by decide) kX6_symbol_13 rfl ?_
        refine n_bipush C dX6_symbol_30 (by decide) ?_
        refine n_iload_n C dX6_symbol_32 1 rfl rfl ?_
        refine n_imul C dX6_symbol_33 ?_
        refine n_iload_n C dX6_symbol_34 2 rfl rfl ?_
        refine n_iadd C dX6_symbol_35 ?_
        refine n_iald (j := 20 * j + n) C dX6_symbol_36 (by omega) m1.2.1 (by omega) (by omega) (by omega) ?_
        refine n_goto (tgt := 41) C dX6_symbol_37 (by decide) ?_
        refine n_i2sR C dX6_symbol_41 ?_
        exact n_zret C hr dX6_symbol_42 (pk_ns _) (⟨by rw [hsy, atD_in rfl (by omega) (yj n (by omega))], ⟨cmp, _, _, _, _, _, _, _, _, _, _, _, _, ⟨hli1, hli2, hlsz, hcmp⟩, hs2, m1, m2, m3, m4, m5⟩, fun j hj => hP4 j (by omega)⟩)

set_option maxHeartbeats 4000000 in
set_option maxRecDepth 100000 in
theorem TX6_put (l : Launch) {G : GG} {N : Nat} {ad : Nat → Nat} {ev : Nat → va_E} {lim thr : Int} {ops : List Tr} {cmp : Bool} {nl lsz nr : Nat} {fk fp fs : Nat → Int32} {x y z : Int32} (hN : 66 ≤ N) (k53 : ev 53 = mO ad lim thr ops.length cmp nl lsz nr) (m2 : MOps G ev ops fk fp fs) (hlt : ops.length < 60) : Ct l yX6_put wsX6_put rmX6_put [.ref (ad 53), .int x, .int y, .int z] G N ad ev 0 0 (fun v e2 => v = none ∧ e2 53 = mO ad lim thr (ops.length + 1) cmp nl lsz nr ∧ (∃ fk fp fs : Nat → Int32, MOps G e2 (ops ++ [(x, y, z)]) fk fp fs) ∧ Fr e2 ev (fun j => j = 53 ∨ j = 56 ∨ j = 57 ∨ j = 58)) := by
  refine Ct_of (cc := cX6_put) (maxL := 4) (ret := none) (lv := [(0, .ref (ad 53)), (1, .int x), (2, .int y), (3, .int z)]) (by decide) rfl (Nat.le_of_ble_eq_true rfl) rfl ?_
  intro p E s m args below meth c A C hr hnm
  refine n_aload_n C dX6_put_0 0 rfl rfl ?_
  refine n_get (k9 := 5) C dX6_put_1 (by omega) k53 hX6_put_X6 rfl (by decide) kX6_put_16 rfl ?_
  refine n_aload_n C dX6_put_4 0 rfl rfl ?_
  refine n_get (k9 := 4) C dX6_put_5 (by omega) k53 hX6_put_X6 rfl (by decide) kX6_put_65 rfl ?_
  refine n_iload_n C dX6_put_8 1 rfl rfl ?_
  refine n_iast (j := ops.length) C dX6_put_9 (by omega) m2.1 (by omega) (by omega) (by omega) (fun e1 hs2 ho3 => ?_)
  have qh4 := (ho3 53 (by decide)).trans k53
  have qh5 := (ho3 57 (by decide)).trans m2.2.1
  have qh6 := (ho3 58 (by decide)).trans m2.2.2.1
  refine n_aload_n C dX6_put_10 0 rfl rfl ?_
  refine n_get (k9 := 6) C dX6_put_11 (by omega) qh4 hX6_put_X6 rfl (by decide) kX6_put_19 rfl ?_
  refine n_aload_n C dX6_put_14 0 rfl rfl ?_
  refine n_get (k9 := 4) C dX6_put_15 (by omega) qh4 hX6_put_X6 rfl (by decide) kX6_put_65 rfl ?_
  refine n_iload_n C dX6_put_18 2 rfl rfl ?_
  refine n_iast (j := ops.length) C dX6_put_19 (by omega) qh5 (by omega) (by omega) (by omega) (fun e7 hs8 ho9 => ?_)
  have qh10 := (ho9 53 (by decide)).trans qh4
  have qh11 := (ho9 56 (by decide)).trans hs2
  have qh12 := (ho9 58 (by decide)).trans qh6
  refine n_aload_n C dX6_put_20 0 rfl rfl ?_
  refine n_get (k9 := 7) C dX6_put_21 (by omega) qh10 hX6_put_X6 rfl (by decide) kX6_put_22 rfl ?_
  refine n_aload_n C dX6_put_24 0 rfl rfl ?_
  refine n_get (k9 := 4) C dX6_put_25 (by omega) qh10 hX6_put_X6 rfl (by decide) kX6_put_65 rfl ?_
  refine n_iload_n C dX6_put_28 3 rfl rfl ?_
  refine n_iast (j := ops.length) C dX6_put_29 (by omega) qh12 (by omega) (by omega) (by omega) (fun e13 hs14 ho15 => ?_)
  have qh16 := (ho15 53 (by decide)).trans qh10
  have qh17 := (ho15 56 (by decide)).trans qh11
  have qh18 := (ho15 57 (by decide)).trans hs8
  refine n_aload_n C dX6_put_30 0 rfl rfl ?_
  refine n_dup C dX6_put_31 rfl ?_
  refine n_get (k9 := 4) C dX6_put_32 (by omega) qh16 hX6_put_X6 rfl (by decide) kX6_put_65 rfl ?_
  refine n_iconst C dX6_put_35 ?_
  refine n_iadd C dX6_put_36 ?_
  refine n_put (k9 := 4) (fs2 := [.int (iI lim), .int (iI thr), .ref (ad 54), .ref (ad 55), .int (iI ((ops.length : Int) + 1)), .ref (ad 56), .ref (ad 57), .ref (ad 58), .int (bI cmp), .int (iI (nl : Int)), .int (iI (lsz : Int)), .ref (ad 59), .ref (ad 60), .int (iI (nr : Int)), .ref (ad 61), .ref (ad 62), .ref (ad 63), .ref (ad 64), .ref (ad 65)]) C dX6_put_37 (by omega) qh16 hX6_put_X6 tyX6_ok nmX6 rfl (by decide) kX6_put_65 rfl rfl rfl (Nat.le_of_ble_eq_true rfl) rfl (fun e19 hs20 ho21 => ?_)
  have qh22 := (ho21 56 (by decide)).trans qh17
  have qh23 := (ho21 57 (by decide)).trans qh18
  have qh24 := (ho21 58 (by decide)).trans hs14
  exact n_vret C hr dX6_put_40 (⟨rfl, hs20, ⟨_, _, _, qh22, qh23, qh24, push_t m2.2.2.2.1, by simp; omega⟩, fun j hj => (((ho21 j (by omega)).trans (ho15 j (by omega))).trans (ho9 j (by omega))).trans (ho3 j (by omega))⟩)

set_option maxHeartbeats 4000000 in
set_option maxRecDepth 100000 in
theorem TX6_operation (l : Launch) {G : GG} {N : Nat} {ad : Nat → Nat} {ev : Nat → va_E} {lim thr : Int} {R9 : Nat → List Int32} {ops : List Tr} {ls : List Op} {lsz : Nat} {rs9 : List Int32} {z q : Int} (hN : 66 ≤ N) (hM : MdlAt G ad ev lim thr R9 ops ls lsz rs9) (hza : -2147483648 ≤ z) (hzb : z < 2147483648) (hqa : -2147483648 ≤ q) (hqb : q < 2147483648) : Ct l yX6_operation wsX6_operation rmX6_operation [.ref (ad 53), .int (iI z), .int (iI q)] G N ad ev 0 0 (fun v e2 => v = some (.int (opS ops z q)) ∧ MdlAt G ad e2 lim 0 R9 ops ls lsz rs9 ∧ Fr e2 ev (fun j => 53 ≤ j ∧ j < 66)) := by
  obtain ⟨cmp, fz, fy, fk, fp, fs, mk, mp, fr, fq, w1, w2, fd, hbb, k53, m1, m2, m3, m4, m5⟩ := hM
  obtain ⟨hli1, hli2, hlsz, hcmp⟩ := hbb
  have hlo := m2.2.2.2.2
  refine Ct_of (cc := cX6_operation) (maxL := 3) (ret := some .int) (lv := [(0, .ref (ad 53)), (1, .int (iI z)), (2, .int (iI q))]) (by decide) rfl (Nat.le_of_ble_eq_true rfl) rfl ?_
  intro p E s m args below meth c A C hr hnm
  refine n_aload_n C dX6_operation_0 0 rfl rfl ?_
  refine n_iconst C dX6_operation_1 ?_
  refine n_put (k9 := 1) (fs2 := [.int (iI lim), .int (iI 0), .ref (ad 54), .ref (ad 55), .int (iI (ops.length : Int)), .ref (ad 56), .ref (ad 57), .ref (ad 58), .int (bI cmp), .int (iI (ls.length : Int)), .int (iI (lsz : Int)), .ref (ad 59), .ref (ad 60), .int (iI (rs9.length : Int)), .ref (ad 61), .ref (ad 62), .ref (ad 63), .ref (ad 64), .ref (ad 65)]) C dX6_operation_2 (by omega) k53 hX6_operation_X6 tyX6_ok nmX6 rfl (by decide) kX6_operation_50 rfl rfl rfl (Nat.le_of_ble_eq_true rfl) rfl (fun e1 hs2 ho3 => ?_)
  have hP4 : Fr e1 _ (fun j => j = 53) := fun j hj => ho3 j hj
  have m1 := m1.fr hP4 (by omega) (by omega)
  have m2 := m2.fr hP4 (by omega) (by omega) (by omega)
  have m3 := m3.fr hP4 (by omega) (by omega)
  have m4 := m4.fr hP4 (by omega)
  have m5 := m5.fr hP4 (by omega) (by omega) (by omega) (by omega)
  refine n_iload_n C dX6_operation_5 1 rfl rfl ?_
  refine n_if_lt C dX6_operation_6 (by decide) (by omega) (by omega) (tgt := 26) (fun c1 => ?_) (fun c1 => ?_)
  · refine n_iconst C dX6_operation_26 ?_
    exact n_iret C hr dX6_operation_27 (⟨by unfold opS; rw [if_neg (by omega)], ⟨cmp, _, _, _, _, _, _, _, _, _, _, _, _, ⟨hli1, hli2, hlsz, hcmp⟩, hs2, m1, m2, m3, m4, m5⟩, fun j hj => hP4 j (by omega)⟩)
  · refine n_iload_n C dX6_operation_9 1 rfl rfl ?_
    refine n_aload_n C dX6_operation_10 0 rfl rfl ?_
    refine n_get (k9 := 4) C dX6_operation_11 (by omega) hs2 hX6_operation_X6 rfl (by decide) kX6_operation_65 rfl ?_
    refine n_icmp_ge C dX6_operation_14 (by decide) (by omega) (by omega) (by omega) (by omega) (tgt := 26) (fun c2 => ?_) (fun c2 => ?_)
    · refine n_iconst C dX6_operation_26 ?_
      exact n_iret C hr dX6_operation_27 (⟨by unfold opS; rw [if_neg (by omega)], ⟨cmp, _, _, _, _, _, _, _, _, _, _, _, _, ⟨hli1, hli2, hlsz, hcmp⟩, hs2, m1, m2, m3, m4, m5⟩, fun j hj => hP4 j (by omega)⟩)
    · obtain ⟨j, rfl⟩ : ∃ j : Nat, z = (j : Int) := ⟨z.toNat, by omega⟩
      have hj9 := opS_in (q := q) (show j < ops.length by omega) (m2.2.2.2.1 j (by omega))
      refine n_iload_n C dX6_operation_17 2 rfl rfl ?_
      refine n_if_lt C dX6_operation_18 (by decide) (by omega) (by omega) (tgt := 26) (fun c3 => ?_) (fun c3 => ?_)
      · refine n_iconst C dX6_operation_26 ?_
        exact n_iret C hr dX6_operation_27 (⟨by rw [hj9, if_neg (by omega), if_neg (by omega), if_neg (by omega)], ⟨cmp, _, _, _, _, _, _, _, _, _, _, _, _, ⟨hli1, hli2, hlsz, hcmp⟩, hs2, m1, m2, m3, m4, m5⟩, fun j hj => hP4 j (by omega)⟩)
      · refine n_iload_n C dX6_operation_21 2 rfl rfl ?_
        refine n_iconst C dX6_operation_22 ?_
        refine n_icmp_le C dX6_operation_23 (by decide) (by omega) (by omega) (by omega) (by omega) (tgt := 28) (fun c4 => ?_) (fun c4 => ?_)
        · refine n_iload_n C dX6_operation_28 2 rfl rfl ?_
          refine n_if_ne C dX6_operation_29 (by decide) (by omega) (by omega) (tgt := 41) (fun c5 => ?_) (fun c5 => ?_)
          · refine n_iload_n C dX6_operation_41 2 rfl rfl ?_
            refine n_iconst C dX6_operation_42 ?_
            refine n_icmp_ne C dX6_operation_43 (by decide) (by omega) (by omega) (by omega) (by omega) (tgt := 55) (fun c6 => ?_) (fun c6 => ?_)
            · refine n_aload_n C dX6_operation_55 0 rfl rfl ?_
              refine n_get (k9 := 7) C dX6_operation_56 (by omega) hs2 hX6_operation_X6 rfl (by decide) kX6_operation_22 rfl ?_
              refine n_iload_n C dX6_operation_59 1 rfl rfl ?_
              refine n_iald (j := j) C dX6_operation_60 (by omega) m2.2.2.1 (by omega) (by omega) (by omega) ?_
              exact n_iret C hr dX6_operation_61 (⟨by rw [hj9, if_neg (by omega), if_neg (by omega), if_pos (by omega)], ⟨cmp, _, _, _, _, _, _, _, _, _, _, _, _, ⟨hli1, hli2, hlsz, hcmp⟩, hs2, m1, m2, m3, m4, m5⟩, fun j hj => hP4 j (by omega)⟩)
            · refine n_aload_n C dX6_operation_46 0 rfl rfl ?_
              refine n_get (k9 := 6) C dX6_operation_47 (by omega) hs2 hX6_operation_X6 rfl (by decide) kX6_operation_19 rfl ?_
              refine n_iload_n C dX6_operation_50 1 rfl rfl ?_
              refine n_iald (j := j) C dX6_operation_51 (by omega) m2.2.1 (by omega) (by omega) (by omega) ?_
              refine n_goto (tgt := 61) C dX6_operation_52 (by decide) ?_
              exact n_iret C hr dX6_operation_61 (⟨by rw [hj9, if_neg (by omega), if_pos (by omega)], ⟨cmp, _, _, _, _, _, _, _, _, _, _, _, _, ⟨hli1, hli2, hlsz, hcmp⟩, hs2, m1, m2, m3, m4, m5⟩, fun j hj => hP4 j (by omega)⟩)
          · refine n_aload_n C dX6_operation_32 0 rfl rfl ?_
            refine n_get (k9 := 5) C dX6_operation_33 (by omega) hs2 hX6_operation_X6 rfl (by decide) kX6_operation_16 rfl ?_
            refine n_iload_n C dX6_operation_36 1 rfl rfl ?_
            refine n_iald (j := j) C dX6_operation_37 (by omega) m2.1 (by omega) (by omega) (by omega) ?_
            refine n_goto (tgt := 61) C dX6_operation_38 (by decide) ?_
            exact n_iret C hr dX6_operation_61 (⟨by rw [hj9, if_pos (by omega)], ⟨cmp, _, _, _, _, _, _, _, _, _, _, _, _, ⟨hli1, hli2, hlsz, hcmp⟩, hs2, m1, m2, m3, m4, m5⟩, fun j hj => hP4 j (by omega)⟩)
        · refine n_iconst C dX6_operation_26 ?_
          exact n_iret C hr dX6_operation_27 (⟨by rw [hj9, if_neg (by omega), if_neg (by omega), if_neg (by omega)], ⟨cmp, _, _, _, _, _, _, _, _, _, _, _, _, ⟨hli1, hli2, hlsz, hcmp⟩, hs2, m1, m2, m3, m4, m5⟩, fun j hj => hP4 j (by omega)⟩)

set_option maxHeartbeats 4000000 in
set_option maxRecDepth 100000 in
theorem TX6_forget (l : Launch) {G : GG} {N : Nat} {ad : Nat → Nat} {ev : Nat → va_E} {lim thr : Int} {R9 : Nat → List Int32} {ops : List Tr} {ls : List Op} {lsz : Nat} {rs9 : List Int32} (hN : 66 ≤ N) (hM : MdlAt G ad ev lim thr R9 ops ls lsz rs9) : Ct l yX6_forget wsX6_forget rmX6_forget [.ref (ad 53)] G N ad ev 0 0 (fun v e2 => v = none ∧ MdlAt G ad e2 lim 0 R9 [] ls lsz rs9 ∧ Fr e2 ev (fun j => 53 ≤ j ∧ j < 66)) := by
  obtain ⟨cmp, fz, fy, fk, fp, fs, mk, mp, fr, fq, w1, w2, fd, hbb, k53, m1, m2, m3, m4, m5⟩ := hM
  obtain ⟨hli1, hli2, hlsz, hcmp⟩ := hbb
  refine Ct_of (cc := cX6_forget) (maxL := 1) (ret := none) (lv := [(0, .ref (ad 53))]) (by decide) rfl (Nat.le_of_ble_eq_true rfl) rfl ?_
  intro p E s m args below meth c A C hr hnm
  refine n_aload_n C dX6_forget_0 0 rfl rfl ?_
  refine n_iconst C dX6_forget_1 ?_
  refine n_put (k9 := 1) (fs2 := [.int (iI lim), .int (iI 0), .ref (ad 54), .ref (ad 55), .int (iI (ops.length : Int)), .ref (ad 56), .ref (ad 57), .ref (ad 58), .int (bI cmp), .int (iI (ls.length : Int)), .int (iI (lsz : Int)), .ref (ad 59), .ref (ad 60), .int (iI (rs9.length : Int)), .ref (ad 61), .ref (ad 62), .ref (ad 63), .ref (ad 64), .ref (ad 65)]) C dX6_forget_2 (by omega) k53 hX6_forget_X6 tyX6_ok nmX6 rfl (by decide) kX6_forget_50 rfl rfl rfl (Nat.le_of_ble_eq_true rfl) rfl (fun e1 hs2 ho3 => ?_)
  have hP4 : Fr e1 _ (fun j => j = 53) := fun j hj => ho3 j hj
  have m1 := m1.fr hP4 (by omega) (by omega)
  have m2 := m2.fr hP4 (by omega) (by omega) (by omega)
  have m3 := m3.fr hP4 (by omega) (by omega)
  have m4 := m4.fr hP4 (by omega)
  have m5 := m5.fr hP4 (by omega) (by omega) (by omega) (by omega)
  refine n_aload_n C dX6_forget_5 0 rfl rfl ?_
  refine n_iconst C dX6_forget_6 ?_
  refine n_put (k9 := 4) (fs2 := [.int (iI lim), .int (iI 0), .ref (ad 54), .ref (ad 55), .int (iI 0), .ref (ad 56), .ref (ad 57), .ref (ad 58), .int (bI cmp), .int (iI (ls.length : Int)), .int (iI (lsz : Int)), .ref (ad 59), .ref (ad 60), .int (iI (rs9.length : Int)), .ref (ad 61), .ref (ad 62), .ref (ad 63), .ref (ad 64), .ref (ad 65)]) C dX6_forget_7 (by omega) hs2 hX6_forget_X6 tyX6_ok nmX6 rfl (by decide) kX6_forget_65 rfl rfl rfl (Nat.le_of_ble_eq_true rfl) rfl (fun e5 hs6 ho7 => ?_)
  have hP8 : Fr e5 _ (fun j => j = 53) := fun j hj => ho7 j hj
  have m1 := m1.fr hP8 (by omega) (by omega)
  have m2 := m2.fr hP8 (by omega) (by omega) (by omega)
  have m3 := m3.fr hP8 (by omega) (by omega)
  have m4 := m4.fr hP8 (by omega)
  have m5 := m5.fr hP8 (by omega) (by omega) (by omega) (by omega)
  have m2 : MOps G e5 [] fk fp fs := ⟨m2.1, m2.2.1, m2.2.2.1, fun j hj => absurd hj (Nat.not_lt_zero j), Nat.zero_le _⟩
  exact n_vret C hr dX6_forget_10 (⟨rfl, ⟨cmp, _, _, _, _, _, _, _, _, _, _, _, _, ⟨hli1, hli2, hlsz, hcmp⟩, hs6, m1, m2, m3, m4, m5⟩, fun j hj => (hP8 j (by omega)).trans (hP4 j (by omega))⟩)

set_option maxHeartbeats 4000000 in
set_option maxRecDepth 100000 in
theorem TX6_load (l : Launch) {G : GG} {N : Nat} {ad : Nat → Nat} {ev : Nat → va_E} {lim thr : Int} {R9 : Nat → List Int32} {ops : List Tr} {ls : List Op} {lsz : Nat} {rs9 : List Int32} {x y z : Int32} (hN : 66 ≤ N) (hM : MdlAt G ad ev lim thr R9 ops ls lsz rs9) : Ct l yX6_load wsX6_load rmX6_load [.ref (ad 53), .int x, .int y, .int z] G N ad ev 0 0 (fun v e2 => v = some (.int (bI (decide (ops.length < 60)))) ∧ MdlAt G ad e2 lim 0 R9 (ldO ops x y z) ls lsz rs9 ∧ Fr e2 ev (fun j => 53 ≤ j ∧ j < 66)) := by
  obtain ⟨cmp, fz, fy, fk, fp, fs, mk, mp, fr, fq, w1, w2, fd, hbb, k53, m1, m2, m3, m4, m5⟩ := hM
  obtain ⟨hli1, hli2, hlsz, hcmp⟩ := hbb
  have hlo := m2.2.2.2.2
  refine Ct_of (cc := cX6_load) (maxL := 4) (ret := some .boolean) (lv := [(0, .ref (ad 53)), (1, .int x), (2, .int y), (3, .int z)]) (by decide) rfl (Nat.le_of_ble_eq_true rfl) rfl ?_
  intro p E s m args below meth c A C hr hnm
  refine n_aload_n C dX6_load_0 0 rfl rfl ?_
  refine n_iconst C dX6_load_1 ?_
  refine n_put (k9 := 1) (fs2 := [.int (iI lim), .int (iI 0), .ref (ad 54), .ref (ad 55), .int (iI (ops.length : Int)), .ref (ad 56), .ref (ad 57), .ref (ad 58), .int (bI cmp), .int (iI (ls.length : Int)), .int (iI (lsz : Int)), .ref (ad 59), .ref (ad 60), .int (iI (rs9.length : Int)), .ref (ad 61), .ref (ad 62), .ref (ad 63), .ref (ad 64), .ref (ad 65)]) C dX6_load_2 (by omega) k53 hX6_load_X6 tyX6_ok nmX6 rfl (by decide) kX6_load_50 rfl rfl rfl (Nat.le_of_ble_eq_true rfl) rfl (fun e1 hs2 ho3 => ?_)
  have hP4 : Fr e1 _ (fun j => j = 53) := fun j hj => ho3 j hj
  have m1 := m1.fr hP4 (by omega) (by omega)
  have m2 := m2.fr hP4 (by omega) (by omega) (by omega)
  have m3 := m3.fr hP4 (by omega) (by omega)
  have m4 := m4.fr hP4 (by omega)
  have m5 := m5.fr hP4 (by omega) (by omega) (by omega) (by omega)
  refine n_aload_n C dX6_load_5 0 rfl rfl ?_
  refine n_get (k9 := 4) C dX6_load_6 (by omega) hs2 hX6_load_X6 rfl (by decide) kX6_load_65 rfl ?_
  refine n_bipush C dX6_load_9 (by decide) ?_
  refine n_icmp_ne C dX6_load_11 (by decide) (by omega) (by omega) (by omega) (by omega) (tgt := 16) (fun c1 => ?_) (fun c1 => ?_)
  · have c2 : ops.length < 60 := by omega
    refine n_aload_n C dX6_load_16 0 rfl rfl ?_
    refine n_iload_n C dX6_load_17 1 rfl rfl ?_
    refine n_iload_n C dX6_load_18 2 rfl rfl ?_
    refine n_iload_n C dX6_load_19 3 rfl rfl ?_
    refine n_callV (rest := []) C dX6_load_20 (TX6_put l hN hs2 m2 c2) (cwV 3 C.2.2.2.2.1 gX6_load_X6_put rfl rfl rfl cdX6_put ⟨Nat.le_of_ble_eq_true rfl, Nat.le_of_ble_eq_true rfl⟩) (by omega) hs2 rfl rfl rfl (Nat.le_of_ble_eq_true rfl) ⟨Nat.le_of_ble_eq_true rfl, Nat.le_of_ble_eq_true rfl⟩ ?_
    rintro _ e9 ⟨rfl, k53, ⟨fk, fp, fs, m2⟩, hF9⟩
    refine n_pc (pc2 := 23) rfl (n_st (st2 := []) rfl ?_)
    have m1 := m1.fr hF9 (by omega) (by omega)
    have m3 := m3.fr hF9 (by omega) (by omega)
    have m4 := m4.fr hF9 (by omega)
    have m5 := m5.fr hF9 (by omega) (by omega) (by omega) (by omega)
    refine n_iconst C dX6_load_23 ?_
    exact n_zret C hr dX6_load_24 (by decide) (⟨by rw [decide_eq_true c2]; rfl, by unfold ldO; rw [if_pos c2]; exact ⟨cmp, _, _, _, _, _, _, _, _, _, _, _, _, ⟨hli1, hli2, hlsz, hcmp⟩, by rw [k53]; simp, m1, m2, m3, m4, m5⟩, fun j hj => (hF9 j (by omega)).trans (hP4 j (by omega))⟩)
  · have c2 : ¬ ops.length < 60 := by omega
    refine n_iconst C dX6_load_14 ?_
    exact n_zret C hr dX6_load_15 (by decide) (⟨by rw [decide_eq_false c2]; rfl, by unfold ldO; rw [if_neg c2]; exact ⟨cmp, _, _, _, _, _, _, _, _, _, _, _, _, ⟨hli1, hli2, hlsz, hcmp⟩, hs2, m1, m2, m3, m4, m5⟩, fun j hj => hP4 j (by omega)⟩)

set_option maxHeartbeats 4000000 in
set_option maxRecDepth 100000 in
theorem TX6_result (l : Launch) {G : GG} {N : Nat} {ad : Nat → Nat} {ev : Nat → va_E} {lim thr : Int} {R9 : Nat → List Int32} {ops : List Tr} {ls : List Op} {lsz : Nat} {rs9 : List Int32} {z : Int} (hN : 66 ≤ N) (hM : MdlAt G ad ev lim thr R9 ops ls lsz rs9) (hza : -2147483648 ≤ z) (hzb : z < 2147483648) : Ct l yX6_result wsX6_result rmX6_result [.ref (ad 53), .int (iI z)] G N ad ev 0 0 (fun v e2 => v = some (.int (atD rs9 z (iI (-40)))) ∧ MdlAt G ad e2 lim 0 R9 ops ls lsz rs9 ∧ Fr e2 ev (fun j => 53 ≤ j ∧ j < 66)) := by
  obtain ⟨cmp, fz, fy, fk, fp, fs, mk, mp, fr, fq, w1, w2, fd, hbb, k53, m1, m2, m3, m4, m5⟩ := hM
  obtain ⟨hli1, hli2, hlsz, hcmp⟩ := hbb
  have hlr := m4.2.2
  refine Ct_of (cc := cX6_result) (maxL := 2) (ret := some .int) (lv := [(0, .ref (ad 53)), (1, .int (iI z))]) (by decide) rfl (Nat.le_of_ble_eq_true rfl) rfl ?_
  intro p E s m args below meth c A C hr hnm
  refine n_aload_n C dX6_result_0 0 rfl rfl ?_
  refine n_iconst C dX6_result_1 ?_
  refine n_put (k9 := 1) (fs2 := [.int (iI lim), .int (iI 0), .ref (ad 54), .ref (ad 55), .int (iI (ops.length : Int)), .ref (ad 56), .ref (ad 57), .ref (ad 58), .int (bI cmp), .int (iI (ls.length : Int)), .int (iI (lsz : Int)), .ref (ad 59), .ref (ad 60), .int (iI (rs9.length : Int)), .ref (ad 61), .ref (ad 62), .ref (ad 63), .ref (ad 64), .ref (ad 65)]) C dX6_result_2 (by omega) k53 hX6_result_X6 tyX6_ok nmX6 rfl (by decide) kX6_result_50 rfl rfl rfl (Nat.le_of_ble_eq_true rfl) rfl (fun e1 hs2 ho3 => ?_)
  have hP4 : Fr e1 _ (fun j => j = 53) := fun j hj => ho3 j hj
  have m1 := m1.fr hP4 (by omega) (by omega)
  have m2 := m2.fr hP4 (by omega) (by omega) (by omega)
  have m3 := m3.fr hP4 (by omega) (by omega)
  have m4 := m4.fr hP4 (by omega)
  have m5 := m5.fr hP4 (by omega) (by omega) (by omega) (by omega)
  refine n_iload_n C dX6_result_5 1 rfl rfl ?_
  refine n_if_lt C dX6_result_6 (by decide) (by omega) (by omega) (tgt := 26) (fun c1 => ?_) (fun c1 => ?_)
  · refine n_bipush C dX6_result_26 (by decide) ?_
    exact n_iret C hr dX6_result_28 (⟨by rw [atD_out (Or.inl c1)], ⟨cmp, _, _, _, _, _, _, _, _, _, _, _, _, ⟨hli1, hli2, hlsz, hcmp⟩, hs2, m1, m2, m3, m4, m5⟩, fun j hj => hP4 j (by omega)⟩)
  · refine n_iload_n C dX6_result_9 1 rfl rfl ?_
    refine n_aload_n C dX6_result_10 0 rfl rfl ?_
    refine n_get (k9 := 13) C dX6_result_11 (by omega) hs2 hX6_result_X6 rfl (by decide) kX6_result_90 rfl ?_
    refine n_icmp_ge C dX6_result_14 (by decide) (by omega) (by omega) (by omega) (by omega) (tgt := 26) (fun c2 => ?_) (fun c2 => ?_)
    · refine n_bipush C dX6_result_26 (by decide) ?_
      exact n_iret C hr dX6_result_28 (⟨by rw [atD_out (Or.inr c2)], ⟨cmp, _, _, _, _, _, _, _, _, _, _, _, _, ⟨hli1, hli2, hlsz, hcmp⟩, hs2, m1, m2, m3, m4, m5⟩, fun j hj => hP4 j (by omega)⟩)
    · obtain ⟨n, rfl⟩ : ∃ n : Nat, z = (n : Int) := ⟨z.toNat, by omega⟩
      refine n_aload_n C dX6_result_17 0 rfl rfl ?_
      refine n_get (k9 := 14) C dX6_result_18 (by omega) hs2 hX6_result_X6 rfl (by decide) kX6_result_31 rfl ?_
      refine n_iload_n C dX6_result_21 1 rfl rfl ?_
      refine n_iald (j := n) C dX6_result_22 (by omega) m4.1 (by omega) (by omega) (by omega) ?_
      refine n_goto (tgt := 28) C dX6_result_23 (by decide) ?_
      exact n_iret C hr dX6_result_28 (⟨by rw [atD_in rfl (by omega) (m4.2.1 n (by omega))], ⟨cmp, _, _, _, _, _, _, _, _, _, _, _, _, ⟨hli1, hli2, hlsz, hcmp⟩, hs2, m1, m2, m3, m4, m5⟩, fun j hj => hP4 j (by omega)⟩)

set_option maxHeartbeats 4000000 in
set_option maxRecDepth 100000 in
theorem TX6_results (l : Launch) {G : GG} {N : Nat} {ad : Nat → Nat} {ev : Nat → va_E} {lim thr : Int} {R9 : Nat → List Int32} {ops : List Tr} {ls : List Op} {lsz : Nat} {rs9 : List Int32} (hN : 66 ≤ N) (hM : MdlAt G ad ev lim thr R9 ops ls lsz rs9) : Ct l yX6_results wsX6_results rmX6_results [.ref (ad 53)] G N ad ev 0 0 (fun v e2 => v = some (.int (iI (rs9.length : Int))) ∧ MdlAt G ad e2 lim 0 R9 ops ls lsz rs9 ∧ Fr e2 ev (fun j => 53 ≤ j ∧ j < 66)) := by
  obtain ⟨cmp, fz, fy, fk, fp, fs, mk, mp, fr, fq, w1, w2, fd, hbb, k53, m1, m2, m3, m4, m5⟩ := hM
  obtain ⟨hli1, hli2, hlsz, hcmp⟩ := hbb
  refine Ct_of (cc := cX6_results) (maxL := 1) (ret := some .int) (lv := [(0, .ref (ad 53))]) (by decide) rfl (Nat.le_of_ble_eq_true rfl) rfl ?_
  intro p E s m args below meth c A C hr hnm
  refine n_aload_n C dX6_results_0 0 rfl rfl ?_
  refine n_iconst C dX6_results_1 ?_
  refine n_put (k9 := 1) (fs2 := [.int (iI lim), .int (iI 0), .ref (ad 54), .ref (ad 55), .int (iI (ops.length : Int)), .ref (ad 56), .ref (ad 57), .ref (ad 58), .int (bI cmp), .int (iI (ls.length : Int)), .int (iI (lsz : Int)), .ref (ad 59), .ref (ad 60), .int (iI (rs9.length : Int)), .ref (ad 61), .ref (ad 62), .ref (ad 63), .ref (ad 64), .ref (ad 65)]) C dX6_results_2 (by omega) k53 hX6_results_X6 tyX6_ok nmX6 rfl (by decide) kX6_results_50 rfl rfl rfl (Nat.le_of_ble_eq_true rfl) rfl (fun e1 hs2 ho3 => ?_)
  have hP4 : Fr e1 _ (fun j => j = 53) := fun j hj => ho3 j hj
  have m1 := m1.fr hP4 (by omega) (by omega)
  have m2 := m2.fr hP4 (by omega) (by omega) (by omega)
  have m3 := m3.fr hP4 (by omega) (by omega)
  have m4 := m4.fr hP4 (by omega)
  have m5 := m5.fr hP4 (by omega) (by omega) (by omega) (by omega)
  refine n_aload_n C dX6_results_5 0 rfl rfl ?_
  refine n_get (k9 := 13) C dX6_results_6 (by omega) hs2 hX6_results_X6 rfl (by decide) kX6_results_90 rfl ?_
  exact n_iret C hr dX6_results_9 (⟨by rfl, ⟨cmp, _, _, _, _, _, _, _, _, _, _, _, _, ⟨hli1, hli2, hlsz, hcmp⟩, hs2, m1, m2, m3, m4, m5⟩, fun j hj => hP4 j (by omega)⟩)
