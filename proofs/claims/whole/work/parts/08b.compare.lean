/-! Comparison: cell 16; its table: cells 17 (outer), 18 .. 38 (rows of it); the rows that it compares: cells qa, qb -/
def CmpAt (G : GG) (ad : Nat → Nat) (ev : Nat → va_E) (qa qb : Nat) (M : Nat → Nat → Int32) : Prop :=
  ev 16 = .inr (0, [.ref (ad 17), .ref (ad qa), .ref (ad qb)]) ∧ ev 17 = .inl (G.2.2.2.1, 21, .inr (.inr (.inr (.inr (fun i => if i < 21 then some (ad (18 + i)) else none))))) ∧ ∀ i, i < 21 → ev (18 + i) = .inl (G.2.1, 21, .inl (M i))
theorem CmpAt.fr {G : GG} {ad : Nat → Nat} {ev e2 : Nat → va_E} {qa qb : Nat} {M : Nat → Nat → Int32} {S : Nat → Prop} (h : CmpAt G ad ev qa qb M) (hF : Fr e2 ev S) (hS : ∀ j, 16 ≤ j → j < 39 → ¬ S j) : CmpAt G ad e2 qa qb M :=
  ⟨(hF _ (hS 16 (by omega) (by omega))).trans h.1, (hF _ (hS 17 (by omega) (by omega))).trans h.2.1, fun i hi => (hF _ (hS (18 + i) (by omega) (by omega))).trans (h.2.2 i hi)⟩
def upM (M : Nat → Nat → Int32) (i j : Nat) (x : Int32) : Nat → Nat → Int32 := fun a => if a = i then upd (M i) j x else M a
theorem CmpAt.set {G : GG} {ad : Nat → Nat} {ev e2 : Nat → va_E} {qa qb i j : Nat} {x : Int32} {M : Nat → Nat → Int32} (h : CmpAt G ad ev qa qb M) (hi : i < 21) (hs : e2 (18 + i) = .inl (G.2.1, 21, .inl (upd (M i) j x))) (ho : ∀ k, k ≠ 18 + i → e2 k = ev k) : CmpAt G ad e2 qa qb (upM M i j x) := by
  refine ⟨(ho 16 (by omega)).trans h.1, (ho 17 (by omega)).trans h.2.1, fun a ha => ?_⟩
  unfold upM
  by_cases e : a = i
  · subst e; rw [if_pos rfl]; exact hs
  · rw [if_neg e, ho (18 + a) (by omega)]; exact h.2.2 a ha
theorem upM_self {M : Nat → Nat → Int32} {i j : Nat} {x : Int32} : upM M i j x i j = x := by simp [upM, upd]
theorem upM_ne {M : Nat → Nat → Int32} {i j a b : Nat} {x : Int32} (h : a ≠ i ∨ b ≠ j) : upM M i j x a b = M a b := by
  unfold upM
  by_cases e : a = i
  · subst e
    rw [if_pos rfl]
    have : b ≠ j := by omega
    simp [upd, this]
  · rw [if_neg e]
theorem sam_of {xs ys : List Int32} {i j : Nat} {x y : Int32} (hx : xs[i]? = some x) (hy : ys[j]? = some y) : sam xs ys i j = decide (x = y) := by
  unfold sam
  have h1 : i < xs.length := (List.getElem?_eq_some_iff.mp hx).1
  have h2 : j < ys.length := (List.getElem?_eq_some_iff.mp hy).1
  rw [hx, hy]
  simp [h1, h2]
theorem sam_no {xs ys : List Int32} {i j : Nat} (h : xs.length ≤ i ∨ ys.length ≤ j) : sam xs ys i j = false := by
  unfold sam
  rw [decide_eq_false (by omega)]

def pX0_isSame (ev : Nat → va_E) (xs ys : List Int32) (i j : Nat) : Option Value → (Nat → va_E) → Prop := fun v e2 => v = some (.int (bI (sam xs ys i j))) ∧ ev = e2

set_option maxHeartbeats 4000000 in
set_option maxRecDepth 100000 in
theorem TX0_isSame (l : Launch) {G : GG} {N : Nat} {ad : Nat → Nat} {ev : Nat → va_E} {qa qb i j : Nat} {M : Nat → Nat → Int32} {xs ys : List Int32} (hN : 53 ≤ N) (hC : CmpAt G ad ev qa qb M) (r1 : RowAt G ad ev qa xs 20) (r2 : RowAt G ad ev qb ys 20) (ha : qa + 1 < 16) (hb : qb + 1 < 16) (hi : i ≤ 100) (hj : j ≤ 100) : Ct l yX0_isSame wsX0_isSame rmX0_isSame [.ref (ad 16), .int (iI (i : Int)), .int (iI (j : Int))] G N ad ev 0 0 (pX0_isSame ev xs ys i j) := by
  have hl1 := r1.le
  have hl2 := r2.le
  obtain ⟨k0, k1, k2⟩ := id hC
  obtain ⟨f0, g0, g1, g2, -⟩ := id r1
  obtain ⟨f3, g3, g4, g5, -⟩ := id r2
  refine Ct_of (cc := cX0_isSame) (maxL := 3) (ret := some .boolean) (lv := [(0, .ref (ad 16)), (1, .int (iI (i : Int))), (2, .int (iI (j : Int)))]) (by decide) rfl (Nat.le_of_ble_eq_true rfl) rfl ?_
  intro p E s m args below meth c A C hr hnm
  refine n_iload_n C dX0_isSame_0 1 rfl rfl ?_
  refine n_aload_n C dX0_isSame_1 0 rfl rfl ?_
  refine n_get (k9 := 1) C dX0_isSame_2 (by omega) k0 hX0_isSame_X0 rfl (by decide) kX0_isSame_21 rfl ?_
  refine n_getN (k9 := 1) C dX0_isSame_5 (by omega) g0 hX0_isSame_X2 rfl (by decide) kn_X0_28 rfl ?_
  refine n_icmp_ge C dX0_isSame_8 (by decide) (by omega) (by omega) (by omega) (by omega) (tgt := 47) (fun c1 => ?_) (fun c1 => ?_)
  · refine n_iconst C dX0_isSame_47 ?_
    exact n_zret C hr dX0_isSame_48 (by decide) (⟨by rw [sam_no (Or.inl (by omega))]; rfl, rfl⟩)
  · refine n_iload_n C dX0_isSame_11 2 rfl rfl ?_
    refine n_aload_n C dX0_isSame_12 0 rfl rfl ?_
    refine n_get (k9 := 2) C dX0_isSame_13 (by omega) k0 hX0_isSame_X0 rfl (by decide) kX0_isSame_25 rfl ?_
    refine n_getN (k9 := 1) C dX0_isSame_16 (by omega) g3 hX0_isSame_X2 rfl (by decide) kn_X0_28 rfl ?_
    refine n_icmp_ge C dX0_isSame_19 (by decide) (by omega) (by omega) (by omega) (by omega) (tgt := 47) (fun c2 => ?_) (fun c2 => ?_)
    · refine n_iconst C dX0_isSame_47 ?_
      exact n_zret C hr dX0_isSame_48 (by decide) (⟨by rw [sam_no (Or.inr (by omega))]; rfl, rfl⟩)
    · refine n_aload_n C dX0_isSame_22 0 rfl rfl ?_
      refine n_get (k9 := 1) C dX0_isSame_23 (by omega) k0 hX0_isSame_X0 rfl (by decide) kX0_isSame_21 rfl ?_
      refine n_getN (k9 := 0) C dX0_isSame_26 (by omega) g0 hX0_isSame_X2 rfl (by decide) kn_X0_64 rfl ?_
      refine n_iload_n C dX0_isSame_29 1 rfl rfl ?_
      refine n_iald (j := i) C dX0_isSame_30 (by omega) g1 (by omega) (by omega) (by omega) ?_
      refine n_aload_n C dX0_isSame_31 0 rfl rfl ?_
      refine n_get (k9 := 2) C dX0_isSame_32 (by omega) k0 hX0_isSame_X0 rfl (by decide) kX0_isSame_25 rfl ?_
      refine n_getN (k9 := 0) C dX0_isSame_35 (by omega) g3 hX0_isSame_X2 rfl (by decide) kn_X0_64 rfl ?_
      refine n_iload_n C dX0_isSame_38 2 rfl rfl ?_
      refine n_iald (j := j) C dX0_isSame_39 (by omega) g4 (by omega) (by omega) (by omega) ?_
      refine n_icmp_neR C dX0_isSame_40 (by decide) (tgt := 47) (fun c3 => ?_) (fun c3 => ?_)
      · refine n_iconst C dX0_isSame_47 ?_
        exact n_zret C hr dX0_isSame_48 (by decide) (⟨by rw [sam_of (g2 i (by omega)) (g5 j (by omega)), decide_eq_false c3]; rfl, rfl⟩)
      · refine n_iconst C dX0_isSame_43 ?_
        refine n_goto (tgt := 48) C dX0_isSame_44 (by decide) ?_
        exact n_zret C hr dX0_isSame_48 (by decide) (⟨by rw [sam_of (g2 i (by omega)) (g5 j (by omega)), decide_eq_true c3]; rfl, rfl⟩)

def pX0_restAt (ev : Nat → va_E) (xs ys : List Int32) (i j : Nat) : Option Value → (Nat → va_E) → Prop := fun v e2 => v = some (.int (iI (rs xs ys i j : Int))) ∧ ev = e2

set_option maxHeartbeats 4000000 in
set_option maxRecDepth 100000 in
theorem TX0_restAt (l : Launch) {G : GG} {N : Nat} {ad : Nat → Nat} {ev : Nat → va_E} {qa qb i j : Nat} {M : Nat → Nat → Int32} {xs ys : List Int32} (hN : 53 ≤ N) (hC : CmpAt G ad ev qa qb M) (r1 : RowAt G ad ev qa xs 20) (r2 : RowAt G ad ev qb ys 20) (ha : qa + 1 < 16) (hb : qb + 1 < 16) (hi : i ≤ xs.length) (hj : j ≤ ys.length) (hM : i < xs.length → j < ys.length → M (i + 1) (j + 1) = iI (rs xs ys (i + 1) (j + 1) : Int) ∧ M (i + 1) j = iI (rs xs ys (i + 1) j : Int) ∧ M i (j + 1) = iI (rs xs ys i (j + 1) : Int)) : Ct l yX0_restAt wsX0_restAt rmX0_restAt [.ref (ad 16), .int (iI (i : Int)), .int (iI (j : Int))] G N ad ev 0 0 (pX0_restAt ev xs ys i j) := by
  have hl1 := r1.le
  have hl2 := r2.le
  obtain ⟨k0, k1, k2⟩ := id hC
  obtain ⟨f0, g0, g1, g2, -⟩ := id r1
  obtain ⟨f3, g3, g4, g5, -⟩ := id r2
  have q1 := rs_le xs ys (i + 1) (j + 1)
  have q2 := rs_le xs ys (i + 1) j
  have q3 := rs_le xs ys i (j + 1)
  refine Ct_of (cc := cX0_restAt) (maxL := 3) (ret := some .int) (lv := [(0, .ref (ad 16)), (1, .int (iI (i : Int))), (2, .int (iI (j : Int)))]) (by decide) rfl (Nat.le_of_ble_eq_true rfl) rfl ?_
  intro p E s m args below meth c A C hr hnm
  refine n_iload_n C dX0_restAt_0 1 rfl rfl ?_
  refine n_aload_n C dX0_restAt_1 0 rfl rfl ?_
  refine n_get (k9 := 1) C dX0_restAt_2 (by omega) k0 hX0_restAt_X0 rfl (by decide) kX0_restAt_21 rfl ?_
  refine n_getN (k9 := 1) C dX0_restAt_5 (by omega) g0 hX0_restAt_X2 rfl (by decide) kn_X0_28 rfl ?_
  refine n_icmp_ge C dX0_restAt_8 (by decide) (by omega) (by omega) (by omega) (by omega) (tgt := 22) (fun c1 => ?_) (fun c1 => ?_)
  · refine n_aload_n C dX0_restAt_22 0 rfl rfl ?_
    refine n_get (k9 := 1) C dX0_restAt_23 (by omega) k0 hX0_restAt_X0 rfl (by decide) kX0_restAt_21 rfl ?_
    refine n_getN (k9 := 1) C dX0_restAt_26 (by omega) g0 hX0_restAt_X2 rfl (by decide) kn_X0_28 rfl ?_
    refine n_iload_n C dX0_restAt_29 1 rfl rfl ?_
    refine n_isub C dX0_restAt_30 ?_
    refine n_aload_n C dX0_restAt_31 0 rfl rfl ?_
    refine n_get (k9 := 2) C dX0_restAt_32 (by omega) k0 hX0_restAt_X0 rfl (by decide) kX0_restAt_25 rfl ?_
    refine n_getN (k9 := 1) C dX0_restAt_35 (by omega) g3 hX0_restAt_X2 rfl (by decide) kn_X0_28 rfl ?_
    refine n_iadd C dX0_restAt_38 ?_
    refine n_iload_n C dX0_restAt_39 2 rfl rfl ?_
    refine n_isub C dX0_restAt_40 ?_
    exact n_iret C hr dX0_restAt_41 (⟨by rw [rs_end (Or.inl (by omega))]; congr 3; omega, rfl⟩)
  · refine n_iload_n C dX0_restAt_11 2 rfl rfl ?_
    refine n_aload_n C dX0_restAt_12 0 rfl rfl ?_
    refine n_get (k9 := 2) C dX0_restAt_13 (by omega) k0 hX0_restAt_X0 rfl (by decide) kX0_restAt_25 rfl ?_
    refine n_getN (k9 := 1) C dX0_restAt_16 (by omega) g3 hX0_restAt_X2 rfl (by decide) kn_X0_28 rfl ?_
    refine n_icmp_lt C dX0_restAt_19 (by decide) (by omega) (by omega) (by omega) (by omega) (tgt := 42) (fun c2 => ?_) (fun c2 => ?_)
    · refine n_aload_n C dX0_restAt_42 0 rfl rfl ?_
      refine n_iload_n C dX0_restAt_43 1 rfl rfl ?_
      refine n_iload_n C dX0_restAt_44 2 rfl rfl ?_
      refine n_callV (rest := []) C dX0_restAt_45 (TX0_isSame l hN hC r1 r2 ha hb (by omega) (by omega)) (cwV 2 C.2.2.2.2.1 gX0_restAt_X0_isSame rfl rfl rfl cdX0_isSame ⟨Nat.le_of_ble_eq_true rfl, Nat.le_of_ble_eq_true rfl⟩) (by omega) k0 rfl rfl rfl (Nat.le_of_ble_eq_true rfl) ⟨Nat.le_of_ble_eq_true rfl, Nat.le_of_ble_eq_true rfl⟩ ?_
      rintro _ _ ⟨rfl, rfl⟩
      refine n_pc (pc2 := 48) rfl (n_st (st2 := [.int (bI (sam xs ys i j))]) rfl ?_)
      obtain ⟨m1, m2, m3⟩ := hM (by omega) (by omega)
      refine n_if_eqB C dX0_restAt_48 (by decide) (tgt := 64) (fun c3 => ?_) (fun c3 => ?_)
      · refine n_iconst C dX0_restAt_64 ?_
        refine n_aload_n C dX0_restAt_65 0 rfl rfl ?_
        refine n_get (k9 := 0) C dX0_restAt_66 (by omega) k0 hX0_restAt_X0 rfl (by decide) kX0_restAt_11 rfl ?_
        refine n_iload_n C dX0_restAt_69 1 rfl rfl ?_
        refine n_iconst C dX0_restAt_70 ?_
        refine n_iadd C dX0_restAt_71 ?_
        refine n_aaldI (j := i + 1) (q := ad (18 + (i + 1))) C dX0_restAt_72 (by omega) k1 (by omega) (by omega) (by omega) (if_pos (by omega)) ?_
        refine n_iload_n C dX0_restAt_73 2 rfl rfl ?_
        refine n_iald (j := j) C dX0_restAt_74 (by omega) (k2 (i + 1) (by omega)) (by omega) (by omega) (by omega) ?_
        refine n_topI (y := (iI (rs xs ys (i + 1) j : Int))) (m2) ?_
        refine n_aload_n C dX0_restAt_75 0 rfl rfl ?_
        refine n_get (k9 := 0) C dX0_restAt_76 (by omega) k0 hX0_restAt_X0 rfl (by decide) kX0_restAt_11 rfl ?_
        refine n_iload_n C dX0_restAt_79 1 rfl rfl ?_
        refine n_aaldI (j := i) (q := ad (18 + i)) C dX0_restAt_80 (by omega) k1 (by omega) (by omega) (by omega) (if_pos (by omega)) ?_
        refine n_iload_n C dX0_restAt_81 2 rfl rfl ?_
        refine n_iconst C dX0_restAt_82 ?_
        refine n_iadd C dX0_restAt_83 ?_
        refine n_iald (j := j + 1) C dX0_restAt_84 (by omega) (k2 i (by omega)) (by omega) (by omega) (by omega) ?_
        refine n_topI (y := (iI (rs xs ys i (j + 1) : Int))) (m3) ?_
        refine n_mmin C dX0_restAt_85 (List.mem_of_getElem? (i := 4) rfl) (List.mem_of_getElem? (i := 5) rfl) (List.mem_of_getElem? (i := 6) rfl) (List.mem_of_getElem? (i := 7) rfl) (Nat.le_of_ble_eq_true rfl) (Nat.le_of_ble_eq_true rfl) (Nat.le_of_ble_eq_true rfl) (Nat.le_of_ble_eq_true rfl) (by omega) (by omega) (by omega) (by omega) ?_
        refine n_iadd C dX0_restAt_88 ?_
        obtain ⟨x9, hx9⟩ := some_of_lt (show i < xs.length by omega)
        obtain ⟨y9, hy9⟩ := some_of_lt (show j < ys.length by omega)
        rw [sam_of hx9 hy9] at c3
        exact n_iret C hr dX0_restAt_89 (⟨by rw [rs_diff hx9 hy9 (of_decide_eq_false c3)]; congr 3; omega, rfl⟩)
      · refine n_aload_n C dX0_restAt_51 0 rfl rfl ?_
        refine n_get (k9 := 0) C dX0_restAt_52 (by omega) k0 hX0_restAt_X0 rfl (by decide) kX0_restAt_11 rfl ?_
        refine n_iload_n C dX0_restAt_55 1 rfl rfl ?_
        refine n_iconst C dX0_restAt_56 ?_
        refine n_iadd C dX0_restAt_57 ?_
        refine n_aaldI (j := i + 1) (q := ad (18 + (i + 1))) C dX0_restAt_58 (by omega) k1 (by omega) (by omega) (by omega) (if_pos (by omega)) ?_
        refine n_iload_n C dX0_restAt_59 2 rfl rfl ?_
        refine n_iconst C dX0_restAt_60 ?_
        refine n_iadd C dX0_restAt_61 ?_
        refine n_iald (j := j + 1) C dX0_restAt_62 (by omega) (k2 (i + 1) (by omega)) (by omega) (by omega) (by omega) ?_
        refine n_topI (y := (iI (rs xs ys (i + 1) (j + 1) : Int))) (m1) ?_
        obtain ⟨x9, hx9⟩ := some_of_lt (show i < xs.length by omega)
        obtain ⟨y9, hy9⟩ := some_of_lt (show j < ys.length by omega)
        rw [sam_of hx9 hy9] at c3
        have c4 := of_decide_eq_true c3
        subst c4
        exact n_iret C hr dX0_restAt_63 (⟨by rw [rs_same hx9 hy9], rfl⟩)
    · refine n_aload_n C dX0_restAt_22 0 rfl rfl ?_
      refine n_get (k9 := 1) C dX0_restAt_23 (by omega) k0 hX0_restAt_X0 rfl (by decide) kX0_restAt_21 rfl ?_
      refine n_getN (k9 := 1) C dX0_restAt_26 (by omega) g0 hX0_restAt_X2 rfl (by decide) kn_X0_28 rfl ?_
      refine n_iload_n C dX0_restAt_29 1 rfl rfl ?_
      refine n_isub C dX0_restAt_30 ?_
      refine n_aload_n C dX0_restAt_31 0 rfl rfl ?_
      refine n_get (k9 := 2) C dX0_restAt_32 (by omega) k0 hX0_restAt_X0 rfl (by decide) kX0_restAt_25 rfl ?_
      refine n_getN (k9 := 1) C dX0_restAt_35 (by omega) g3 hX0_restAt_X2 rfl (by decide) kn_X0_28 rfl ?_
      refine n_iadd C dX0_restAt_38 ?_
      refine n_iload_n C dX0_restAt_39 2 rfl rfl ?_
      refine n_isub C dX0_restAt_40 ?_
      exact n_iret C hr dX0_restAt_41 (⟨by rw [rs_end (Or.inr (by omega))]; congr 3; omega, rfl⟩)

def okM (M : Nat → Nat → Int32) (xs ys : List Int32) : Prop := ∀ i j, i ≤ xs.length → j ≤ ys.length → M i j = iI (rs xs ys i j : Int)
def pX0_compare (G : GG) (ad : Nat → Nat) (ev : Nat → va_E) (qa qb : Nat) (xs ys : List Int32) : Option Value → (Nat → va_E) → Prop := fun v e2 => v = none ∧ (∃ M, CmpAt G ad e2 qa qb M ∧ okM M xs ys) ∧ Fr e2 ev (fun j => 16 ≤ j ∧ j < 39)

set_option maxHeartbeats 4000000 in
set_option maxRecDepth 100000 in
theorem TX0_compare (l : Launch) {G : GG} {N : Nat} {ad : Nat → Nat} {ev : Nat → va_E} {qa qb qa0 qb0 : Nat} {M : Nat → Nat → Int32} {xs ys : List Int32} (hN : 53 ≤ N) (hC : CmpAt G ad ev qa0 qb0 M) (r1 : RowAt G ad ev qa xs 20) (r2 : RowAt G ad ev qb ys 20) (ha : qa + 1 < 16) (hb : qb + 1 < 16) : Ct l yX0_compare wsX0_compare rmX0_compare [.ref (ad 16), .ref (ad qa), .ref (ad qb)] G N ad ev 0 0 (pX0_compare G ad ev qa qb xs ys) := by
  have hl1 := r1.le
  have hl2 := r2.le
  obtain ⟨k0, k1, k2⟩ := id hC
  obtain ⟨f0, g0, g1, g2, -⟩ := id r1
  obtain ⟨f3, g3, g4, g5, -⟩ := id r2
  refine Ct_of (cc := cX0_compare) (maxL := 5) (ret := none) (lv := [(0, .ref (ad 16)), (1, .ref (ad qa)), (2, .ref (ad qb))]) (by decide) rfl (Nat.le_of_ble_eq_true rfl) rfl ?_
  intro p E s m args below meth c A C hr hnm
  refine n_aload_n C dX0_compare_0 0 rfl rfl ?_
  refine n_aload_n C dX0_compare_1 1 rfl rfl ?_
  refine n_put (k9 := 1) (fs2 := [.ref (ad 17), .ref (ad qa), .ref (ad qb0)]) C dX0_compare_2 (by omega) k0 hX0_compare_X0 tyX0_ok nmX0 rfl (by decide) kX0_compare_21 rfl rfl rfl (Nat.le_of_ble_eq_true rfl) rfl (fun e1 hs2 ho3 => ?_)
  have h4 := (ho3 qa (by omega)).trans g0
  have h5 := (ho3 (qa + 1) (by omega)).trans g1
  refine n_aload_n C dX0_compare_5 0 rfl rfl ?_
  refine n_aload_n C dX0_compare_6 2 rfl rfl ?_
  refine n_put (k9 := 2) (fs2 := [.ref (ad 17), .ref (ad qa), .ref (ad qb)]) C dX0_compare_7 (by omega) hs2 hX0_compare_X0 tyX0_ok nmX0 rfl (by decide) kX0_compare_25 rfl rfl rfl (Nat.le_of_ble_eq_true rfl) rfl (fun e6 hs7 ho8 => ?_)
  have h9 := (ho8 qa (by omega)).trans h4
  have h10 := (ho8 (qa + 1) (by omega)).trans h5
  refine n_aload_n C dX0_compare_10 0 rfl rfl ?_
  refine n_get (k9 := 1) C dX0_compare_11 (by omega) hs7 hX0_compare_X0 rfl (by decide) kX0_compare_21 rfl ?_
  refine n_getN (k9 := 1) C dX0_compare_14 (by omega) h9 hX0_compare_X2 rfl (by decide) kn_X0_28 rfl ?_
  refine n_istore_n (lv' := [(0, .ref (ad 16)), (1, .ref (ad qa)), (2, .ref (ad qb)), (3, .int (iI (xs.length : Int)))]) C dX0_compare_17 rfl (by decide) rfl ?_
  have hCa : CmpAt G ad e6 qa qb M := ⟨hs7, (ho8 17 (by omega)).trans ((ho3 17 (by omega)).trans k1), fun i hi => (ho8 _ (by omega)).trans ((ho3 _ (by omega)).trans (k2 i hi))⟩
  have hFa : Fr e6 ev (fun j => 16 ≤ j ∧ j < 39) := fun j hj => (ho8 j (by omega)).trans (ho3 j (by omega))
  have ra1 := r1.fr hFa (by omega) (by omega)
  have ra2 := r2.fr hFa (by omega) (by omega)
  have loop : ∀ (n9 : Nat) (t : Nat) (ex : Nat → va_E) (M : Nat → Nat → Int32), t < n9 → (t ≤ xs.length + 1) → (CmpAt G ad ex qa qb M) → (RowAt G ad ex qa xs 20) → (RowAt G ad ex qb ys 20) → (Fr ex ev (fun j => 16 ≤ j ∧ j < 39)) → (∀ i j, t ≤ i → i ≤ xs.length → j ≤ ys.length → M i j = iI (rs xs ys i j : Int)) → V p l E rmX0_compare s m args below meth c G A 5 (MQ below (Qg G N ad A (pX0_compare G ad ev qa qb xs ys)) args s 0 0 A) N ad ex 0 0 18 [(0, .ref (ad 16)), (1, .ref (ad qa)), (2, .ref (ad qb)), (3, .int (iI ((t : Int) - 1)))] [] := by
    intro n9
    induction n9 with
    | zero =>
      intro t ex M hm9
      exact absurd hm9 (Nat.not_lt_zero _)
    | succ n9 ih =>
      intro t ex M hm9 ht hc p1 p2 hF hok
      refine n_iload_n C dX0_compare_18 3 rfl rfl ?_
      refine n_if_lt C dX0_compare_19 (by decide) (by omega) (by omega) (tgt := 64) (fun c1 => ?_) (fun c1 => ?_)
      · exact n_vret C hr dX0_compare_64 (⟨rfl, ⟨M, hc, fun i j hi hj => hok i j (by omega) hi hj⟩, hF⟩)
      · obtain ⟨k0, k1, k2⟩ := id hc
        obtain ⟨f0, g0, g1, g2, -⟩ := id p1
        obtain ⟨f3, g3, g4, g5, -⟩ := id p2
        obtain ⟨i, rfl⟩ : ∃ i, t = i + 1 := ⟨t - 1, by omega⟩
        refine n_lv (lv2 := [(0, .ref (ad 16)), (1, .ref (ad qa)), (2, .ref (ad qb)), (3, .int (iI (i : Int)))]) (by simp) ?_
        refine n_aload_n C dX0_compare_22 0 rfl rfl ?_
        refine n_get (k9 := 2) C dX0_compare_23 (by omega) k0 hX0_compare_X0 rfl (by decide) kX0_compare_25 rfl ?_
        refine n_getN (k9 := 1) C dX0_compare_26 (by omega) g3 hX0_compare_X2 rfl (by decide) kn_X0_28 rfl ?_
        refine n_istore (lv' := [(0, .ref (ad 16)), (1, .ref (ad qa)), (2, .ref (ad qb)), (3, .int (iI (i : Int))), (4, .int (iI (ys.length : Int)))]) C dX0_compare_29 (by decide) rfl ?_
        have loop2 : ∀ (n9 : Nat) (u : Nat) (ey : Nat → va_E) (M : Nat → Nat → Int32), u < n9 → (u ≤ ys.length + 1) → (CmpAt G ad ey qa qb M) → (RowAt G ad ey qa xs 20) → (RowAt G ad ey qb ys 20) → (Fr ey ev (fun j => 16 ≤ j ∧ j < 39)) → (∀ i9 j, i + 1 ≤ i9 → i9 ≤ xs.length → j ≤ ys.length → M i9 j = iI (rs xs ys i9 j : Int)) → (∀ j, u ≤ j → j ≤ ys.length → M i j = iI (rs xs ys i j : Int)) → V p l E rmX0_compare s m args below meth c G A 5 (MQ below (Qg G N ad A (pX0_compare G ad ev qa qb xs ys)) args s 0 0 A) N ad ey 0 0 31 [(0, .ref (ad 16)), (1, .ref (ad qa)), (2, .ref (ad qb)), (3, .int (iI (i : Int))), (4, .int (iI ((u : Int) - 1)))] [] := by
          intro n9
          induction n9 with
          | zero =>
            intro u ey M hm9
            exact absurd hm9 (Nat.not_lt_zero _)
          | succ n9 ih2 =>
            intro u ey M hm9 hu hc p1 p2 hF hok hok2
            refine n_iload C dX0_compare_31 4 rfl ?_
            refine n_if_lt C dX0_compare_33 (by decide) (by omega) (by omega) (tgt := 58) (fun c2 => ?_) (fun c2 => ?_)
            · refine n_iinc (lv' := [(0, .ref (ad 16)), (1, .ref (ad qa)), (2, .ref (ad qb)), (3, .int (iI ((i : Int) + (-1)))), (4, .int (iI ((u : Int) - 1)))]) C dX0_compare_58 3 rfl (by decide) rfl ?_
              refine n_goto (tgt := 18) C dX0_compare_61 (by decide) ?_
              refine n_sub (lv2 := [(0, .ref (ad 16)), (1, .ref (ad qa)), (2, .ref (ad qb)), (3, .int (iI ((i : Int) + (-1))))]) [0, 1, 2, 3] rfl ?_
              exact ih i ey M (by omega) (by omega) hc p1 p2 hF (fun i9 j h1 h2 h3 => by
                rcases Nat.lt_or_ge i i9 with q | q
                · exact hok i9 j q h2 h3
                · rw [show i9 = i by omega]; exact hok2 j (by omega) h3)
            · obtain ⟨k0, k1, k2⟩ := id hc
              obtain ⟨f0, g0, g1, g2, -⟩ := id p1
              obtain ⟨f3, g3, g4, g5, -⟩ := id p2
              obtain ⟨j, rfl⟩ : ∃ j, u = j + 1 := ⟨u - 1, by omega⟩
              refine n_lv (lv2 := [(0, .ref (ad 16)), (1, .ref (ad qa)), (2, .ref (ad qb)), (3, .int (iI (i : Int))), (4, .int (iI (j : Int)))]) (by simp) ?_
              refine n_aload_n C dX0_compare_36 0 rfl rfl ?_
              refine n_get (k9 := 0) C dX0_compare_37 (by omega) k0 hX0_compare_X0 rfl (by decide) kX0_compare_11 rfl ?_
              refine n_iload_n C dX0_compare_40 3 rfl rfl ?_
              refine n_aaldI (j := i) (q := ad (18 + i)) C dX0_compare_41 (by omega) k1 (by omega) (by omega) (by omega) (if_pos (by omega)) ?_
              refine n_iload C dX0_compare_42 4 rfl ?_
              refine n_aload_n C dX0_compare_44 0 rfl rfl ?_
              refine n_iload_n C dX0_compare_45 3 rfl rfl ?_
              refine n_iload C dX0_compare_46 4 rfl ?_
              refine n_callV (rest := [.int (iI (j : Int)), .ref (ad (18 + i))]) C dX0_compare_48 (TX0_restAt l hN hc p1 p2 ha hb (by omega) (by omega) (fun h1 h2 => ⟨hok _ _ (by omega) (by omega) (by omega), hok _ _ (by omega) (by omega) (by omega), hok2 _ (by omega) (by omega)⟩)) (cwV 2 C.2.2.2.2.1 gX0_compare_X0_restAt rfl rfl rfl cdX0_restAt ⟨Nat.le_of_ble_eq_true rfl, Nat.le_of_ble_eq_true rfl⟩) (by omega) k0 rfl rfl rfl (Nat.le_of_ble_eq_true rfl) ⟨Nat.le_of_ble_eq_true rfl, Nat.le_of_ble_eq_true rfl⟩ ?_
              rintro _ _ ⟨rfl, rfl⟩
              refine n_pc (pc2 := 51) rfl (n_st (st2 := [.int (iI (rs xs ys i j : Int)), .int (iI (j : Int)), .ref (ad (18 + i))]) rfl ?_)
              refine n_iast (j := j) C dX0_compare_51 (by omega) (k2 i (by omega)) (by omega) (by omega) (by omega) (fun e11 hs12 ho13 => ?_)
              refine n_iinc (lv' := [(0, .ref (ad 16)), (1, .ref (ad qa)), (2, .ref (ad qb)), (3, .int (iI (i : Int))), (4, .int (iI ((j : Int) + (-1))))]) C dX0_compare_52 4 rfl (by decide) rfl ?_
              refine n_goto (tgt := 31) C dX0_compare_55 (by decide) ?_
              have hc2 := hc.set (by omega) hs12 ho13
              have hF2 : Fr e11 ev (fun j => 16 ≤ j ∧ j < 39) := fun k hk => (ho13 k (by omega)).trans (hF k hk)
              refine n_lv (lv2 := [(0, .ref (ad 16)), (1, .ref (ad qa)), (2, .ref (ad qb)), (3, .int (iI (i : Int))), (4, .int (iI ((j : Int) - 1)))]) rfl ?_
              exact ih2 j e11 _ (by omega) (by omega) hc2 (r1.fr hF2 (by omega) (by omega)) (r2.fr hF2 (by omega) (by omega)) hF2 (fun i9 j9 h1 h2 h3 => by rw [upM_ne (Or.inl (by omega))]; exact hok i9 j9 h1 h2 h3) (fun j9 h1 h2 => by
                rcases Nat.lt_or_ge j j9 with q | q
                · rw [upM_ne (Or.inr (by omega))]; exact hok2 j9 q h2
                · rw [show j9 = j by omega, upM_self])
        refine n_lv (lv2 := [(0, .ref (ad 16)), (1, .ref (ad qa)), (2, .ref (ad qb)), (3, .int (iI (i : Int))), (4, .int (iI (((ys.length + 1 : Nat) : Int) - 1)))]) (by simp) ?_
        exact loop2 _ (ys.length + 1) ex M (Nat.lt_succ_self _) (Nat.le_refl _) hc p1 p2 hF hok (fun j h1 h2 => absurd h1 (by omega))
  refine n_lv (lv2 := [(0, .ref (ad 16)), (1, .ref (ad qa)), (2, .ref (ad qb)), (3, .int (iI (((xs.length + 1 : Nat) : Int) - 1)))]) (by simp) ?_
  exact loop _ (xs.length + 1) e6 M (Nat.lt_succ_self _) (Nat.le_refl _) hCa ra1 ra2 hFa (fun i j h1 h2 h3 => absurd h1 (by omega))

def pX0_operations (ev : Nat → va_E) (xs ys : List Int32) : Option Value → (Nat → va_E) → Prop := fun v e2 => v = some (.int (iI (rs xs ys 0 0 : Int))) ∧ ev = e2

set_option maxHeartbeats 4000000 in
set_option maxRecDepth 100000 in
theorem TX0_operations (l : Launch) {G : GG} {N : Nat} {ad : Nat → Nat} {ev : Nat → va_E} {qa qb : Nat} {M : Nat → Nat → Int32} {xs ys : List Int32} (hN : 53 ≤ N) (hC : CmpAt G ad ev qa qb M) (hok : okM M xs ys) : Ct l yX0_operations wsX0_operations rmX0_operations [.ref (ad 16)] G N ad ev 0 0 (pX0_operations ev xs ys) := by
  obtain ⟨k0, k1, k2⟩ := id hC
  refine Ct_of (cc := cX0_operations) (maxL := 1) (ret := some .int) (lv := [(0, .ref (ad 16))]) (by decide) rfl (Nat.le_of_ble_eq_true rfl) rfl ?_
  intro p E s m args below meth c A C hr hnm
  refine n_aload_n C dX0_operations_0 0 rfl rfl ?_
  refine n_get (k9 := 0) C dX0_operations_1 (by omega) k0 hX0_operations_X0 rfl (by decide) kX0_operations_11 rfl ?_
  refine n_iconst C dX0_operations_4 ?_
  refine n_aaldI (j := 0) (q := ad (18 + 0)) C dX0_operations_5 (by omega) k1 (by omega) (by omega) (by omega) (if_pos (by omega)) ?_
  refine n_iconst C dX0_operations_6 ?_
  refine n_iald (j := 0) C dX0_operations_7 (by omega) (k2 0 (by omega)) (by omega) (by omega) (by omega) ?_
  refine n_topI (y := (iI (rs xs ys 0 0 : Int))) (hok 0 0 (by omega) (by omega)) ?_
  exact n_iret C hr dX0_operations_8 (⟨rfl, rfl⟩)

def pX0_stepAt (ev : Nat → va_E) (xs ys : List Int32) (i j : Nat) : Option Value → (Nat → va_E) → Prop := fun v e2 => v = some (.int (iI (stp xs ys i j))) ∧ ev = e2

set_option maxHeartbeats 4000000 in
set_option maxRecDepth 100000 in
theorem TX0_stepAt (l : Launch) {G : GG} {N : Nat} {ad : Nat → Nat} {ev : Nat → va_E} {qa qb i j : Nat} {M : Nat → Nat → Int32} {xs ys : List Int32} (hN : 53 ≤ N) (hC : CmpAt G ad ev qa qb M) (r1 : RowAt G ad ev qa xs 20) (r2 : RowAt G ad ev qb ys 20) (ha : qa + 1 < 16) (hb : qb + 1 < 16) (hok : okM M xs ys) (hi : i ≤ xs.length) (hj : j ≤ ys.length) : Ct l yX0_stepAt wsX0_stepAt rmX0_stepAt [.ref (ad 16), .int (iI (i : Int)), .int (iI (j : Int))] G N ad ev 0 0 (pX0_stepAt ev xs ys i j) := by
  have hl1 := r1.le
  have hl2 := r2.le
  obtain ⟨k0, k1, k2⟩ := id hC
  obtain ⟨f0, g0, g1, g2, -⟩ := id r1
  obtain ⟨f3, g3, g4, g5, -⟩ := id r2
  have q2 := rs_le xs ys (i + 1) j
  have q3 := rs_le xs ys i j
  refine Ct_of (cc := cX0_stepAt) (maxL := 3) (ret := some .int) (lv := [(0, .ref (ad 16)), (1, .int (iI (i : Int))), (2, .int (iI (j : Int)))]) (by decide) rfl (Nat.le_of_ble_eq_true rfl) rfl ?_
  intro p E s m args below meth c A C hr hnm
  refine n_aload_n C dX0_stepAt_0 0 rfl rfl ?_
  refine n_iload_n C dX0_stepAt_1 1 rfl rfl ?_
  refine n_iload_n C dX0_stepAt_2 2 rfl rfl ?_
  refine n_callV (rest := []) C dX0_stepAt_3 (TX0_isSame l hN hC r1 r2 ha hb (by omega) (by omega)) (cwV 2 C.2.2.2.2.1 gX0_stepAt_X0_isSame rfl rfl rfl cdX0_isSame ⟨Nat.le_of_ble_eq_true rfl, Nat.le_of_ble_eq_true rfl⟩) (by omega) k0 rfl rfl rfl (Nat.le_of_ble_eq_true rfl) ⟨Nat.le_of_ble_eq_true rfl, Nat.le_of_ble_eq_true rfl⟩ ?_
  rintro _ _ ⟨rfl, rfl⟩
  refine n_pc (pc2 := 6) rfl (n_st (st2 := [.int (bI (sam xs ys i j))]) rfl ?_)
  refine n_if_eqB C dX0_stepAt_6 (by decide) (tgt := 11) (fun c1 => ?_) (fun c1 => ?_)
  · refine n_iload_n C dX0_stepAt_11 1 rfl rfl ?_
    refine n_aload_n C dX0_stepAt_12 0 rfl rfl ?_
    refine n_get (k9 := 1) C dX0_stepAt_13 (by omega) k0 hX0_stepAt_X0 rfl (by decide) kX0_stepAt_21 rfl ?_
    refine n_getN (k9 := 1) C dX0_stepAt_16 (by omega) g0 hX0_stepAt_X2 rfl (by decide) kn_X0_28 rfl ?_
    refine n_icmp_ge C dX0_stepAt_19 (by decide) (by omega) (by omega) (by omega) (by omega) (tgt := 47) (fun c2 => ?_) (fun c2 => ?_)
    · refine n_iconst C dX0_stepAt_47 ?_
      exact n_iret C hr dX0_stepAt_48 (⟨by unfold stp; rw [c1, if_neg (by decide), if_neg (by omega)], rfl⟩)
    · refine n_aload_n C dX0_stepAt_22 0 rfl rfl ?_
      refine n_get (k9 := 0) C dX0_stepAt_23 (by omega) k0 hX0_stepAt_X0 rfl (by decide) kX0_stepAt_11 rfl ?_
      refine n_iload_n C dX0_stepAt_26 1 rfl rfl ?_
      refine n_iconst C dX0_stepAt_27 ?_
      refine n_iadd C dX0_stepAt_28 ?_
      refine n_aaldI (j := i + 1) (q := ad (18 + (i + 1))) C dX0_stepAt_29 (by omega) k1 (by omega) (by omega) (by omega) (if_pos (by omega)) ?_
      refine n_iload_n C dX0_stepAt_30 2 rfl rfl ?_
      refine n_iald (j := j) C dX0_stepAt_31 (by omega) (k2 (i + 1) (by omega)) (by omega) (by omega) (by omega) ?_
      refine n_topI (y := (iI (rs xs ys (i + 1) j : Int))) (hok _ _ (by omega) (by omega)) ?_
      refine n_aload_n C dX0_stepAt_32 0 rfl rfl ?_
      refine n_get (k9 := 0) C dX0_stepAt_33 (by omega) k0 hX0_stepAt_X0 rfl (by decide) kX0_stepAt_11 rfl ?_
      refine n_iload_n C dX0_stepAt_36 1 rfl rfl ?_
      refine n_aaldI (j := i) (q := ad (18 + i)) C dX0_stepAt_37 (by omega) k1 (by omega) (by omega) (by omega) (if_pos (by omega)) ?_
      refine n_iload_n C dX0_stepAt_38 2 rfl rfl ?_
      refine n_iald (j := j) C dX0_stepAt_39 (by omega) (k2 i (by omega)) (by omega) (by omega) (by omega) ?_
      refine n_topI (y := (iI (rs xs ys i j : Int))) (hok _ _ (by omega) (by omega)) ?_
      refine n_icmp_ge C dX0_stepAt_40 (by decide) (by omega) (by omega) (by omega) (by omega) (tgt := 47) (fun c3 => ?_) (fun c3 => ?_)
      · refine n_iconst C dX0_stepAt_47 ?_
        exact n_iret C hr dX0_stepAt_48 (⟨by unfold stp; rw [c1, if_neg (by decide), if_neg (by omega)], rfl⟩)
      · refine n_iconst C dX0_stepAt_43 ?_
        refine n_goto (tgt := 48) C dX0_stepAt_44 (by decide) ?_
        exact n_iret C hr dX0_stepAt_48 (⟨by unfold stp; rw [c1, if_neg (by decide), if_pos ⟨by omega, by omega⟩], rfl⟩)
  · refine n_iconst C dX0_stepAt_9 ?_
    exact n_iret C hr dX0_stepAt_10 (⟨by unfold stp; rw [c1, if_pos rfl], rfl⟩)
