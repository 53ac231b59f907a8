def pX1_isStable (ev : Nat → va_E) (p q : Int) : Option Value → (Nat → va_E) → Prop := fun v e2 => v = some (.int (bI (decide (p ≠ -1 ∧ q ≠ -1)))) ∧ ev = e2

set_option maxHeartbeats 4000000 in
set_option maxRecDepth 100000 in
theorem TX1_isStable (l : Launch) {G : GG} {N : Nat} {ad : Nat → Nat} {ev : Nat → va_E} {k : Nat} {w1 w2 : List Int} {p9 q9 : Int} (hN : 53 ≤ N) (k41 : ev 41 = .inr (1, [.ref (ad 42), .ref (ad 44), .ref (ad 46), .ref (ad 47), .ref (ad 48)])) (r42 : RowAt G ad ev 42 (w1.map iI) 20) (r44 : RowAt G ad ev 44 (w2.map iI) 20) (h1 : w1[k]? = some p9) (h2 : w2[k]? = some q9) (hp1 : -1 ≤ p9) (hp2 : p9 ≤ 100) (hq1 : -1 ≤ q9) (hq2 : q9 ≤ 100) : Ct l yX1_isStable wsX1_isStable rmX1_isStable [.ref (ad 41), .int (iI (k : Int))] G N ad ev 0 0 (pX1_isStable ev p9 q9) := by
  have hl1 := r42.le
  have hl2 := r44.le
  rw [List.length_map] at hl1 hl2
  have hk1 : k < w1.length := (List.getElem?_eq_some_iff.mp h1).1
  have hk2 : k < w2.length := (List.getElem?_eq_some_iff.mp h2).1
  have m1 : (w1.map iI)[k]? = some (iI p9) := by rw [List.getElem?_map, h1]; rfl
  have m2 : (w2.map iI)[k]? = some (iI q9) := by rw [List.getElem?_map, h2]; rfl
  refine Ct_of (cc := cX1_isStable) (maxL := 2) (ret := some .boolean) (lv := [(0, .ref (ad 41)), (1, .int (iI (k : Int)))]) (by decide) rfl (Nat.le_of_ble_eq_true rfl) rfl ?_
  intro p E s m args below meth c A C hr hnm
  refine n_aload_n C dX1_isStable_0 0 rfl rfl ?_
  refine n_get (k9 := 0) C dX1_isStable_1 (by omega) k41 hX1_isStable_X1 rfl (by decide) kX1_isStable_14 rfl ?_
  refine n_iload_n C dX1_isStable_4 1 rfl rfl ?_
  refine n_iconst C dX1_isStable_5 ?_
  refine n_callV (rest := []) C dX1_isStable_6 (TX2_at l (i := 42) (by omega) r42 (by omega) (by omega)) (cwV 2 C.2.2.2.2.1 gX1_isStable_X2_at rfl rfl rfl cdX2_at ⟨Nat.le_of_ble_eq_true rfl, Nat.le_of_ble_eq_true rfl⟩) (by omega) r42.obj rfl rfl rfl (Nat.le_of_ble_eq_true rfl) ⟨Nat.le_of_ble_eq_true rfl, Nat.le_of_ble_eq_true rfl⟩ ?_
  rintro _ _ ⟨rfl, rfl⟩
  refine n_pc (pc2 := 9) rfl (n_st (st2 := [.int (atD (w1.map iI) (k : Int) (iI (-1)))]) rfl ?_)
  refine n_topI (y := (iI p9)) (atD_in rfl (by rw [List.length_map]; exact hk1) m1) ?_
  refine n_iconst C dX1_isStable_9 ?_
  refine n_icmp_eq C dX1_isStable_10 (by decide) (by omega) (by omega) (by omega) (by omega) (tgt := 30) (fun c1 => ?_) (fun c1 => ?_)
  · refine n_iconst C dX1_isStable_30 ?_
    exact n_zret C hr dX1_isStable_31 (by decide) (⟨by rw [decide_eq_false (by omega)]; rfl, rfl⟩)
  · refine n_aload_n C dX1_isStable_13 0 rfl rfl ?_
    refine n_get (k9 := 1) C dX1_isStable_14 (by omega) k41 hX1_isStable_X1 rfl (by decide) kX1_isStable_20 rfl ?_
    refine n_iload_n C dX1_isStable_17 1 rfl rfl ?_
    refine n_iconst C dX1_isStable_18 ?_
    refine n_callV (rest := []) C dX1_isStable_19 (TX2_at l (i := 44) (by omega) r44 (by omega) (by omega)) (cwV 2 C.2.2.2.2.1 gX1_isStable_X2_at rfl rfl rfl cdX2_at ⟨Nat.le_of_ble_eq_true rfl, Nat.le_of_ble_eq_true rfl⟩) (by omega) r44.obj rfl rfl rfl (Nat.le_of_ble_eq_true rfl) ⟨Nat.le_of_ble_eq_true rfl, Nat.le_of_ble_eq_true rfl⟩ ?_
    rintro _ _ ⟨rfl, rfl⟩
    refine n_pc (pc2 := 22) rfl (n_st (st2 := [.int (atD (w2.map iI) (k : Int) (iI (-1)))]) rfl ?_)
    refine n_topI (y := (iI q9)) (atD_in rfl (by rw [List.length_map]; exact hk2) m2) ?_
    refine n_iconst C dX1_isStable_22 ?_
    refine n_icmp_eq C dX1_isStable_23 (by decide) (by omega) (by omega) (by omega) (by omega) (tgt := 30) (fun c2 => ?_) (fun c2 => ?_)
    · refine n_iconst C dX1_isStable_30 ?_
      exact n_zret C hr dX1_isStable_31 (by decide) (⟨by rw [decide_eq_false (by omega)]; rfl, rfl⟩)
    · refine n_iconst C dX1_isStable_26 ?_
      refine n_goto (tgt := 31) C dX1_isStable_27 (by decide) ?_
      exact n_zret C hr dX1_isStable_31 (by decide) (⟨by rw [decide_eq_true ⟨c1, c2⟩]; rfl, rfl⟩)

def pX1_endStretches (ad : Nat → Nat) (ev : Nat → va_E) (a0 a1 a2 z0 z1 z2 : Int) : Option Value → (Nat → va_E) → Prop := fun v e2 => v = none ∧ StrAt ad e2 46 2 a0 z0 ∧ StrAt ad e2 47 4 a1 z1 ∧ StrAt ad e2 48 6 a2 z2 ∧ Fr e2 ev (fun j => j = 46 ∨ j = 47 ∨ j = 48)

set_option maxHeartbeats 4000000 in
set_option maxRecDepth 100000 in
theorem TX1_endStretches (l : Launch) {G : GG} {N : Nat} {ad : Nat → Nat} {ev : Nat → va_E} {a0 a1 a2 b0 b1 b2 z0 z1 z2 : Int} (hN : 53 ≤ N) (k41 : ev 41 = .inr (1, [.ref (ad 42), .ref (ad 44), .ref (ad 46), .ref (ad 47), .ref (ad 48)])) (s46 : StrAt ad ev 46 2 a0 b0) (s47 : StrAt ad ev 47 4 a1 b1) (s48 : StrAt ad ev 48 6 a2 b2) : Ct l yX1_endStretches wsX1_endStretches rmX1_endStretches [.ref (ad 41), .int (iI z0), .int (iI z1), .int (iI z2)] G N ad ev 0 0 (pX1_endStretches ad ev a0 a1 a2 z0 z1 z2) := by
  refine Ct_of (cc := cX1_endStretches) (maxL := 4) (ret := none) (lv := [(0, .ref (ad 41)), (1, .int (iI z0)), (2, .int (iI z1)), (3, .int (iI z2))]) (by decide) rfl (Nat.le_of_ble_eq_true rfl) rfl ?_
  intro p E s m args below meth c A C hr hnm
  refine n_aload_n C dX1_endStretches_0 0 rfl rfl ?_
  refine n_get (k9 := 2) C dX1_endStretches_1 (by omega) k41 hX1_endStretches_X1 rfl (by decide) kX1_endStretches_26 rfl ?_
  refine n_iload_n C dX1_endStretches_4 1 rfl rfl ?_
  refine n_callV (rest := []) C dX1_endStretches_5 (TX4_endBefore l (by omega) s46) (cwV 1 C.2.2.2.2.1 gX1_endStretches_X4_endBefore rfl rfl rfl cdX4_endBefore ⟨Nat.le_of_ble_eq_true rfl, Nat.le_of_ble_eq_true rfl⟩) (by omega) s46 rfl rfl rfl (Nat.le_of_ble_eq_true rfl) ⟨Nat.le_of_ble_eq_true rfl, Nat.le_of_ble_eq_true rfl⟩ ?_
  rintro _ x0 ⟨rfl, s46, hF0⟩
  refine n_pc (pc2 := 8) rfl (n_st (st2 := []) rfl ?_)
  have k41 := (hF0 _ (by omega)).trans k41
  have s47 := s47.fr hF0 (by omega)
  have s48 := s48.fr hF0 (by omega)
  refine n_aload_n C dX1_endStretches_8 0 rfl rfl ?_
  refine n_get (k9 := 3) C dX1_endStretches_9 (by omega) k41 hX1_endStretches_X1 rfl (by decide) kX1_endStretches_30 rfl ?_
  refine n_iload_n C dX1_endStretches_12 2 rfl rfl ?_
  refine n_callV (rest := []) C dX1_endStretches_13 (TX4_endBefore l (by omega) s47) (cwV 1 C.2.2.2.2.1 gX1_endStretches_X4_endBefore rfl rfl rfl cdX4_endBefore ⟨Nat.le_of_ble_eq_true rfl, Nat.le_of_ble_eq_true rfl⟩) (by omega) s47 rfl rfl rfl (Nat.le_of_ble_eq_true rfl) ⟨Nat.le_of_ble_eq_true rfl, Nat.le_of_ble_eq_true rfl⟩ ?_
  rintro _ x1 ⟨rfl, s47, hF1⟩
  refine n_pc (pc2 := 16) rfl (n_st (st2 := []) rfl ?_)
  have k41 := (hF1 _ (by omega)).trans k41
  have s46 := s46.fr hF1 (by omega)
  have s48 := s48.fr hF1 (by omega)
  refine n_aload_n C dX1_endStretches_16 0 rfl rfl ?_
  refine n_get (k9 := 4) C dX1_endStretches_17 (by omega) k41 hX1_endStretches_X1 rfl (by decide) kX1_endStretches_33 rfl ?_
  refine n_iload_n C dX1_endStretches_20 3 rfl rfl ?_
  refine n_callV (rest := []) C dX1_endStretches_21 (TX4_endBefore l (by omega) s48) (cwV 1 C.2.2.2.2.1 gX1_endStretches_X4_endBefore rfl rfl rfl cdX4_endBefore ⟨Nat.le_of_ble_eq_true rfl, Nat.le_of_ble_eq_true rfl⟩) (by omega) s48 rfl rfl rfl (Nat.le_of_ble_eq_true rfl) ⟨Nat.le_of_ble_eq_true rfl, Nat.le_of_ble_eq_true rfl⟩ ?_
  rintro _ x2 ⟨rfl, s48, hF2⟩
  refine n_pc (pc2 := 24) rfl (n_st (st2 := []) rfl ?_)
  have k41 := (hF2 _ (by omega)).trans k41
  have s46 := s46.fr hF2 (by omega)
  have s47 := s47.fr hF2 (by omega)
  exact n_vret C hr dX1_endStretches_24 (⟨rfl, s46, s47, s48, fun j hj => (hF2 j (by omega)).trans ((hF1 j (by omega)).trans (hF0 j (by omega)))⟩)

def pX1_goOnBehindStable (ad : Nat → Nat) (ev : Nat → va_E) (z0 z1 z2 : Int) : Option Value → (Nat → va_E) → Prop := fun v e2 => v = none ∧ StrAt ad e2 46 2 (z0 + 1) z0 ∧ StrAt ad e2 47 4 (z1 + 1) z1 ∧ StrAt ad e2 48 6 (z2 + 1) z2 ∧ Fr e2 ev (fun j => j = 46 ∨ j = 47 ∨ j = 48)

set_option maxHeartbeats 4000000 in
set_option maxRecDepth 100000 in
theorem TX1_goOnBehindStable (l : Launch) {G : GG} {N : Nat} {ad : Nat → Nat} {ev : Nat → va_E} {a0 a1 a2 b0 b1 b2 : Int} (hN : 53 ≤ N) (k41 : ev 41 = .inr (1, [.ref (ad 42), .ref (ad 44), .ref (ad 46), .ref (ad 47), .ref (ad 48)])) (s46 : StrAt ad ev 46 2 a0 b0) (s47 : StrAt ad ev 47 4 a1 b1) (s48 : StrAt ad ev 48 6 a2 b2) : Ct l yX1_goOnBehindStable wsX1_goOnBehindStable rmX1_goOnBehindStable [.ref (ad 41)] G N ad ev 0 0 (pX1_goOnBehindStable ad ev b0 b1 b2) := by
  refine Ct_of (cc := cX1_goOnBehindStable) (maxL := 1) (ret := none) (lv := [(0, .ref (ad 41))]) (by decide) rfl (Nat.le_of_ble_eq_true rfl) rfl ?_
  intro p E s m args below meth c A C hr hnm
  refine n_aload_n C dX1_goOnBehindStable_0 0 rfl rfl ?_
  refine n_get (k9 := 2) C dX1_goOnBehindStable_1 (by omega) k41 hX1_goOnBehindStable_X1 rfl (by decide) kX1_goOnBehindStable_26 rfl ?_
  refine n_callV (rest := []) C dX1_goOnBehindStable_4 (TX4_goOnBehindStable l (by omega) s46) (cwV 0 C.2.2.2.2.1 gX1_goOnBehindStable_X4_goOnBehindStable rfl rfl rfl cdX4_goOnBehindStable ⟨Nat.le_of_ble_eq_true rfl, Nat.le_of_ble_eq_true rfl⟩) (by omega) s46 rfl rfl rfl (Nat.le_of_ble_eq_true rfl) ⟨Nat.le_of_ble_eq_true rfl, Nat.le_of_ble_eq_true rfl⟩ ?_
  rintro _ x0 ⟨rfl, s46, hF0⟩
  refine n_pc (pc2 := 7) rfl (n_st (st2 := []) rfl ?_)
  have k41 := (hF0 _ (by omega)).trans k41
  have s47 := s47.fr hF0 (by omega)
  have s48 := s48.fr hF0 (by omega)
  refine n_aload_n C dX1_goOnBehindStable_7 0 rfl rfl ?_
  refine n_get (k9 := 3) C dX1_goOnBehindStable_8 (by omega) k41 hX1_goOnBehindStable_X1 rfl (by decide) kX1_goOnBehindStable_30 rfl ?_
  refine n_callV (rest := []) C dX1_goOnBehindStable_11 (TX4_goOnBehindStable l (by omega) s47) (cwV 0 C.2.2.2.2.1 gX1_goOnBehindStable_X4_goOnBehindStable rfl rfl rfl cdX4_goOnBehindStable ⟨Nat.le_of_ble_eq_true rfl, Nat.le_of_ble_eq_true rfl⟩) (by omega) s47 rfl rfl rfl (Nat.le_of_ble_eq_true rfl) ⟨Nat.le_of_ble_eq_true rfl, Nat.le_of_ble_eq_true rfl⟩ ?_
  rintro _ x1 ⟨rfl, s47, hF1⟩
  refine n_pc (pc2 := 14) rfl (n_st (st2 := []) rfl ?_)
  have k41 := (hF1 _ (by omega)).trans k41
  have s46 := s46.fr hF1 (by omega)
  have s48 := s48.fr hF1 (by omega)
  refine n_aload_n C dX1_goOnBehindStable_14 0 rfl rfl ?_
  refine n_get (k9 := 4) C dX1_goOnBehindStable_15 (by omega) k41 hX1_goOnBehindStable_X1 rfl (by decide) kX1_goOnBehindStable_33 rfl ?_
  refine n_callV (rest := []) C dX1_goOnBehindStable_18 (TX4_goOnBehindStable l (by omega) s48) (cwV 0 C.2.2.2.2.1 gX1_goOnBehindStable_X4_goOnBehindStable rfl rfl rfl cdX4_goOnBehindStable ⟨Nat.le_of_ble_eq_true rfl, Nat.le_of_ble_eq_true rfl⟩) (by omega) s48 rfl rfl rfl (Nat.le_of_ble_eq_true rfl) ⟨Nat.le_of_ble_eq_true rfl, Nat.le_of_ble_eq_true rfl⟩ ?_
  rintro _ x2 ⟨rfl, s48, hF2⟩
  refine n_pc (pc2 := 21) rfl (n_st (st2 := []) rfl ?_)
  have k41 := (hF2 _ (by omega)).trans k41
  have s46 := s46.fr hF2 (by omega)
  have s47 := s47.fr hF2 (by omega)
  exact n_vret C hr dX1_goOnBehindStable_21 (⟨rfl, s46, s47, s48, fun j hj => (hF2 j (by omega)).trans ((hF1 j (by omega)).trans (hF0 j (by omega)))⟩)

def pX1_mergeStretch (G : GG) (ad : Nat → Nat) (ev : Nat → va_E) (r : Nat) (zs b x y : List Int32) : Option Value → (Nat → va_E) → Prop := fun v e2 => v = some (.int (iI ((mst b x y).2 : Int))) ∧ RowAt G ad e2 r (zs ++ (mst b x y).1) 123 ∧ Fr e2 ev (fun j => j = r ∨ j = r + 1)

set_option maxHeartbeats 4000000 in
set_option maxRecDepth 100000 in
theorem TX1_mergeStretch (l : Launch) {G : GG} {N : Nat} {ad : Nat → Nat} {ev : Nat → va_E} {r b0 b1 x0 x1 y0 y1 : Nat} {xs0 xs1 xs2 zs : List Int32} (hN : 53 ≤ N) (k41 : ev 41 = .inr (1, [.ref (ad 42), .ref (ad 44), .ref (ad 46), .ref (ad 47), .ref (ad 48)])) (r2 : RowAt G ad ev 2 xs0 20) (r4 : RowAt G ad ev 4 xs1 20) (r6 : RowAt G ad ev 6 xs2 20) (hr49 : 49 ≤ r) (hrN : r + 1 < N) (rr : RowAt G ad ev r zs 123) (s46 : StrAt ad ev 46 2 (b0 : Nat) (b1 : Nat)) (s47 : StrAt ad ev 47 4 (x0 : Nat) (x1 : Nat)) (s48 : StrAt ad ev 48 6 (y0 : Nat) (y1 : Nat)) (hb01 : b0 ≤ b1) (hb1 : b1 ≤ xs0.length) (hx01 : x0 ≤ x1) (hx1 : x1 ≤ xs1.length) (hy01 : y0 ≤ y1) (hy1 : y1 ≤ xs2.length) (hcap : zs.length + (x1 - x0) + (y1 - y0) + 3 ≤ 123) : Ct l yX1_mergeStretch wsX1_mergeStretch rmX1_mergeStretch [.ref (ad 41), .ref (ad r)] G N ad ev 0 0 (pX1_mergeStretch G ad ev r zs (sl xs0 b0 b1) (sl xs1 x0 x1) (sl xs2 y0 y1)) := by
  have hl0 := r2.le
  have hl1 := r4.le
  have hl2 := r6.le
  refine Ct_of (cc := cX1_mergeStretch) (maxL := 2) (ret := some .int) (lv := [(0, .ref (ad 41)), (1, .ref (ad r))]) (by decide) rfl (Nat.le_of_ble_eq_true rfl) rfl ?_
  intro p E s m args below meth c A C hr hnm
  refine n_aload_n C dX1_mergeStretch_0 0 rfl rfl ?_
  refine n_get (k9 := 3) C dX1_mergeStretch_1 (by omega) k41 hX1_mergeStretch_X1 rfl (by decide) kX1_mergeStretch_30 rfl ?_
  refine n_aload_n C dX1_mergeStretch_4 0 rfl rfl ?_
  refine n_get (k9 := 4) C dX1_mergeStretch_5 (by omega) k41 hX1_mergeStretch_X1 rfl (by decide) kX1_mergeStretch_33 rfl ?_
  refine n_callV (rest := []) C dX1_mergeStretch_8 (TX4_isSameAs l (i := 47) (k := 48) (by omega) (by omega) s47 s48 (by omega) (by omega) r4 r6 hx01 hx1 hy01 hy1) (cwV 1 C.2.2.2.2.1 gX1_mergeStretch_X4_isSameAs rfl rfl rfl cdX4_isSameAs ⟨Nat.le_of_ble_eq_true rfl, Nat.le_of_ble_eq_true rfl⟩) (by omega) s47 rfl rfl rfl (Nat.le_of_ble_eq_true rfl) ⟨Nat.le_of_ble_eq_true rfl, Nat.le_of_ble_eq_true rfl⟩ ?_
  rintro _ _ ⟨rfl, rfl⟩
  refine n_pc (pc2 := 11) rfl (n_st (st2 := [.int (bI (decide (sl xs1 x0 x1 = sl xs2 y0 y1)))]) rfl ?_)
  refine n_if_neB C dX1_mergeStretch_11 (by decide) (tgt := 28) (fun c1 => ?_) (fun c1 => ?_)
  · refine n_aload_n C dX1_mergeStretch_28 0 rfl rfl ?_
    refine n_get (k9 := 3) C dX1_mergeStretch_29 (by omega) k41 hX1_mergeStretch_X1 rfl (by decide) kX1_mergeStretch_30 rfl ?_
    refine n_aload_n C dX1_mergeStretch_32 1 rfl rfl ?_
    refine n_callV (rest := []) C dX1_mergeStretch_33 (TX4_addTo l (by omega) s47 (by omega) hrN r4 rr (by omega) (by omega) (by omega) hx1 (by omega) (by omega)) (cwV 1 C.2.2.2.2.1 gX1_mergeStretch_X4_addTo rfl rfl rfl cdX4_addTo ⟨Nat.le_of_ble_eq_true rfl, Nat.le_of_ble_eq_true rfl⟩) (by omega) s47 rfl rfl rfl (Nat.le_of_ble_eq_true rfl) ⟨Nat.le_of_ble_eq_true rfl, Nat.le_of_ble_eq_true rfl⟩ ?_
    rintro _ e2 ⟨rfl, rr, hF⟩
    refine n_pc (pc2 := 36) rfl (n_st (st2 := []) rfl ?_)
    refine n_iconst C dX1_mergeStretch_36 ?_
    have hm : mst (sl xs0 b0 b1) (sl xs1 x0 x1) (sl xs2 y0 y1) = (sl xs1 x0 x1, 0) := by unfold mst; rw [if_pos (Or.inl (of_decide_eq_true c1))]
    exact n_iret C hr dX1_mergeStretch_37 (by unfold pX1_mergeStretch; rw [hm]; exact ⟨rfl, rr, hF⟩)
  · refine n_aload_n C dX1_mergeStretch_14 0 rfl rfl ?_
    refine n_get (k9 := 4) C dX1_mergeStretch_15 (by omega) k41 hX1_mergeStretch_X1 rfl (by decide) kX1_mergeStretch_33 rfl ?_
    refine n_aload_n C dX1_mergeStretch_18 0 rfl rfl ?_
    refine n_get (k9 := 2) C dX1_mergeStretch_19 (by omega) k41 hX1_mergeStretch_X1 rfl (by decide) kX1_mergeStretch_26 rfl ?_
    refine n_callV (rest := []) C dX1_mergeStretch_22 (TX4_isSameAs l (i := 48) (k := 46) (by omega) (by omega) s48 s46 (by omega) (by omega) r6 r2 hy01 hy1 hb01 hb1) (cwV 1 C.2.2.2.2.1 gX1_mergeStretch_X4_isSameAs rfl rfl rfl cdX4_isSameAs ⟨Nat.le_of_ble_eq_true rfl, Nat.le_of_ble_eq_true rfl⟩) (by omega) s48 rfl rfl rfl (Nat.le_of_ble_eq_true rfl) ⟨Nat.le_of_ble_eq_true rfl, Nat.le_of_ble_eq_true rfl⟩ ?_
    rintro _ _ ⟨rfl, rfl⟩
    refine n_pc (pc2 := 25) rfl (n_st (st2 := [.int (bI (decide (sl xs2 y0 y1 = sl xs0 b0 b1)))]) rfl ?_)
    refine n_if_eqB C dX1_mergeStretch_25 (by decide) (tgt := 38) (fun c2 => ?_) (fun c2 => ?_)
    · have hn : ¬ (sl xs1 x0 x1 = sl xs2 y0 y1 ∨ sl xs2 y0 y1 = sl xs0 b0 b1) := fun h => h.elim (of_decide_eq_false c1) (of_decide_eq_false c2)
      refine n_aload_n C dX1_mergeStretch_38 0 rfl rfl ?_
      refine n_get (k9 := 3) C dX1_mergeStretch_39 (by omega) k41 hX1_mergeStretch_X1 rfl (by decide) kX1_mergeStretch_30 rfl ?_
      refine n_aload_n C dX1_mergeStretch_42 0 rfl rfl ?_
      refine n_get (k9 := 2) C dX1_mergeStretch_43 (by omega) k41 hX1_mergeStretch_X1 rfl (by decide) kX1_mergeStretch_26 rfl ?_
      refine n_callV (rest := []) C dX1_mergeStretch_46 (TX4_isSameAs l (i := 47) (k := 46) (by omega) (by omega) s47 s46 (by omega) (by omega) r4 r2 hx01 hx1 hb01 hb1) (cwV 1 C.2.2.2.2.1 gX1_mergeStretch_X4_isSameAs rfl rfl rfl cdX4_isSameAs ⟨Nat.le_of_ble_eq_true rfl, Nat.le_of_ble_eq_true rfl⟩) (by omega) s47 rfl rfl rfl (Nat.le_of_ble_eq_true rfl) ⟨Nat.le_of_ble_eq_true rfl, Nat.le_of_ble_eq_true rfl⟩ ?_
      rintro _ _ ⟨rfl, rfl⟩
      refine n_pc (pc2 := 49) rfl (n_st (st2 := [.int (bI (decide (sl xs1 x0 x1 = sl xs0 b0 b1)))]) rfl ?_)
      refine n_if_eqB C dX1_mergeStretch_49 (by decide) (tgt := 62) (fun c3 => ?_) (fun c3 => ?_)
      · have hm : mst (sl xs0 b0 b1) (sl xs1 x0 x1) (sl xs2 y0 y1) = ([iI (-1)] ++ sl xs1 x0 x1 ++ [iI (-2)] ++ sl xs2 y0 y1 ++ [iI (-3)], 1) := by unfold mst; rw [if_neg hn, if_neg (of_decide_eq_false c3)]
        have hlx := sl_len (a := x0) hx1
        have hly := sl_len (a := y0) hy1
        refine n_aload_n C dX1_mergeStretch_62 1 rfl rfl ?_
        refine n_iconst C dX1_mergeStretch_63 ?_
        refine n_callV (rest := []) C dX1_mergeStretch_64 (TX2_add l (i := r) hrN rr (x := iI (-1))) (cwV 1 C.2.2.2.2.1 gX1_mergeStretch_X2_add rfl rfl rfl cdX2_add ⟨Nat.le_of_ble_eq_true rfl, Nat.le_of_ble_eq_true rfl⟩) (by omega) rr.obj rfl rfl rfl (Nat.le_of_ble_eq_true rfl) ⟨Nat.le_of_ble_eq_true rfl, Nat.le_of_ble_eq_true rfl⟩ ?_
        rintro _ ez1 ⟨rfl, rr, hF1⟩
        refine n_pc (pc2 := 67) rfl (n_st (st2 := [.int (bI (decide ((zs).length < 123)))]) rfl ?_)
        rw [if_pos (by first | omega | (simp only [List.length_append, List.length_cons, List.length_nil]; omega))] at rr
        have r2 := r2.fr hF1 (by omega) (by omega)
        have r4 := r4.fr hF1 (by omega) (by omega)
        have r6 := r6.fr hF1 (by omega) (by omega)
        have k41 := (hF1 _ (by omega)).trans k41
        have s46 := s46.fr hF1 (by omega)
        have s47 := s47.fr hF1 (by omega)
        have s48 := s48.fr hF1 (by omega)
        refine n_pop C dX1_mergeStretch_67 rfl ?_
        refine n_aload_n C dX1_mergeStretch_68 0 rfl rfl ?_
        refine n_get (k9 := 3) C dX1_mergeStretch_69 (by omega) k41 hX1_mergeStretch_X1 rfl (by decide) kX1_mergeStretch_30 rfl ?_
        refine n_aload_n C dX1_mergeStretch_72 1 rfl rfl ?_
        refine n_callV (rest := []) C dX1_mergeStretch_73 (TX4_addTo l (by omega) s47 (by omega) hrN r4 rr (by omega) (by omega) (by omega) hx1 (by omega) (by simp only [List.length_append, List.length_cons, List.length_nil]; omega)) (cwV 1 C.2.2.2.2.1 gX1_mergeStretch_X4_addTo rfl rfl rfl cdX4_addTo ⟨Nat.le_of_ble_eq_true rfl, Nat.le_of_ble_eq_true rfl⟩) (by omega) s47 rfl rfl rfl (Nat.le_of_ble_eq_true rfl) ⟨Nat.le_of_ble_eq_true rfl, Nat.le_of_ble_eq_true rfl⟩ ?_
        rintro _ ez2 ⟨rfl, rr, hF2⟩
        refine n_pc (pc2 := 76) rfl (n_st (st2 := []) rfl ?_)
        have r2 := r2.fr hF2 (by omega) (by omega)
        have r4 := r4.fr hF2 (by omega) (by omega)
        have r6 := r6.fr hF2 (by omega) (by omega)
        have k41 := (hF2 _ (by omega)).trans k41
        have s46 := s46.fr hF2 (by omega)
        have s47 := s47.fr hF2 (by omega)
        have s48 := s48.fr hF2 (by omega)
        refine n_aload_n C dX1_mergeStretch_76 1 rfl rfl ?_
        refine n_bipush C dX1_mergeStretch_77 (by decide) ?_
        refine n_callV (rest := []) C dX1_mergeStretch_79 (TX2_add l (i := r) hrN rr (x := iI (-2))) (cwV 1 C.2.2.2.2.1 gX1_mergeStretch_X2_add rfl rfl rfl cdX2_add ⟨Nat.le_of_ble_eq_true rfl, Nat.le_of_ble_eq_true rfl⟩) (by omega) rr.obj rfl rfl rfl (Nat.le_of_ble_eq_true rfl) ⟨Nat.le_of_ble_eq_true rfl, Nat.le_of_ble_eq_true rfl⟩ ?_
        rintro _ ez3 ⟨rfl, rr, hF3⟩
        refine n_pc (pc2 := 82) rfl (n_st (st2 := [.int (bI (decide ((zs ++ [iI (-1)] ++ sl xs1 x0 x1).length < 123)))]) rfl ?_)
        rw [if_pos (by first | omega | (simp only [List.length_append, List.length_cons, List.length_nil]; omega))] at rr
        have r2 := r2.fr hF3 (by omega) (by omega)
        have r4 := r4.fr hF3 (by omega) (by omega)
        have r6 := r6.fr hF3 (by omega) (by omega)
        have k41 := (hF3 _ (by omega)).trans k41
        have s46 := s46.fr hF3 (by omega)
        have s47 := s47.fr hF3 (by omega)
        have s48 := s48.fr hF3 (by omega)
        refine n_pop C dX1_mergeStretch_82 rfl ?_
        refine n_aload_n C dX1_mergeStretch_83 0 rfl rfl ?_
        refine n_get (k9 := 4) C dX1_mergeStretch_84 (by omega) k41 hX1_mergeStretch_X1 rfl (by decide) kX1_mergeStretch_33 rfl ?_
        refine n_aload_n C dX1_mergeStretch_87 1 rfl rfl ?_
        refine n_callV (rest := []) C dX1_mergeStretch_88 (TX4_addTo l (by omega) s48 (by omega) hrN r6 rr (by omega) (by omega) (by omega) hy1 (by omega) (by simp only [List.length_append, List.length_cons, List.length_nil]; omega)) (cwV 1 C.2.2.2.2.1 gX1_mergeStretch_X4_addTo rfl rfl rfl cdX4_addTo ⟨Nat.le_of_ble_eq_true rfl, Nat.le_of_ble_eq_true rfl⟩) (by omega) s48 rfl rfl rfl (Nat.le_of_ble_eq_true rfl) ⟨Nat.le_of_ble_eq_true rfl, Nat.le_of_ble_eq_true rfl⟩ ?_
        rintro _ ez4 ⟨rfl, rr, hF4⟩
        refine n_pc (pc2 := 91) rfl (n_st (st2 := []) rfl ?_)
        have r2 := r2.fr hF4 (by omega) (by omega)
        have r4 := r4.fr hF4 (by omega) (by omega)
        have r6 := r6.fr hF4 (by omega) (by omega)
        have k41 := (hF4 _ (by omega)).trans k41
        have s46 := s46.fr hF4 (by omega)
        have s47 := s47.fr hF4 (by omega)
        have s48 := s48.fr hF4 (by omega)
        refine n_aload_n C dX1_mergeStretch_91 1 rfl rfl ?_
        refine n_bipush C dX1_mergeStretch_92 (by decide) ?_
        refine n_callV (rest := []) C dX1_mergeStretch_94 (TX2_add l (i := r) hrN rr (x := iI (-3))) (cwV 1 C.2.2.2.2.1 gX1_mergeStretch_X2_add rfl rfl rfl cdX2_add ⟨Nat.le_of_ble_eq_true rfl, Nat.le_of_ble_eq_true rfl⟩) (by omega) rr.obj rfl rfl rfl (Nat.le_of_ble_eq_true rfl) ⟨Nat.le_of_ble_eq_true rfl, Nat.le_of_ble_eq_true rfl⟩ ?_
        rintro _ ez5 ⟨rfl, rr, hF5⟩
        refine n_pc (pc2 := 97) rfl (n_st (st2 := [.int (bI (decide ((zs ++ [iI (-1)] ++ sl xs1 x0 x1 ++ [iI (-2)] ++ sl xs2 y0 y1).length < 123)))]) rfl ?_)
        rw [if_pos (by first | omega | (simp only [List.length_append, List.length_cons, List.length_nil]; omega))] at rr
        have r2 := r2.fr hF5 (by omega) (by omega)
        have r4 := r4.fr hF5 (by omega) (by omega)
        have r6 := r6.fr hF5 (by omega) (by omega)
        have k41 := (hF5 _ (by omega)).trans k41
        have s46 := s46.fr hF5 (by omega)
        have s47 := s47.fr hF5 (by omega)
        have s48 := s48.fr hF5 (by omega)
        refine n_pop C dX1_mergeStretch_97 rfl ?_
        refine n_iconst C dX1_mergeStretch_98 ?_
        exact n_iret C hr dX1_mergeStretch_99 (by
          unfold pX1_mergeStretch
          rw [hm]
          refine ⟨rfl, ?_, fun j hj => (hF5 j hj).trans ((hF4 j hj).trans ((hF3 j hj).trans ((hF2 j hj).trans (hF1 j hj))))⟩
          simpa only [List.append_assoc] using rr)
      · refine n_aload_n C dX1_mergeStretch_52 0 rfl rfl ?_
        refine n_get (k9 := 4) C dX1_mergeStretch_53 (by omega) k41 hX1_mergeStretch_X1 rfl (by decide) kX1_mergeStretch_33 rfl ?_
        refine n_aload_n C dX1_mergeStretch_56 1 rfl rfl ?_
        refine n_callV (rest := []) C dX1_mergeStretch_57 (TX4_addTo l (by omega) s48 (by omega) hrN r6 rr (by omega) (by omega) (by omega) hy1 (by omega) (by omega)) (cwV 1 C.2.2.2.2.1 gX1_mergeStretch_X4_addTo rfl rfl rfl cdX4_addTo ⟨Nat.le_of_ble_eq_true rfl, Nat.le_of_ble_eq_true rfl⟩) (by omega) s48 rfl rfl rfl (Nat.le_of_ble_eq_true rfl) ⟨Nat.le_of_ble_eq_true rfl, Nat.le_of_ble_eq_true rfl⟩ ?_
        rintro _ e2 ⟨rfl, rr, hF⟩
        refine n_pc (pc2 := 60) rfl (n_st (st2 := []) rfl ?_)
        refine n_iconst C dX1_mergeStretch_60 ?_
        have hm : mst (sl xs0 b0 b1) (sl xs1 x0 x1) (sl xs2 y0 y1) = (sl xs2 y0 y1, 0) := by unfold mst; rw [if_neg hn, if_pos (of_decide_eq_true c3)]
        exact n_iret C hr dX1_mergeStretch_61 (by unfold pX1_mergeStretch; rw [hm]; exact ⟨rfl, rr, hF⟩)
    · refine n_aload_n C dX1_mergeStretch_28 0 rfl rfl ?_
      refine n_get (k9 := 3) C dX1_mergeStretch_29 (by omega) k41 hX1_mergeStretch_X1 rfl (by decide) kX1_mergeStretch_30 rfl ?_
      refine n_aload_n C dX1_mergeStretch_32 1 rfl rfl ?_
      refine n_callV (rest := []) C dX1_mergeStretch_33 (TX4_addTo l (by omega) s47 (by omega) hrN r4 rr (by omega) (by omega) (by omega) hx1 (by omega) (by omega)) (cwV 1 C.2.2.2.2.1 gX1_mergeStretch_X4_addTo rfl rfl rfl cdX4_addTo ⟨Nat.le_of_ble_eq_true rfl, Nat.le_of_ble_eq_true rfl⟩) (by omega) s47 rfl rfl rfl (Nat.le_of_ble_eq_true rfl) ⟨Nat.le_of_ble_eq_true rfl, Nat.le_of_ble_eq_true rfl⟩ ?_
      rintro _ e2 ⟨rfl, rr, hF⟩
      refine n_pc (pc2 := 36) rfl (n_st (st2 := []) rfl ?_)
      refine n_iconst C dX1_mergeStretch_36 ?_
      have hm : mst (sl xs0 b0 b1) (sl xs1 x0 x1) (sl xs2 y0 y1) = (sl xs1 x0 x1, 0) := by unfold mst; rw [if_pos (Or.inr (of_decide_eq_true c2))]
      exact n_iret C hr dX1_mergeStretch_37 (by unfold pX1_mergeStretch; rw [hm]; exact ⟨rfl, rr, hF⟩)
