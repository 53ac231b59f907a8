def hkN (ls : List Op) (n : Int) : Nat := if isA n then cB ls n ls.length else 0
def pX5_hunks (ev : Nat → va_E) (ls : List Op) (n : Int) : Option Value → (Nat → va_E) → Prop := fun v e2 => v = some (.int (iI (hkN ls n : Int))) ∧ ev = e2

set_option maxHeartbeats 4000000 in
set_option maxRecDepth 100000 in
theorem TX5_hunks (l : Launch) {G : GG} {N : Nat} {ad : Nat → Nat} {ev : Nat → va_E} {lim : Int} {R9 : Nat → List Int32} {ops : List Tr} {ls : List Op} {lsz : Nat} {rs9 : List Int32} {n : Int} (hN : 53 ≤ N) (hD : DeskAt G ad ev lim R9 ops ls lsz rs9) (hna : -2147483648 ≤ n) (hnb : n < 2147483648) : Ct l yX5_hunks wsX5_hunks rmX5_hunks [.ref (ad 0), .int (iI n)] G N ad ev 0 0 (pX5_hunks ev ls n) := by
  obtain ⟨rc, dc, ds, g, hB⟩ := hD
  obtain ⟨⟨hli1, hli2, hlsz, hsm, hrd⟩, k0, k1, hg, hr9, h8, h12, hwk, hrr, hdd⟩ := id hB
  have hl12 := h12.le
  rw [List.length_map] at hl12
  refine Ct_of (cc := cX5_hunks) (maxL := 4) (ret := some .int) (lv := [(0, .ref (ad 0)), (1, .int (iI n))]) (by decide) rfl (Nat.le_of_ble_eq_true rfl) rfl ?_
  intro p E s m args below meth c A C hr hnm
  refine n_iload_n C dX5_hunks_0 1 rfl rfl ?_
  refine n_callS (rest := []) C dX5_hunks_1 (TX5_isAround l hna hnb) (cwS 1 C.2.2.2.2.1 gX5_hunks_X5_isAround rfl rfl rfl cdX5_isAround ⟨Nat.le_of_ble_eq_true rfl, Nat.le_of_ble_eq_true rfl⟩) rfl rfl (Nat.le_of_ble_eq_true rfl) ⟨Nat.le_of_ble_eq_true rfl, Nat.le_of_ble_eq_true rfl⟩ ?_
  rintro _ _ ⟨rfl, rfl⟩
  refine n_pc (pc2 := 4) rfl (n_st (st2 := [.int (bI (isA n))]) rfl ?_)
  refine n_if_neB C dX5_hunks_4 (by decide) (tgt := 9) (fun c1 => ?_) (fun c1 => ?_)
  · have c2 := of_decide_eq_true c1
    refine n_iconst C dX5_hunks_9 ?_
    refine n_istore_n (lv' := [(0, .ref (ad 0)), (1, .int (iI n)), (2, .int (iI 0))]) C dX5_hunks_10 rfl (by decide) rfl ?_
    refine n_iconst C dX5_hunks_11 ?_
    refine n_istore_n (lv' := [(0, .ref (ad 0)), (1, .int (iI n)), (2, .int (iI 0)), (3, .int (iI 0))]) C dX5_hunks_12 rfl (by decide) rfl ?_
    have loop : ∀ (n9 : Nat) (k : Nat), ls.length + 1 - k < n9 → (k ≤ ls.length) → V p l E rmX5_hunks s m args below meth c G A 4 (MQ below (Qg G N ad A (pX5_hunks ev ls n)) args s 0 0 A) N ad ev 0 0 13 [(0, .ref (ad 0)), (1, .int (iI n)), (2, .int (iI (cB ls n k : Int))), (3, .int (iI (k : Int)))] [] := by
      intro n9
      induction n9 with
      | zero =>
        intro k hm9
        exact absurd hm9 (Nat.not_lt_zero _)
      | succ n9 ih =>
        intro k hm9 hk
        refine n_iload_n C dX5_hunks_13 3 rfl rfl ?_
        refine n_aload_n C dX5_hunks_14 0 rfl rfl ?_
        refine n_get (k9 := 3) C dX5_hunks_15 (by omega) k0 hX5_hunks_X5 rfl (by decide) kX5_hunks_38 rfl ?_
        refine n_getN (k9 := 3) C dX5_hunks_18 (by omega) h12.obj hX5_hunks_X3 rfl (by decide) kn_X5_108 rfl ?_
        refine n_st (st2 := [.int (iI (ls.length : Int)), .int (iI (k : Int))]) (by rw [List.length_map]) ?_
        refine n_icmp_ge C dX5_hunks_21 (by decide) (by omega) (by omega) (by omega) (by omega) (tgt := 45) (fun c3 => ?_) (fun c3 => ?_)
        · refine n_iload_n C dX5_hunks_45 2 rfl rfl ?_
          exact n_iret C hr dX5_hunks_46 (⟨by unfold hkN; rw [c1, if_pos rfl, show k = ls.length by omega], rfl⟩)
        · refine n_aload_n C dX5_hunks_24 0 rfl rfl ?_
          refine n_get (k9 := 3) C dX5_hunks_25 (by omega) k0 hX5_hunks_X5 rfl (by decide) kX5_hunks_38 rfl ?_
          refine n_iload_n C dX5_hunks_28 3 rfl rfl ?_
          refine n_iload_n C dX5_hunks_29 1 rfl rfl ?_
          refine n_callV (rest := []) C dX5_hunks_30 (TX3_beginsHunk l (i := 12) (by omega) h12 hsm (by omega) (by omega) (k := k) (by omega)) (cwV 2 C.2.2.2.2.1 gX5_hunks_X3_beginsHunk rfl rfl rfl cdX3_beginsHunk ⟨Nat.le_of_ble_eq_true rfl, Nat.le_of_ble_eq_true rfl⟩) (by omega) h12.obj rfl rfl rfl (Nat.le_of_ble_eq_true rfl) ⟨Nat.le_of_ble_eq_true rfl, Nat.le_of_ble_eq_true rfl⟩ ?_
          rintro _ _ ⟨rfl, rfl⟩
          refine n_pc (pc2 := 33) rfl (n_st (st2 := [.int (bI (beg ls n k))]) rfl ?_)
          refine n_if_eqB C dX5_hunks_33 (by decide) (tgt := 39) (fun c4 => ?_) (fun c4 => ?_)
          · have hst : cB ls n (k + 1) = cB ls n k := by show cB ls n k + (if beg ls n k then 1 else 0) = cB ls n k; rw [c4]; rfl
            refine n_iinc (lv' := [(0, .ref (ad 0)), (1, .int (iI n)), (2, .int (iI (cB ls n k : Int))), (3, .int (iI ((k : Int) + 1)))]) C dX5_hunks_39 3 rfl (by decide) rfl ?_
            refine n_goto (tgt := 13) C dX5_hunks_42 (by decide) ?_
            refine n_lv (lv2 := [(0, .ref (ad 0)), (1, .int (iI n)), (2, .int (iI (cB ls n (k + 1) : Int))), (3, .int (iI ((k + 1 : Nat) : Int)))]) (by rw [hst]; simp) ?_
            exact ih (k + 1) (by omega) (by omega)
          · have hst : cB ls n (k + 1) = cB ls n k + 1 := by show cB ls n k + (if beg ls n k then 1 else 0) = cB ls n k + 1; rw [c4]; rfl
            refine n_iinc (lv' := [(0, .ref (ad 0)), (1, .int (iI n)), (2, .int (iI ((cB ls n k : Int) + 1))), (3, .int (iI (k : Int)))]) C dX5_hunks_36 2 rfl (by decide) rfl ?_
            refine n_iinc (lv' := [(0, .ref (ad 0)), (1, .int (iI n)), (2, .int (iI ((cB ls n k : Int) + 1))), (3, .int (iI ((k : Int) + 1)))]) C dX5_hunks_39 3 rfl (by decide) rfl ?_
            refine n_goto (tgt := 13) C dX5_hunks_42 (by decide) ?_
            refine n_lv (lv2 := [(0, .ref (ad 0)), (1, .int (iI n)), (2, .int (iI (cB ls n (k + 1) : Int))), (3, .int (iI ((k + 1 : Nat) : Int)))]) (by rw [hst]; simp) ?_
            exact ih (k + 1) (by omega) (by omega)
    exact loop _ 0 (Nat.lt_succ_self _) (Nat.zero_le _)
  · refine n_iconst C dX5_hunks_7 ?_
    exact n_iret C hr dX5_hunks_8 (⟨by unfold hkN; rw [c1]; rfl, rfl⟩)

/-- hunk k goes from operation r to operation r2 -/
def HunkIs (ls : List Op) (n : Int) (k r r2 : Nat) : Prop := r ≤ r2 ∧ r2 < ls.length ∧ cB ls n (r + 1) = k + 1 ∧ (∀ j, j < r → cB ls n (j + 1) ≠ k + 1) ∧ (∀ j, r < j → j ≤ r2 → beg ls n j = false) ∧ (r2 + 1 = ls.length ∨ beg ls n (r2 + 1) = true)
def hkV (ls : List Op) (lsz : Nat) (n : Int) (r r2 : Nat) (w : Int) : Int := if w = 0 then max 0 (plI ls (r : Int) - n) else if w = 1 then min (lsz : Int) (bhI ls (r2 : Int) + n) - max 0 (plI ls (r : Int) - n) else if w = 2 then (cK ls false r (r2 + 1) : Int) else if w = 3 then (cK ls true r (r2 + 1) : Int) else -1
def pX5_hunk (ev : Nat → va_E) (ls : List Op) (lsz : Nat) (n k w : Int) : Option Value → (Nat → va_E) → Prop := fun v e2 => (∃ u : Int, v = some (.int (iI u)) ∧ ((k < 0 ∨ (hkN ls n : Int) ≤ k) → u = -1) ∧ ((0 ≤ k ∧ k < (hkN ls n : Int)) → ∃ r r2 : Nat, HunkIs ls n k.toNat r r2 ∧ u = hkV ls lsz n r r2 w)) ∧ ev = e2
theorem hkN_le (ls : List Op) (n : Int) : hkN ls n ≤ ls.length := by
  unfold hkN
  split
  · exact cB_le ls n _
  · exact Nat.zero_le _

set_option maxHeartbeats 4000000 in
set_option maxRecDepth 100000 in
theorem TX5_hunk (l : Launch) {G : GG} {N : Nat} {ad : Nat → Nat} {ev : Nat → va_E} {lim : Int} {R9 : Nat → List Int32} {ops : List Tr} {ls : List Op} {lsz : Nat} {rs9 : List Int32} {n k w9 : Int} (hN : 53 ≤ N) (hD : DeskAt G ad ev lim R9 ops ls lsz rs9) (hna : -2147483648 ≤ n) (hnb : n < 2147483648) (hka : -2147483648 ≤ k) (hkb : k < 2147483648) (hw9a : -2147483648 ≤ w9) (hw9b : w9 < 2147483648) : Ct l yX5_hunk wsX5_hunk rmX5_hunk [.ref (ad 0), .int (iI n), .int (iI k), .int (iI w9)] G N ad ev 0 0 (pX5_hunk ev ls lsz n k w9) := by
  have hDD := hD
  obtain ⟨rc, dc, ds, g, hB⟩ := hD
  obtain ⟨⟨hli1, hli2, hlsz, hsm, hrd⟩, k0, k1, hg, hr9, h8, h12, hwk, hrr, hdd⟩ := id hB
  have hl12 := h12.le
  rw [List.length_map] at hl12
  have hkl := hkN_le ls n
  refine Ct_of (cc := cX5_hunk) (maxL := 7) (ret := some .int) (lv := [(0, .ref (ad 0)), (1, .int (iI n)), (2, .int (iI k)), (3, .int (iI w9))]) (by decide) rfl (Nat.le_of_ble_eq_true rfl) rfl ?_
  intro p E s m args below meth c A C hr hnm
  refine n_iload_n C dX5_hunk_0 2 rfl rfl ?_
  refine n_if_lt C dX5_hunk_1 (by decide) (by omega) (by omega) (tgt := 13) (fun c1 => ?_) (fun c1 => ?_)
  · refine n_iconst C dX5_hunk_13 ?_
    exact n_iret C hr dX5_hunk_14 (⟨⟨-1, rfl, fun _ => rfl, fun h => absurd h (by omega)⟩, rfl⟩)
  · refine n_iload_n C dX5_hunk_4 2 rfl rfl ?_
    refine n_aload_n C dX5_hunk_5 0 rfl rfl ?_
    refine n_iload_n C dX5_hunk_6 1 rfl rfl ?_
    refine n_callV (rest := [.int (iI k)]) C dX5_hunk_7 (TX5_hunks l hN hDD hna hnb) (cwV 1 C.2.2.2.2.1 gX5_hunk_X5_hunks rfl rfl rfl cdX5_hunks ⟨Nat.le_of_ble_eq_true rfl, Nat.le_of_ble_eq_true rfl⟩) (by omega) k0 rfl rfl rfl (Nat.le_of_ble_eq_true rfl) ⟨Nat.le_of_ble_eq_true rfl, Nat.le_of_ble_eq_true rfl⟩ ?_
    rintro _ _ ⟨rfl, rfl⟩
    refine n_pc (pc2 := 10) rfl (n_st (st2 := [.int (iI (hkN ls n : Int)), .int (iI k)]) rfl ?_)
    refine n_icmp_lt C dX5_hunk_10 (by decide) (by omega) (by omega) (by omega) (by omega) (tgt := 15) (fun c2 => ?_) (fun c2 => ?_)
    · have hA : isA n = true := by
        cases h : isA n with
        | true => rfl
        | false => exact absurd c2 (by unfold hkN; rw [h]; simp; omega)
      have hA2 := of_decide_eq_true hA
      have hN9 : hkN ls n = cB ls n ls.length := by unfold hkN; rw [hA]; rfl
      obtain ⟨h, rfl⟩ : ∃ h : Nat, k = (h : Int) := ⟨k.toNat, by omega⟩
      refine n_aload_n C dX5_hunk_15 0 rfl rfl ?_
      refine n_get (k9 := 3) C dX5_hunk_16 (by omega) k0 hX5_hunk_X5 rfl (by decide) kX5_hunk_38 rfl ?_
      refine n_iload_n C dX5_hunk_19 2 rfl rfl ?_
      refine n_iload_n C dX5_hunk_20 1 rfl rfl ?_
      refine n_callV (rest := []) C dX5_hunk_21 (TX3_firstOfHunk l (i := 12) (by omega) h12 hsm (by omega) (by omega) (h := h) (by omega)) (cwV 2 C.2.2.2.2.1 gX5_hunk_X3_firstOfHunk rfl rfl rfl cdX3_firstOfHunk ⟨Nat.le_of_ble_eq_true rfl, Nat.le_of_ble_eq_true rfl⟩) (by omega) h12.obj rfl rfl rfl (Nat.le_of_ble_eq_true rfl) ⟨Nat.le_of_ble_eq_true rfl, Nat.le_of_ble_eq_true rfl⟩ ?_
      rintro _ _ ⟨⟨r, rfl, hr1, hr2, hr3⟩, rfl⟩
      refine n_pc (pc2 := 24) rfl (n_st (st2 := [.int (iI (r : Int))]) rfl ?_)
      refine n_istore (lv' := [(0, .ref (ad 0)), (1, .int (iI n)), (2, .int (iI (h : Int))), (3, .int (iI w9)), (4, .int (iI (r : Int)))]) C dX5_hunk_24 (by decide) rfl ?_
      refine n_aload_n C dX5_hunk_26 0 rfl rfl ?_
      refine n_get (k9 := 3) C dX5_hunk_27 (by omega) k0 hX5_hunk_X5 rfl (by decide) kX5_hunk_38 rfl ?_
      refine n_iload C dX5_hunk_30 4 rfl ?_
      refine n_iload_n C dX5_hunk_32 1 rfl rfl ?_
      refine n_callV (rest := []) C dX5_hunk_33 (TX3_lastOfHunk l (i := 12) (by omega) h12 hsm (by omega) (by omega) (a := r) hr1) (cwV 2 C.2.2.2.2.1 gX5_hunk_X3_lastOfHunk rfl rfl rfl cdX3_lastOfHunk ⟨Nat.le_of_ble_eq_true rfl, Nat.le_of_ble_eq_true rfl⟩) (by omega) h12.obj rfl rfl rfl (Nat.le_of_ble_eq_true rfl) ⟨Nat.le_of_ble_eq_true rfl, Nat.le_of_ble_eq_true rfl⟩ ?_
      rintro _ _ ⟨⟨r2, rfl, hq0, hq1, hq2, hq3⟩, rfl⟩
      refine n_pc (pc2 := 36) rfl (n_st (st2 := [.int (iI (r2 : Int))]) rfl ?_)
      have hH : HunkIs ls n h r r2 := ⟨hq0, hq1, hr2, hr3, hq2, hq3⟩
      have b1 := plI_b hsm (r : Int)
      have b2 := bhI_b hsm (r2 : Int)
      refine n_istore (lv' := [(0, .ref (ad 0)), (1, .int (iI n)), (2, .int (iI (h : Int))), (3, .int (iI w9)), (4, .int (iI (r : Int))), (5, .int (iI (r2 : Int)))]) C dX5_hunk_36 (by decide) rfl ?_
      refine n_iconst C dX5_hunk_38 ?_
      refine n_aload_n C dX5_hunk_39 0 rfl rfl ?_
      refine n_get (k9 := 3) C dX5_hunk_40 (by omega) k0 hX5_hunk_X5 rfl (by decide) kX5_hunk_38 rfl ?_
      refine n_iload C dX5_hunk_43 4 rfl ?_
      refine n_callV (rest := [.int (iI 0)]) C dX5_hunk_45 (TX3_placeOf l (i := 12) (by omega) h12 (by omega) (by omega)) (cwV 1 C.2.2.2.2.1 gX5_hunk_X3_placeOf rfl rfl rfl cdX3_placeOf ⟨Nat.le_of_ble_eq_true rfl, Nat.le_of_ble_eq_true rfl⟩) (by omega) h12.obj rfl rfl rfl (Nat.le_of_ble_eq_true rfl) ⟨Nat.le_of_ble_eq_true rfl, Nat.le_of_ble_eq_true rfl⟩ ?_
      rintro _ _ ⟨rfl, rfl⟩
      refine n_pc (pc2 := 48) rfl (n_st (st2 := [.int (plR (ls.map encO) (r : Int)), .int (iI 0)]) rfl ?_)
      refine n_topI (y := (iI (plI ls (r : Int)))) (plRI ls _) ?_
      refine n_iload_n C dX5_hunk_48 1 rfl rfl ?_
      refine n_isub C dX5_hunk_49 ?_
      refine n_mmax C dX5_hunk_50 (List.mem_of_getElem? (i := 2) rfl) (List.mem_of_getElem? (i := 3) rfl) (List.mem_of_getElem? (i := 4) rfl) (List.mem_of_getElem? (i := 5) rfl) (Nat.le_of_ble_eq_true rfl) (Nat.le_of_ble_eq_true rfl) (Nat.le_of_ble_eq_true rfl) (Nat.le_of_ble_eq_true rfl) (by omega) (by omega) (by omega) (by omega) ?_
      refine n_istore (lv' := [(0, .ref (ad 0)), (1, .int (iI n)), (2, .int (iI (h : Int))), (3, .int (iI w9)), (4, .int (iI (r : Int))), (5, .int (iI (r2 : Int))), (6, .int (iI (max 0 ((plI ls (r : Int)) - n))))]) C dX5_hunk_53 (by decide) rfl ?_
      refine n_iload_n C dX5_hunk_55 3 rfl rfl ?_
      rcases (show w9 = 0 ∨ w9 = 1 ∨ w9 = 2 ∨ w9 = 3 ∨ (w9 < 0 ∨ 3 < w9) by omega) with rfl | rfl | rfl | rfl | hq
      · refine n_tswIn (off := 32) (tgt := 88) C dX5_hunk_56 (by decide) (by decide) (by decide) (by decide) (by decide) (by decide) ?_
        refine n_iload C dX5_hunk_88 6 rfl ?_
        exact n_iret C hr dX5_hunk_90 (⟨⟨_, rfl, fun h9 => absurd h9 (by omega), fun _ => ⟨r, r2, by rw [Int.toNat_natCast]; exact hH, rfl⟩⟩, rfl⟩)
      · refine n_tswIn (off := 35) (tgt := 91) C dX5_hunk_56 (by decide) (by decide) (by decide) (by decide) (by decide) (by decide) ?_
        refine n_aload_n C dX5_hunk_91 0 rfl rfl ?_
        refine n_get (k9 := 4) C dX5_hunk_92 (by omega) k0 hX5_hunk_X5 rfl (by decide) kX5_hunk_41 rfl ?_
        refine n_aload_n C dX5_hunk_95 0 rfl rfl ?_
        refine n_get (k9 := 3) C dX5_hunk_96 (by omega) k0 hX5_hunk_X5 rfl (by decide) kX5_hunk_38 rfl ?_
        refine n_iload C dX5_hunk_99 5 rfl ?_
        refine n_callV (rest := [.int (iI (lsz : Int))]) C dX5_hunk_101 (TX3_behind l (i := 12) (by omega) h12 (by omega) (by omega)) (cwV 1 C.2.2.2.2.1 gX5_hunk_X3_behind rfl rfl rfl cdX3_behind ⟨Nat.le_of_ble_eq_true rfl, Nat.le_of_ble_eq_true rfl⟩) (by omega) h12.obj rfl rfl rfl (Nat.le_of_ble_eq_true rfl) ⟨Nat.le_of_ble_eq_true rfl, Nat.le_of_ble_eq_true rfl⟩ ?_
        rintro _ _ ⟨rfl, rfl⟩
        refine n_pc (pc2 := 104) rfl (n_st (st2 := [.int (bhR (ls.map encO) (r2 : Int)), .int (iI (lsz : Int))]) rfl ?_)
        refine n_topI (y := (iI (bhI ls (r2 : Int)))) (bhRI ls _) ?_
        refine n_iload_n C dX5_hunk_104 1 rfl rfl ?_
        refine n_iadd C dX5_hunk_105 ?_
        refine n_mmin C dX5_hunk_106 (List.mem_of_getElem? (i := 7) rfl) (List.mem_of_getElem? (i := 8) rfl) (List.mem_of_getElem? (i := 4) rfl) (List.mem_of_getElem? (i := 9) rfl) (Nat.le_of_ble_eq_true rfl) (Nat.le_of_ble_eq_true rfl) (Nat.le_of_ble_eq_true rfl) (Nat.le_of_ble_eq_true rfl) (by omega) (by omega) (by omega) (by omega) ?_
        refine n_iload C dX5_hunk_109 6 rfl ?_
        refine n_isub C dX5_hunk_111 ?_
        exact n_iret C hr dX5_hunk_112 (⟨⟨_, rfl, fun h9 => absurd h9 (by omega), fun _ => ⟨r, r2, by rw [Int.toNat_natCast]; exact hH, rfl⟩⟩, rfl⟩)
      · refine n_tswIn (off := 57) (tgt := 113) C dX5_hunk_56 (by decide) (by decide) (by decide) (by decide) (by decide) (by decide) ?_
        refine n_aload_n C dX5_hunk_113 0 rfl rfl ?_
        refine n_get (k9 := 3) C dX5_hunk_114 (by omega) k0 hX5_hunk_X5 rfl (by decide) kX5_hunk_38 rfl ?_
        refine n_iconst C dX5_hunk_117 ?_
        refine n_iload C dX5_hunk_118 4 rfl ?_
        refine n_iload C dX5_hunk_120 5 rfl ?_
        refine n_callV (rest := []) C dX5_hunk_122 (TX3_countKind l (i := 12) (d := false) (by omega) h12 hq0 hq1) (cwV 3 C.2.2.2.2.1 gX5_hunk_X3_countKind rfl rfl rfl cdX3_countKind ⟨Nat.le_of_ble_eq_true rfl, Nat.le_of_ble_eq_true rfl⟩) (by omega) h12.obj rfl rfl rfl (Nat.le_of_ble_eq_true rfl) ⟨Nat.le_of_ble_eq_true rfl, Nat.le_of_ble_eq_true rfl⟩ ?_
        rintro _ _ ⟨rfl, rfl⟩
        refine n_pc (pc2 := 125) rfl (n_st (st2 := [.int (iI (cK ls false r (r2 + 1) : Int))]) rfl ?_)
        exact n_iret C hr dX5_hunk_125 (⟨⟨_, rfl, fun h9 => absurd h9 (by omega), fun _ => ⟨r, r2, by rw [Int.toNat_natCast]; exact hH, rfl⟩⟩, rfl⟩)
      · refine n_tswIn (off := 70) (tgt := 126) C dX5_hunk_56 (by decide) (by decide) (by decide) (by decide) (by decide) (by decide) ?_
        refine n_aload_n C dX5_hunk_126 0 rfl rfl ?_
        refine n_get (k9 := 3) C dX5_hunk_127 (by omega) k0 hX5_hunk_X5 rfl (by decide) kX5_hunk_38 rfl ?_
        refine n_iconst C dX5_hunk_130 ?_
        refine n_iload C dX5_hunk_131 4 rfl ?_
        refine n_iload C dX5_hunk_133 5 rfl ?_
        refine n_callV (rest := []) C dX5_hunk_135 (TX3_countKind l (i := 12) (d := true) (by omega) h12 hq0 hq1) (cwV 3 C.2.2.2.2.1 gX5_hunk_X3_countKind rfl rfl rfl cdX3_countKind ⟨Nat.le_of_ble_eq_true rfl, Nat.le_of_ble_eq_true rfl⟩) (by omega) h12.obj rfl rfl rfl (Nat.le_of_ble_eq_true rfl) ⟨Nat.le_of_ble_eq_true rfl, Nat.le_of_ble_eq_true rfl⟩ ?_
        rintro _ _ ⟨rfl, rfl⟩
        refine n_pc (pc2 := 138) rfl (n_st (st2 := [.int (iI (cK ls true r (r2 + 1) : Int))]) rfl ?_)
        exact n_iret C hr dX5_hunk_138 (⟨⟨_, rfl, fun h9 => absurd h9 (by omega), fun _ => ⟨r, r2, by rw [Int.toNat_natCast]; exact hH, rfl⟩⟩, rfl⟩)
      · refine n_tswOut (tgt := 139) C dX5_hunk_56 (by omega) (by omega) hq (by decide) ?_
        refine n_iconst C dX5_hunk_139 ?_
        exact n_iret C hr dX5_hunk_140 (⟨⟨-1, rfl, fun h9 => absurd h9 (by omega), fun _ => ⟨r, r2, by rw [Int.toNat_natCast]; exact hH, by unfold hkV; rw [if_neg (by omega), if_neg (by omega), if_neg (by omega), if_neg (by omega)]⟩⟩, rfl⟩)
    · refine n_iconst C dX5_hunk_13 ?_
      exact n_iret C hr dX5_hunk_14 (⟨⟨-1, rfl, fun _ => rfl, fun h => absurd h (by omega)⟩, rfl⟩)

theorem al_ne0 : ∀ a, a < 41 → ∀ b, b < 41 → b ≠ 0 → vf_n32 (FP.fdiv (FP.i2f (Int32.ofNat a)) (FP.i2f (Int32.ofNat b))) := by
  unfold vf_n32
  decide +kernel
theorem al_ne {a b : Nat} (ha : a ≤ 40) (hb : b ≤ 40) (h0 : b ≠ 0) : vf_n32 (FP.fdiv (FP.i2f (iI (a : Int))) (FP.i2f (iI (b : Int)))) := by
  rw [← iI_nI, ← iI_nI]
  exact al_ne0 a (by omega) b (by omega) h0
/-- how alike: of two rows of n and m symbols with the least script of r operations -/
def alN (n m r : Nat) : UInt32 := if n + m = 0 then FP.fconst1 else FP.fdiv (FP.i2f (iI ((n + m - r : Nat) : Int))) (FP.i2f (iI ((n + m : Nat) : Int)))
def alS (R : Nat → List Int32) (a b : Int) : UInt32 := if isR a && isR b then alN (R a.toNat).length (R b.toNat).length (rs (R a.toNat) (R b.toNat) 0 0) else 3212836864
theorem alS_ok {R : Nat → List Int32} {i j : Nat} (c1 : isR (i : Int) = true) (c2 : isR (j : Int) = true) : alS R (i : Int) (j : Int) = alN (R i).length (R j).length (rs (R i) (R j) 0 0) := by
  unfold alS
  rw [c1, c2, Int.toNat_natCast, Int.toNat_natCast]
  rfl
theorem alN_div {n m r : Nat} (h : n + m ≠ 0) (hr : r ≤ n + m) : alN n m r = FP.fdiv (FP.i2f (iI ((n : Int) + (m : Int) - (r : Int)))) (FP.i2f (iI ((n : Int) + (m : Int)))) := by
  unfold alN
  rw [if_neg h, show ((n + m - r : Nat) : Int) = (n : Int) + (m : Int) - (r : Int) by omega, show ((n + m : Nat) : Int) = (n : Int) + (m : Int) by omega]
theorem alN_0 (r : Nat) : alN 0 0 r = FP.fconst1 := by
  unfold alN
  rw [if_pos (by omega)]
theorem alN_ne {n m r : Nat} (h : n + m ≠ 0) (h2 : n + m ≤ 40) : vf_n32 (alN n m r) := by
  unfold alN
  rw [if_neg h]
  exact al_ne (by omega) h2 h
theorem WrkAt.cmp {G : GG} {ad : Nat → Nat} {ev e2 : Nat → va_E} {qa qb : Nat} {M : Nat → Nat → Int32} (h : WrkAt G ad ev) (hc : CmpAt G ad e2 qa qb M) (hF : Fr e2 ev (fun j => 16 ≤ j ∧ j < 39)) : WrkAt G ad e2 := by
  obtain ⟨-, h2, ⟨z1, h3⟩, ⟨z2, h4⟩, ⟨x0, a0, b0, h5⟩, ⟨x1, a1, b1, h6⟩, ⟨x2, a2, b2, h7⟩⟩ := h
  exact ⟨⟨qa, qb, M, hc⟩, (hF _ (by omega)).trans h2, ⟨z1, h3.fr hF (by omega) (by omega)⟩, ⟨z2, h4.fr hF (by omega) (by omega)⟩, ⟨x0, a0, b0, (hF _ (by omega)).trans h5⟩, ⟨x1, a1, b1, (hF _ (by omega)).trans h6⟩, ⟨x2, a2, b2, (hF _ (by omega)).trans h7⟩⟩
theorem DeskB.cmp {G : GG} {ad : Nat → Nat} {ev e2 : Nat → va_E} {lim : Int} {R : Nat → List Int32} {ops : List Tr} {ls : List Op} {lsz rc dc : Nat} {rs ds : List Int32} {g : Nat → Option Nat} {qa qb : Nat} {M : Nat → Nat → Int32} (h : DeskB G ad ev lim R ops ls lsz rc dc rs ds g) (hc : CmpAt G ad e2 qa qb M) (hF : Fr e2 ev (fun j => 16 ≤ j ∧ j < 39)) : DeskB G ad e2 lim R ops ls lsz rc dc rs ds g := by
  obtain ⟨hb, k0, k1, hg, hr9, h8, h12, hw, hrr, hdd⟩ := h
  exact ⟨hb, (hF _ (by omega)).trans k0, (hF _ (by omega)).trans k1, hg, fun i hi => (hr9 i hi).fr hF (by omega) (by omega), h8.fr hF (by omega) (by omega) (by omega) (by omega), h12.fr hF (by omega) (by omega) (by omega) (by omega), hw.cmp hc hF, hrr.fr hF (by omega) (by omega), hdd.fr hF (by omega) (by omega)⟩
def pX5_alike (G : GG) (ad : Nat → Nat) (ev : Nat → va_E) (lim : Int) (R : Nat → List Int32) (ops : List Tr) (ls : List Op) (lsz : Nat) (rs : List Int32) (a b : Int) : Option Value → (Nat → va_E) → Prop := fun v e2 => v = some (.float (alS R a b)) ∧ DeskAt G ad e2 lim R ops ls lsz rs ∧ Fr e2 ev (fun j => j < 53)

set_option maxHeartbeats 4000000 in
set_option maxRecDepth 100000 in
theorem TX5_alike (l : Launch) {G : GG} {N : Nat} {ad : Nat → Nat} {ev : Nat → va_E} {lim : Int} {R9 : Nat → List Int32} {ops : List Tr} {ls : List Op} {lsz : Nat} {rs9 : List Int32} {a b : Int} (hN : 53 ≤ N) (hD : DeskAt G ad ev lim R9 ops ls lsz rs9) (haa : -2147483648 ≤ a) (hab : a < 2147483648) (hba : -2147483648 ≤ b) (hbb : b < 2147483648) : Ct l yX5_alike wsX5_alike rmX5_alike [.ref (ad 0), .int (iI a), .int (iI b)] G N ad ev 0 0 (pX5_alike G ad ev lim R9 ops ls lsz rs9 a b) := by
  obtain ⟨rc, dc, ds, g, hB⟩ := hD
  obtain ⟨⟨hli1, hli2, hlsz, hsm, hrd⟩, k0, k1, hg, hr9, h8, h12, hwk, hrr, hdd⟩ := id hB
  obtain ⟨⟨qa0, qb0, M0, hc0⟩, -⟩ := id hwk
  refine Ct_of (cc := cX5_alike) (maxL := 5) (ret := some .float) (lv := [(0, .ref (ad 0)), (1, .int (iI a)), (2, .int (iI b))]) (by decide) rfl (Nat.le_of_ble_eq_true rfl) rfl ?_
  intro p E s m args below meth c A C hr hnm
  refine n_iload_n C dX5_alike_0 1 rfl rfl ?_
  refine n_callS (rest := []) C dX5_alike_1 (TX5_isRow l haa hab) (cwS 1 C.2.2.2.2.1 gX5_alike_X5_isRow rfl rfl rfl cdX5_isRow ⟨Nat.le_of_ble_eq_true rfl, Nat.le_of_ble_eq_true rfl⟩) rfl rfl (Nat.le_of_ble_eq_true rfl) ⟨Nat.le_of_ble_eq_true rfl, Nat.le_of_ble_eq_true rfl⟩ ?_
  rintro _ _ ⟨rfl, rfl⟩
  refine n_pc (pc2 := 4) rfl (n_st (st2 := [.int (bI (isR a))]) rfl ?_)
  refine n_if_eqB C dX5_alike_4 (by decide) (tgt := 14) (fun c1 => ?_) (fun c1 => ?_)
  · refine n_ldcf (x := 3212836864) C dX5_alike_14 (List.mem_of_getElem? (i := 1) rfl) ?_
    exact n_fret C hr dX5_alike_16 (⟨by unfold alS; rw [c1]; rfl, ⟨rc, dc, ds, g, hB⟩, Fr.rf⟩)
  · refine n_iload_n C dX5_alike_7 2 rfl rfl ?_
    refine n_callS (rest := []) C dX5_alike_8 (TX5_isRow l hba hbb) (cwS 1 C.2.2.2.2.1 gX5_alike_X5_isRow rfl rfl rfl cdX5_isRow ⟨Nat.le_of_ble_eq_true rfl, Nat.le_of_ble_eq_true rfl⟩) rfl rfl (Nat.le_of_ble_eq_true rfl) ⟨Nat.le_of_ble_eq_true rfl, Nat.le_of_ble_eq_true rfl⟩ ?_
    rintro _ _ ⟨rfl, rfl⟩
    refine n_pc (pc2 := 11) rfl (n_st (st2 := [.int (bI (isR b))]) rfl ?_)
    refine n_if_neB C dX5_alike_11 (by decide) (tgt := 17) (fun c2 => ?_) (fun c2 => ?_)
    · have c1w := of_decide_eq_true c1
      obtain ⟨i, rfl⟩ : ∃ i : Nat, a = (i : Int) := ⟨a.toNat, by omega⟩
      have hri := hr9 i (by omega)
      have c2w := of_decide_eq_true c2
      obtain ⟨j, rfl⟩ : ∃ j : Nat, b = (j : Int) := ⟨b.toNat, by omega⟩
      have hrj := hr9 j (by omega)
      have hli := hri.le
      have hlj := hrj.le
      have hrl := rst_le _ ((R9 i).drop 0) ((R9 j).drop 0) (Nat.le_refl _)
      simp only [List.length_drop, Nat.sub_zero] at hrl
      have hrs : rs (R9 i) (R9 j) 0 0 ≤ (R9 i).length + (R9 j).length := hrl.1
      refine n_aload_n C dX5_alike_17 0 rfl rfl ?_
      refine n_get (k9 := 1) C dX5_alike_18 (by omega) k0 hX5_alike_X5 rfl (by decide) kX5_alike_24 rfl ?_
      refine n_iload_n C dX5_alike_21 1 rfl rfl ?_
      refine n_aald (j := i) (q := ad (2 + 2 * i)) C dX5_alike_22 (by omega) k1 (by omega) (by omega) (by omega) (hg i (by omega)) ?_
      refine n_getN (k9 := 1) C dX5_alike_23 (by omega) hri.obj hX5_alike_X2 rfl (by decide) kn_X5_78 rfl ?_
      refine n_aload_n C dX5_alike_26 0 rfl rfl ?_
      refine n_get (k9 := 1) C dX5_alike_27 (by omega) k0 hX5_alike_X5 rfl (by decide) kX5_alike_24 rfl ?_
      refine n_iload_n C dX5_alike_30 2 rfl rfl ?_
      refine n_aald (j := j) (q := ad (2 + 2 * j)) C dX5_alike_31 (by omega) k1 (by omega) (by omega) (by omega) (hg j (by omega)) ?_
      refine n_getN (k9 := 1) C dX5_alike_32 (by omega) hrj.obj hX5_alike_X2 rfl (by decide) kn_X5_78 rfl ?_
      refine n_iadd C dX5_alike_35 ?_
      refine n_istore_n (lv' := [(0, .ref (ad 0)), (1, .int (iI (i : Int))), (2, .int (iI (j : Int))), (3, .int (iI (((R9 i).length : Int) + ((R9 j).length : Int))))]) C dX5_alike_36 rfl (by decide) rfl ?_
      refine n_iload_n C dX5_alike_37 3 rfl rfl ?_
      refine n_if_ne C dX5_alike_38 (by decide) (by omega) (by omega) (tgt := 43) (fun c3 => ?_) (fun c3 => ?_)
      · refine n_aload_n C dX5_alike_43 0 rfl rfl ?_
        refine n_get (k9 := 5) C dX5_alike_44 (by omega) k0 hX5_alike_X5 rfl (by decide) kX5_alike_47 rfl ?_
        refine n_aload_n C dX5_alike_47 0 rfl rfl ?_
        refine n_get (k9 := 1) C dX5_alike_48 (by omega) k0 hX5_alike_X5 rfl (by decide) kX5_alike_24 rfl ?_
        refine n_iload_n C dX5_alike_51 1 rfl rfl ?_
        refine n_aald (j := i) (q := ad (2 + 2 * i)) C dX5_alike_52 (by omega) k1 (by omega) (by omega) (by omega) (hg i (by omega)) ?_
        refine n_aload_n C dX5_alike_53 0 rfl rfl ?_
        refine n_get (k9 := 1) C dX5_alike_54 (by omega) k0 hX5_alike_X5 rfl (by decide) kX5_alike_24 rfl ?_
        refine n_iload_n C dX5_alike_57 2 rfl rfl ?_
        refine n_aald (j := j) (q := ad (2 + 2 * j)) C dX5_alike_58 (by omega) k1 (by omega) (by omega) (by omega) (hg j (by omega)) ?_
        refine n_callV (rest := []) C dX5_alike_59 (TX0_compare l hN hc0 hri hrj (by omega) (by omega)) (cwV 2 C.2.2.2.2.1 gX5_alike_X0_compare rfl rfl rfl cdX0_compare ⟨Nat.le_of_ble_eq_true rfl, Nat.le_of_ble_eq_true rfl⟩) (by omega) hc0.1 rfl rfl rfl (Nat.le_of_ble_eq_true rfl) ⟨Nat.le_of_ble_eq_true rfl, Nat.le_of_ble_eq_true rfl⟩ ?_
        rintro _ e1 ⟨rfl, ⟨M, hc, hok⟩, hF⟩
        refine n_pc (pc2 := 62) rfl (n_st (st2 := []) rfl ?_)
        have k0 := (hF _ (by omega)).trans k0
        refine n_iload_n C dX5_alike_62 3 rfl rfl ?_
        refine n_aload_n C dX5_alike_63 0 rfl rfl ?_
        refine n_get (k9 := 5) C dX5_alike_64 (by omega) k0 hX5_alike_X5 rfl (by decide) kX5_alike_47 rfl ?_
        refine n_callV (rest := [.int (iI (((R9 i).length : Int) + ((R9 j).length : Int)))]) C dX5_alike_67 (TX0_operations l hN hc hok) (cwV 0 C.2.2.2.2.1 gX5_alike_X0_operations rfl rfl rfl cdX0_operations ⟨Nat.le_of_ble_eq_true rfl, Nat.le_of_ble_eq_true rfl⟩) (by omega) hc.1 rfl rfl rfl (Nat.le_of_ble_eq_true rfl) ⟨Nat.le_of_ble_eq_true rfl, Nat.le_of_ble_eq_true rfl⟩ ?_
        rintro _ _ ⟨rfl, rfl⟩
        refine n_pc (pc2 := 70) rfl (n_st (st2 := [.int (iI (rs (R9 i) (R9 j) 0 0 : Int)), .int (iI (((R9 i).length : Int) + ((R9 j).length : Int)))]) rfl ?_)
        refine n_isub C dX5_alike_70 ?_
        refine n_istore (lv' := [(0, .ref (ad 0)), (1, .int (iI (i : Int))), (2, .int (iI (j : Int))), (3, .int (iI (((R9 i).length : Int) + ((R9 j).length : Int)))), (4, .int (iI ((((R9 i).length : Int) + ((R9 j).length : Int)) - (rs (R9 i) (R9 j) 0 0 : Int))))]) C dX5_alike_71 (by decide) rfl ?_
        refine n_iload C dX5_alike_73 4 rfl ?_
        refine n_i2f C dX5_alike_75 ?_
        refine n_iload_n C dX5_alike_76 3 rfl rfl ?_
        refine n_i2f C dX5_alike_77 ?_
        have hv9 := (alS_ok (R := R9) c1 c2).trans (alN_div (show (R9 i).length + (R9 j).length ≠ 0 by omega) hrs)
        have hne := alN_ne (r := rs (R9 i) (R9 j) 0 0) (show (R9 i).length + (R9 j).length ≠ 0 by omega) (by omega)
        refine n_fdiv C dX5_alike_78 (by rw [← hv9, alS_ok c1 c2]; exact hne) ?_
        exact n_fret C hr dX5_alike_79 (⟨by rw [hv9], ⟨rc, dc, ds, g, hB.cmp hc hF⟩, hF.mono (fun k hk => by omega)⟩)
      · refine n_fconst1 C dX5_alike_41 ?_
        exact n_fret C hr dX5_alike_42 (⟨by rw [alS_ok c1 c2, show (R9 i).length = 0 by omega, show (R9 j).length = 0 by omega, alN_0], ⟨rc, dc, ds, g, hB⟩, Fr.rf⟩)
    · refine n_ldcf (x := 3212836864) C dX5_alike_14 (List.mem_of_getElem? (i := 1) rfl) ?_
      exact n_fret C hr dX5_alike_16 (⟨by unfold alS; rw [c1, c2]; rfl, ⟨rc, dc, ds, g, hB⟩, Fr.rf⟩)
