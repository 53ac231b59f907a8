set_option maxHeartbeats 4000000 in
set_option maxRecDepth 100000 in
theorem TL_cell (l : Launch) {G : GG} {N : Nat} {ad : Nat → Nat} {ev : Nat → va_E} {b L : Nat} {xs : Nat → Int32} (hL : L ≤ 2049) : Cs l yL_cell wsL_cell rmL_cell [.ref b, .int (iI 0)] G N ad ev b L xs 0 0 (fun v e2 => v = some (.int (if 0 < L then xs 0 else iI 0)) ∧ ev = e2) := by
  refine Cs_of (cc := cL_cell) (maxL := 2) (ret := some .int) (lv := [(0, .ref b), (1, .int (iI 0))]) (by decide) rfl (Nat.le_of_ble_eq_true rfl) rfl ?_
  intro p E s m args below meth c A C hr hX
  refine n_iload_n C dL_cell_0 1 rfl rfl ?_
  refine n_aload_n C dL_cell_1 0 rfl rfl ?_
  refine n_slen C hX dL_cell_2 ?_
  refine n_icmp_ge C dL_cell_3 (by decide) (by omega) (by omega) (by omega) (by omega) (tgt := 12) (fun c1 => ?_) (fun c1 => ?_)
  · refine n_iconst C dL_cell_12 ?_
    exact n_iret C hr dL_cell_13 (⟨by rw [if_neg (by omega)], rfl⟩)
  · refine n_aload_n C dL_cell_6 0 rfl rfl ?_
    refine n_iload_n C dL_cell_7 1 rfl rfl ?_
    refine n_sld (j := 0) C hX dL_cell_8 rfl (by omega) (by omega) ?_
    refine n_goto (tgt := 13) C dL_cell_9 (by decide) ?_
    exact n_iret C hr dL_cell_13 (⟨by rw [if_pos (by omega)], rfl⟩)

theorem dfE_le (R : Nat → List Int32) (lim a b : Int) : dfE R lim a b ≤ 2 := by
  unfold dfE
  repeat' split
  all_goals omega
theorem ptE_le (R : Nat → List Int32) (ops : List Tr) (z : Int) : ptE R ops z ≤ 4 := by
  unfold ptE
  split
  · exact wr_le _ _ _ 0 (Nat.le_refl _)
  · omega

abbrev rmL_diff : Room := { frames := 7, cells := 1, slots := 6, locals := 122 }
set_option maxHeartbeats 4000000 in
set_option maxRecDepth 100000 in
theorem TL_diff (l : Launch) (hlt : l.stackTraces = false) {G : GG} {N : Nat} {ad : Nat → Nat} {ev : Nat → va_E} {lim : Int} {R9 : Nat → List Int32} {ops : List Tr} {ls : List Op} {lsz : Nat} {rs9 : List Int32} {f : Nat → Int64} {a b : Int} (hN : 67 ≤ N) (hD : DeskAt G ad ev lim R9 ops ls lsz rs9) (k66 : ev 66 = .inl (G.2.2.2.2, 1, .inr (.inl f))) (haa : -2147483648 ≤ a) (hab : a < 2147483648) (hba : -2147483648 ≤ b) (hbb : b < 2147483648) : CtX l yL_diff wsL_diff rmL_diff [.ref (ad 0), .int (iI a), .int (iI b), .ref (ad 66)] G N ad ev 1 6 (fun v e2 => v = some (.int (iI (dfE R9 lim a b : Nat))) ∧ (dfE R9 lim a b ≠ 0 → DeskAt G ad e2 lim R9 ops ls lsz rs9 ∧ ∃ f : Nat → Int64, e2 66 = .inl (G.2.2.2.2, 1, .inr (.inl f))) ∧ (dfE R9 lim a b = 0 → DeskAt G ad e2 lim R9 ((dfS R9 a b).map encO) (dfS R9 a b) (R9 a.toNat).length rs9 ∧ ∃ f : Nat → Int64, f 0 = (iI ((dfS R9 a b).length : Int)).toInt64 ∧ e2 66 = .inl (G.2.2.2.2, 1, .inr (.inl f))) ∧ Fr e2 ev (fun j => j < 53 ∨ j = 66)) := by
  obtain ⟨fs0, k0⟩ := hD.obj
  refine CtX_of (cc := cL_diff) (maxL := 5) (ret := some .int) (hh := [(0, 10, 13, 13), (0, 10, 17, 15)]) (lv := [(0, .ref (ad 0)), (1, .int (iI a)), (2, .int (iI b)), (3, .ref (ad 66))]) (by decide) rfl (Nat.le_of_ble_eq_true rfl) rfl ?_
  intro p E s m args below meth c A C hr hX htb
  by_cases hE : dfE R9 lim a b = 0
  · refine n_aload_n C dL_diff_0 3 rfl rfl ?_
    refine n_iconst C dL_diff_1 ?_
    refine n_aload_n C dL_diff_2 0 rfl rfl ?_
    refine n_iload_n C dL_diff_3 1 rfl rfl ?_
    refine n_iload_n C dL_diff_4 2 rfl rfl ?_
    refine n_widen (c2 := 1) (s2 := 6) (Nat.le_of_ble_eq_true rfl) (Nat.le_of_ble_eq_true rfl) ?_
    refine n_callV (rest := [.int (iI 0), .ref (ad 66)]) C dL_diff_5 (TX5_diff l (by omega) hD haa hab hba hbb hE) (cwV 2 C.2.2.2.2.1 gL_diff_X5_diff rfl rfl rfl cdX5_diff ⟨Nat.le_of_ble_eq_true rfl, Nat.le_of_ble_eq_true rfl⟩) (by omega) k0 rfl rfl rfl (Nat.le_of_ble_eq_true rfl) ⟨Nat.le_of_ble_eq_true rfl, Nat.le_of_ble_eq_true rfl⟩ ?_
    rintro _ e1 ⟨rfl, hD1, hF1⟩
    refine n_pc (pc2 := 8) rfl (n_st (st2 := [.int (iI ((dfS R9 a b).length : Int)), .int (iI 0), .ref (ad 66)]) rfl ?_)
    have k66 := (hF1 66 (by omega)).trans k66
    refine n_i2l C dL_diff_8 ?_
    refine n_last (j := 0) C dL_diff_9 (by omega) k66 rfl (by omega) (by omega) (fun e2 hs ho => ?_)
    have hF2 : Fr e2 e1 (fun j => j = 66) := fun j hj => ho j hj
    refine n_goto (tgt := 21) C dL_diff_10 (by decide) ?_
    refine n_iconst C dL_diff_21 ?_
    exact n_iret C hr dL_diff_22 (⟨by rw [hE]; rfl, fun h => absurd hE h, fun _ => ⟨hD1.fr hF2 (fun j hj => by omega), _, by simp [vp_updL], hs⟩, fun j hj => (hF2 j (by omega)).trans (hF1 j (by omega))⟩)
  · refine n_aload_n C dL_diff_0 3 rfl rfl ?_
    refine n_iconst C dL_diff_1 ?_
    refine n_aload_n C dL_diff_2 0 rfl rfl ?_
    refine n_iload_n C dL_diff_3 1 rfl rfl ?_
    refine n_iload_n C dL_diff_4 2 rfl rfl ?_
    rcases (show dfE R9 lim a b = 1 ∨ dfE R9 lim a b = 2 by have := dfE_le R9 lim a b; omega) with hc | hc
    · refine n_callVC (rest := [.int (iI 0), .ref (ad 66)]) (nE := nIA) (As := [.int (iI a), .int (iI b)]) C hX [] ⟨0, 10, 13, 13⟩ [⟨0, 10, 17, 15⟩] (htb.trans rfl) (fun z9 hz9 => by cases hz9) (by decide) (by decide) (List.mem_of_getElem? (i := 1) rfl) (List.mem_of_getElem? (i := 3) rfl) dL_diff_5 (ZX5_diff l hlt (by omega) hD haa hab hba hbb hE) (cwV 2 C.2.2.2.2.1 gL_diff_X5_diff rfl rfl rfl cdX5_diff ⟨(Nat.le_of_ble_eq_true rfl), (Nat.le_of_ble_eq_true rfl)⟩) (by omega) k0 rfl rfl rfl (Nat.le_of_ble_eq_true rfl) ⟨(Nat.le_of_ble_eq_true rfl), (Nat.le_of_ble_eq_true rfl)⟩ (fun X e2 h => by rw [h.1, hc]; rfl) ?_
      rintro q9 e2 ⟨-, hD1, hF1⟩
      refine n_pc (pc2 := 13) rfl ?_
      refine n_astore (lv' := [(0, .ref (ad 0)), (1, .int (iI a)), (2, .int (iI b)), (3, .ref (ad 66)), (4, .ref q9)]) C dL_diff_13 (by decide) rfl ?_
      refine n_iconst C dL_diff_15 ?_
      exact n_iret C hr dL_diff_16 (⟨by rw [hc]; rfl, fun _ => ⟨hD1, f, (hF1 66 (by omega)).trans k66⟩, fun h => absurd h hE, fun j hj => hF1 j (by omega)⟩)
    · refine n_callVC (rest := [.int (iI 0), .ref (ad 66)]) (nE := nIS) (As := [.int (iI a), .int (iI b)]) C hX [⟨0, 10, 13, 13⟩] ⟨0, 10, 17, 15⟩ [] (htb.trans rfl) (fun z9 hz9 => by
          simp only [List.mem_cons, List.not_mem_nil, or_false] at hz9
          rcases hz9 with rfl
          · exact Or.inr ⟨by decide, nIA, List.mem_of_getElem? (i := 1) rfl, by decide⟩) (by decide) (by decide) (List.mem_of_getElem? (i := 2) rfl) (List.mem_of_getElem? (i := 5) rfl) dL_diff_5 (ZX5_diff l hlt (by omega) hD haa hab hba hbb hE) (cwV 2 C.2.2.2.2.1 gL_diff_X5_diff rfl rfl rfl cdX5_diff ⟨(Nat.le_of_ble_eq_true rfl), (Nat.le_of_ble_eq_true rfl)⟩) (by omega) k0 rfl rfl rfl (Nat.le_of_ble_eq_true rfl) ⟨(Nat.le_of_ble_eq_true rfl), (Nat.le_of_ble_eq_true rfl)⟩ (fun X e2 h => by rw [h.1, hc]; rfl) ?_
      rintro q9 e2 ⟨-, hD1, hF1⟩
      refine n_pc (pc2 := 17) rfl ?_
      refine n_astore (lv' := [(0, .ref (ad 0)), (1, .int (iI a)), (2, .int (iI b)), (3, .ref (ad 66)), (4, .ref q9)]) C dL_diff_17 (by decide) rfl ?_
      refine n_iconst C dL_diff_19 ?_
      exact n_iret C hr dL_diff_20 (⟨by rw [hc]; rfl, fun _ => ⟨hD1, f, (hF1 66 (by omega)).trans k66⟩, fun h => absurd h hE, fun j hj => hF1 j (by omega)⟩)

abbrev rmL_patch : Room := { frames := 8, cells := 1, slots := 6, locals := 152 }
set_option maxHeartbeats 4000000 in
set_option maxRecDepth 100000 in
theorem TL_patch (l : Launch) (hlt : l.stackTraces = false) {G : GG} {N : Nat} {ad : Nat → Nat} {ev : Nat → va_E} {lim : Int} {R9 : Nat → List Int32} {ops : List Tr} {ls : List Op} {lsz : Nat} {rs9 : List Int32} {f : Nat → Int64} {z : Int} (hN : 67 ≤ N) (hD : DeskAt G ad ev lim R9 ops ls lsz rs9) (k66 : ev 66 = .inl (G.2.2.2.2, 1, .inr (.inl f))) (hza : -2147483648 ≤ z) (hzb : z < 2147483648) : CtX l yL_patch wsL_patch rmL_patch [.ref (ad 0), .int (iI z), .ref (ad 66)] G N ad ev 1 6 (fun v e2 => v = some (.int (iI (ptE R9 ops z : Nat))) ∧ (ptE R9 ops z ≠ 0 → DeskAt G ad e2 lim R9 ops ls lsz rs9 ∧ ∃ f : Nat → Int64, e2 66 = .inl (G.2.2.2.2, 1, .inr (.inl f))) ∧ (ptE R9 ops z = 0 → DeskAt G ad e2 lim R9 ops ls lsz (pres (R9 z.toNat) ops) ∧ ∃ f : Nat → Int64, f 0 = (iI ((pres (R9 z.toNat) ops).length : Int)).toInt64 ∧ e2 66 = .inl (G.2.2.2.2, 1, .inr (.inl f))) ∧ Fr e2 ev (fun j => j < 53 ∨ j = 66)) := by
  obtain ⟨fs0, k0⟩ := hD.obj
  refine CtX_of (cc := cL_patch) (maxL := 4) (ret := some .int) (hh := [(0, 9, 12, 13), (0, 9, 15, 21), (0, 9, 18, 15), (0, 9, 21, 23)]) (lv := [(0, .ref (ad 0)), (1, .int (iI z)), (2, .ref (ad 66))]) (by decide) rfl (Nat.le_of_ble_eq_true rfl) rfl ?_
  intro p E s m args below meth c A C hr hX htb
  by_cases hE : ptE R9 ops z = 0
  · refine n_aload_n C dL_patch_0 2 rfl rfl ?_
    refine n_iconst C dL_patch_1 ?_
    refine n_aload_n C dL_patch_2 0 rfl rfl ?_
    refine n_iload_n C dL_patch_3 1 rfl rfl ?_
    refine n_widen (c2 := 1) (s2 := 6) (Nat.le_of_ble_eq_true rfl) (Nat.le_of_ble_eq_true rfl) ?_
    refine n_callV (rest := [.int (iI 0), .ref (ad 66)]) C dL_patch_4 (TX5_patch l (by omega) hD hza hzb hE) (cwV 1 C.2.2.2.2.1 gL_patch_X5_patch rfl rfl rfl cdX5_patch ⟨Nat.le_of_ble_eq_true rfl, Nat.le_of_ble_eq_true rfl⟩) (by omega) k0 rfl rfl rfl (Nat.le_of_ble_eq_true rfl) ⟨Nat.le_of_ble_eq_true rfl, Nat.le_of_ble_eq_true rfl⟩ ?_
    rintro _ e1 ⟨rfl, hD1, hF1⟩
    refine n_pc (pc2 := 7) rfl (n_st (st2 := [.int (iI ((pres (R9 z.toNat) ops).length : Int)), .int (iI 0), .ref (ad 66)]) rfl ?_)
    have k66 := (hF1 66 (by omega)).trans k66
    refine n_i2l C dL_patch_7 ?_
    refine n_last (j := 0) C dL_patch_8 (by omega) k66 rfl (by omega) (by omega) (fun e2 hs ho => ?_)
    have hF2 : Fr e2 e1 (fun j => j = 66) := fun j hj => ho j hj
    refine n_goto (tgt := 24) C dL_patch_9 (by decide) ?_
    refine n_iconst C dL_patch_24 ?_
    exact n_iret C hr dL_patch_25 (⟨by rw [hE]; rfl, fun h => absurd hE h, fun _ => ⟨hD1.fr hF2 (fun j hj => by omega), _, by simp [vp_updL], hs⟩, fun j hj => (hF2 j (by omega)).trans (hF1 j (by omega))⟩)
  · refine n_aload_n C dL_patch_0 2 rfl rfl ?_
    refine n_iconst C dL_patch_1 ?_
    refine n_aload_n C dL_patch_2 0 rfl rfl ?_
    refine n_iload_n C dL_patch_3 1 rfl rfl ?_
    rcases (show ptE R9 ops z = 1 ∨ ptE R9 ops z = 2 ∨ ptE R9 ops z = 3 ∨ ptE R9 ops z = 4 by have := ptE_le R9 ops z; omega) with hc | hc | hc | hc
    · refine n_callVC (rest := [.int (iI 0), .ref (ad 66)]) (nE := nIA) (As := [.int (iI z)]) C hX [] ⟨0, 9, 12, 13⟩ [⟨0, 9, 15, 21⟩, ⟨0, 9, 18, 15⟩, ⟨0, 9, 21, 23⟩] (htb.trans rfl) (fun z9 hz9 => by cases hz9) (by decide) (by decide) (List.mem_of_getElem? (i := 1) rfl) (List.mem_of_getElem? (i := 3) rfl) dL_patch_4 (ZX5_patch l hlt (by omega) hD hza hzb hE) (cwV 1 C.2.2.2.2.1 gL_patch_X5_patch rfl rfl rfl cdX5_patch ⟨(Nat.le_of_ble_eq_true rfl), (Nat.le_of_ble_eq_true rfl)⟩) (by omega) k0 rfl rfl rfl (Nat.le_of_ble_eq_true rfl) ⟨(Nat.le_of_ble_eq_true rfl), (Nat.le_of_ble_eq_true rfl)⟩ (fun X e2 h => by rw [h.1, hc]; rfl) ?_
      rintro q9 e2 ⟨-, hD1, hF1⟩
      refine n_pc (pc2 := 12) rfl ?_
      refine n_astore_n (lv' := [(0, .ref (ad 0)), (1, .int (iI z)), (2, .ref (ad 66)), (3, .ref q9)]) C dL_patch_12 rfl (by decide) rfl ?_
      refine n_iconst C dL_patch_13 ?_
      exact n_iret C hr dL_patch_14 (⟨by rw [hc]; rfl, fun _ => ⟨hD1, f, (hF1 66 (by omega)).trans k66⟩, fun h => absurd h hE, fun j hj => hF1 j (by omega)⟩)
    · refine n_callVC (rest := [.int (iI 0), .ref (ad 66)]) (nE := nIB) (As := [.int (iI z)]) C hX [⟨0, 9, 12, 13⟩] ⟨0, 9, 15, 21⟩ [⟨0, 9, 18, 15⟩, ⟨0, 9, 21, 23⟩] (htb.trans rfl) (fun z9 hz9 => by
          simp only [List.mem_cons, List.not_mem_nil, or_false] at hz9
          rcases hz9 with rfl
          · exact Or.inr ⟨by decide, nIA, List.mem_of_getElem? (i := 1) rfl, by decide⟩) (by decide) (by decide) (List.mem_of_getElem? (i := 2) rfl) (List.mem_of_getElem? (i := 4) rfl) dL_patch_4 (ZX5_patch l hlt (by omega) hD hza hzb hE) (cwV 1 C.2.2.2.2.1 gL_patch_X5_patch rfl rfl rfl cdX5_patch ⟨(Nat.le_of_ble_eq_true rfl), (Nat.le_of_ble_eq_true rfl)⟩) (by omega) k0 rfl rfl rfl (Nat.le_of_ble_eq_true rfl) ⟨(Nat.le_of_ble_eq_true rfl), (Nat.le_of_ble_eq_true rfl)⟩ (fun X e2 h => by rw [h.1, hc]; rfl) ?_
      rintro q9 e2 ⟨-, hD1, hF1⟩
      refine n_pc (pc2 := 15) rfl ?_
      refine n_astore_n (lv' := [(0, .ref (ad 0)), (1, .int (iI z)), (2, .ref (ad 66)), (3, .ref q9)]) C dL_patch_15 rfl (by decide) rfl ?_
      refine n_iconst C dL_patch_16 ?_
      exact n_iret C hr dL_patch_17 (⟨by rw [hc]; rfl, fun _ => ⟨hD1, f, (hF1 66 (by omega)).trans k66⟩, fun h => absurd h hE, fun j hj => hF1 j (by omega)⟩)
    · refine n_callVC (rest := [.int (iI 0), .ref (ad 66)]) (nE := nIS) (As := [.int (iI z)]) C hX [⟨0, 9, 12, 13⟩, ⟨0, 9, 15, 21⟩] ⟨0, 9, 18, 15⟩ [⟨0, 9, 21, 23⟩] (htb.trans rfl) (fun z9 hz9 => by
          simp only [List.mem_cons, List.not_mem_nil, or_false] at hz9
          rcases hz9 with rfl | rfl
          · exact Or.inr ⟨by decide, nIA, List.mem_of_getElem? (i := 1) rfl, by decide⟩
          · exact Or.inr ⟨by decide, nIB, List.mem_of_getElem? (i := 2) rfl, by decide⟩) (by decide) (by decide) (List.mem_of_getElem? (i := 3) rfl) (List.mem_of_getElem? (i := 5) rfl) dL_patch_4 (ZX5_patch l hlt (by omega) hD hza hzb hE) (cwV 1 C.2.2.2.2.1 gL_patch_X5_patch rfl rfl rfl cdX5_patch ⟨(Nat.le_of_ble_eq_true rfl), (Nat.le_of_ble_eq_true rfl)⟩) (by omega) k0 rfl rfl rfl (Nat.le_of_ble_eq_true rfl) ⟨(Nat.le_of_ble_eq_true rfl), (Nat.le_of_ble_eq_true rfl)⟩ (fun X e2 h => by rw [h.1, hc]; rfl) ?_
      rintro q9 e2 ⟨-, hD1, hF1⟩
      refine n_pc (pc2 := 18) rfl ?_
      refine n_astore_n (lv' := [(0, .ref (ad 0)), (1, .int (iI z)), (2, .ref (ad 66)), (3, .ref q9)]) C dL_patch_18 rfl (by decide) rfl ?_
      refine n_iconst C dL_patch_19 ?_
      exact n_iret C hr dL_patch_20 (⟨by rw [hc]; rfl, fun _ => ⟨hD1, f, (hF1 66 (by omega)).trans k66⟩, fun h => absurd h hE, fun j hj => hF1 j (by omega)⟩)
    · refine n_callVC (rest := [.int (iI 0), .ref (ad 66)]) (nE := nUO) (As := [.int (iI z)]) C hX [⟨0, 9, 12, 13⟩, ⟨0, 9, 15, 21⟩, ⟨0, 9, 18, 15⟩] ⟨0, 9, 21, 23⟩ [] (htb.trans rfl) (fun z9 hz9 => by
          simp only [List.mem_cons, List.not_mem_nil, or_false] at hz9
          rcases hz9 with rfl | rfl | rfl
          · exact Or.inr ⟨by decide, nIA, List.mem_of_getElem? (i := 1) rfl, by decide⟩
          · exact Or.inr ⟨by decide, nIB, List.mem_of_getElem? (i := 2) rfl, by decide⟩
          · exact Or.inr ⟨by decide, nIS, List.mem_of_getElem? (i := 3) rfl, by decide⟩) (by decide) (by decide) (List.mem_of_getElem? (i := 4) rfl) (List.mem_of_getElem? (i := 6) rfl) dL_patch_4 (ZX5_patch l hlt (by omega) hD hza hzb hE) (cwV 1 C.2.2.2.2.1 gL_patch_X5_patch rfl rfl rfl cdX5_patch ⟨(Nat.le_of_ble_eq_true rfl), (Nat.le_of_ble_eq_true rfl)⟩) (by omega) k0 rfl rfl rfl (Nat.le_of_ble_eq_true rfl) ⟨(Nat.le_of_ble_eq_true rfl), (Nat.le_of_ble_eq_true rfl)⟩ (fun X e2 h => by rw [h.1, hc]; rfl) ?_
      rintro q9 e2 ⟨-, hD1, hF1⟩
      refine n_pc (pc2 := 21) rfl ?_
      refine n_astore_n (lv' := [(0, .ref (ad 0)), (1, .int (iI z)), (2, .ref (ad 66)), (3, .ref q9)]) C dL_patch_21 rfl (by decide) rfl ?_
      refine n_iconst C dL_patch_22 ?_
      exact n_iret C hr dL_patch_23 (⟨by rw [hc]; rfl, fun _ => ⟨hD1, f, (hF1 66 (by omega)).trans k66⟩, fun h => absurd h hE, fun j hj => hF1 j (by omega)⟩)
