set_option maxHeartbeats 4000000 in
set_option maxRecDepth 100000 in
theorem TX6_between (l : Launch) {G : GG} {N : Nat} {ad : Nat → Nat} {ev : Nat → va_E} {lim thr : Int} {no : Nat} {cmp : Bool} {nl lsz : Nat} {R9 : Nat → List Int32} {fz fy fr : Nat → Int32} {rs9 : List Int32} {b0 b1 x0 x1 y0 y1 : Nat} (hN : 66 ≤ N) (k53 : ev 53 = mO ad lim thr no cmp nl lsz rs9.length) (m1 : MRows G ev R9 fz fy) (m4 : MRes G ev rs9 fr) (hb01 : b0 ≤ b1) (hb1 : b1 ≤ (R9 0).length) (hx01 : x0 ≤ x1) (hx1 : x1 ≤ (R9 1).length) (hy01 : y0 ≤ y1) (hy1 : y1 ≤ (R9 2).length) (hcap : rs9.length + (x1 - x0) + (y1 - y0) + 3 ≤ 128) : Ct l yX6_between wsX6_between rmX6_between [.ref (ad 53), .int (iI (b0 : Int)), .int (iI (b1 : Int)), .int (iI (x0 : Int)), .int (iI (x1 : Int)), .int (iI (y0 : Int)), .int (iI (y1 : Int))] G N ad ev 0 0 (fun v e2 => v = some (.int (iI ((mst (sl (R9 0) b0 b1) (sl (R9 1) x0 x1) (sl (R9 2) y0 y1)).2 : Int))) ∧ e2 53 = mO ad lim thr no cmp nl lsz ((rs9 ++ (mst (sl (R9 0) b0 b1) (sl (R9 1) x0 x1) (sl (R9 2) y0 y1)).1).length) ∧ (∃ fr : Nat → Int32, MRes G e2 (rs9 ++ (mst (sl (R9 0) b0 b1) (sl (R9 1) x0 x1) (sl (R9 2) y0 y1)).1) fr) ∧ Fr e2 ev (fun j => j = 53 ∨ j = 61)) := by
  obtain ⟨-, l0, -⟩ := m1.at (j := 0) (by omega)
  obtain ⟨-, l1, -⟩ := m1.at (j := 1) (by omega)
  obtain ⟨-, l2, -⟩ := m1.at (j := 2) (by omega)
  have eb : ((b1 - b0 : Nat) : Int) = (b1 : Int) - (b0 : Int) := by omega
  have ex : ((x1 - x0 : Nat) : Int) = (x1 : Int) - (x0 : Int) := by omega
  have ey : ((y1 - y0 : Nat) : Int) = (y1 : Int) - (y0 : Int) := by omega
  have fb : b0 + (b1 - b0) = b1 := by omega
  have fx : x0 + (x1 - x0) = x1 := by omega
  have fy9 : y0 + (y1 - y0) = y1 := by omega
  have hlx := sl_len (a := x0) hx1
  have hly := sl_len (a := y0) hy1
  refine Ct_of (cc := cX6_between) (maxL := 8) (ret := some .int) (lv := [(0, .ref (ad 53)), (1, .int (iI (b0 : Int))), (2, .int (iI (b1 : Int))), (3, .int (iI (x0 : Int))), (4, .int (iI (x1 : Int))), (5, .int (iI (y0 : Int))), (6, .int (iI (y1 : Int)))]) (by decide) rfl (Nat.le_of_ble_eq_true rfl) rfl ?_
  intro p E s m args below meth c A C hr hnm
  refine n_aload_n C dX6_between_0 0 rfl rfl ?_
  refine n_iconst C dX6_between_1 ?_
  refine n_iload_n C dX6_between_2 3 rfl rfl ?_
  refine n_iload C dX6_between_3 4 rfl ?_
  refine n_iload_n C dX6_between_5 3 rfl rfl ?_
  refine n_isub C dX6_between_6 ?_
  refine n_iconst C dX6_between_7 ?_
  refine n_iload C dX6_between_8 5 rfl ?_
  refine n_iload C dX6_between_10 6 rfl ?_
  refine n_iload C dX6_between_12 5 rfl ?_
  refine n_isub C dX6_between_14 ?_
  refine n_st (st2 := [.int (iI ((y1 - y0 : Nat) : Int)), .int (iI (y0 : Int)), .int (iI 2), .int (iI ((x1 - x0 : Nat) : Int)), .int (iI (x0 : Int)), .int (iI 1), .ref (ad 53)]) (by rw [ex, ey]) ?_
  refine n_callV (rest := []) C dX6_between_15 (TX6_alikeParts l hN k53 m1 (a := 1) (b := 2) (i := x0) (j := y0) (n9 := x1 - x0) (m9 := y1 - y0) (by omega) (by omega) (by omega) (by omega)) (cwV 6 C.2.2.2.2.1 gX6_between_X6_alikeParts rfl rfl rfl cdX6_alikeParts ⟨Nat.le_of_ble_eq_true rfl, Nat.le_of_ble_eq_true rfl⟩) (by omega) k53 rfl rfl rfl (Nat.le_of_ble_eq_true rfl) ⟨Nat.le_of_ble_eq_true rfl, Nat.le_of_ble_eq_true rfl⟩ ?_
  rintro _ _ ⟨rfl, rfl⟩
  refine n_pc (pc2 := 18) rfl (n_st (st2 := [.int (bI (decide (sl (R9 1) x0 (x0 + (x1 - x0)) = sl (R9 2) y0 (y0 + (y1 - y0)))))]) rfl ?_)
  refine n_topI (y := (bI (decide (sl (R9 1) x0 x1 = sl (R9 2) y0 y1)))) (by rw [fx, fy9]) ?_
  refine n_istore (lv' := [(0, .ref (ad 53)), (1, .int (iI (b0 : Int))), (2, .int (iI (b1 : Int))), (3, .int (iI (x0 : Int))), (4, .int (iI (x1 : Int))), (5, .int (iI (y0 : Int))), (6, .int (iI (y1 : Int))), (7, .int (bI (decide (sl (R9 1) x0 x1 = sl (R9 2) y0 y1))))]) C dX6_between_18 (by decide) rfl ?_
  refine n_iload C dX6_between_20 7 rfl ?_
  refine n_if_neB C dX6_between_22 (by decide) (tgt := 45) (fun c1 => ?_) (fun c1 => ?_)
  · refine n_aload_n C dX6_between_45 0 rfl rfl ?_
    refine n_iconst C dX6_between_46 ?_
    refine n_iload_n C dX6_between_47 3 rfl rfl ?_
    refine n_iload C dX6_between_48 4 rfl ?_
    refine n_callV (rest := []) C dX6_between_50 (TX6_copy l hN k53 m1 m4 (a := 1) (x0 := x0) (x1 := x1) (by omega) hx1 (by omega) (by omega)) (cwV 3 C.2.2.2.2.1 gX6_between_X6_copy rfl rfl rfl cdX6_copy ⟨Nat.le_of_ble_eq_true rfl, Nat.le_of_ble_eq_true rfl⟩) (by omega) k53 rfl rfl rfl (Nat.le_of_ble_eq_true rfl) ⟨Nat.le_of_ble_eq_true rfl, Nat.le_of_ble_eq_true rfl⟩ ?_
    rintro _ z1 ⟨rfl, k53, ⟨fr1, m4⟩, hF1⟩
    refine n_pc (pc2 := 53) rfl (n_st (st2 := []) rfl ?_)
    refine n_iconst C dX6_between_53 ?_
    have hm : mst (sl (R9 0) b0 b1) (sl (R9 1) x0 x1) (sl (R9 2) y0 y1) = (sl (R9 1) x0 x1, 0) := by unfold mst; rw [if_pos (Or.inl (of_decide_eq_true c1))]
    exact n_iret C hr dX6_between_54 (by
      rw [hm]
      exact ⟨rfl, k53, ⟨fr1, m4⟩, hF1⟩)
  · refine n_aload_n C dX6_between_25 0 rfl rfl ?_
    refine n_iconst C dX6_between_26 ?_
    refine n_iload_n C dX6_between_27 1 rfl rfl ?_
    refine n_iload_n C dX6_between_28 2 rfl rfl ?_
    refine n_iload_n C dX6_between_29 1 rfl rfl ?_
    refine n_isub C dX6_between_30 ?_
    refine n_iconst C dX6_between_31 ?_
    refine n_iload C dX6_between_32 5 rfl ?_
    refine n_iload C dX6_between_34 6 rfl ?_
    refine n_iload C dX6_between_36 5 rfl ?_
    refine n_isub C dX6_between_38 ?_
    refine n_st (st2 := [.int (iI ((y1 - y0 : Nat) : Int)), .int (iI (y0 : Int)), .int (iI 2), .int (iI ((b1 - b0 : Nat) : Int)), .int (iI (b0 : Int)), .int (iI 0), .ref (ad 53)]) (by rw [eb, ey]) ?_
    refine n_callV (rest := []) C dX6_between_39 (TX6_alikeParts l hN k53 m1 (a := 0) (b := 2) (i := b0) (j := y0) (n9 := b1 - b0) (m9 := y1 - y0) (by omega) (by omega) (by omega) (by omega)) (cwV 6 C.2.2.2.2.1 gX6_between_X6_alikeParts rfl rfl rfl cdX6_alikeParts ⟨Nat.le_of_ble_eq_true rfl, Nat.le_of_ble_eq_true rfl⟩) (by omega) k53 rfl rfl rfl (Nat.le_of_ble_eq_true rfl) ⟨Nat.le_of_ble_eq_true rfl, Nat.le_of_ble_eq_true rfl⟩ ?_
    rintro _ _ ⟨rfl, rfl⟩
    refine n_pc (pc2 := 42) rfl (n_st (st2 := [.int (bI (decide (sl (R9 0) b0 (b0 + (b1 - b0)) = sl (R9 2) y0 (y0 + (y1 - y0)))))]) rfl ?_)
    refine n_topI (y := (bI (decide (sl (R9 0) b0 b1 = sl (R9 2) y0 y1)))) (by rw [fb, fy9]) ?_
    refine n_if_eqB C dX6_between_42 (by decide) (tgt := 55) (fun c2 => ?_) (fun c2 => ?_)
    · have hn : ¬ (sl (R9 1) x0 x1 = sl (R9 2) y0 y1 ∨ sl (R9 2) y0 y1 = sl (R9 0) b0 b1) := fun h => h.elim (of_decide_eq_false c1) (fun h2 => of_decide_eq_false c2 h2.symm)
      refine n_aload_n C dX6_between_55 0 rfl rfl ?_
      refine n_iconst C dX6_between_56 ?_
      refine n_iload_n C dX6_between_57 1 rfl rfl ?_
      refine n_iload_n C dX6_between_58 2 rfl rfl ?_
      refine n_iload_n C dX6_between_59 1 rfl rfl ?_
      refine n_isub C dX6_between_60 ?_
      refine n_iconst C dX6_between_61 ?_
      refine n_iload_n C dX6_between_62 3 rfl rfl ?_
      refine n_iload C dX6_between_63 4 rfl ?_
      refine n_iload_n C dX6_between_65 3 rfl rfl ?_
      refine n_isub C dX6_between_66 ?_
      refine n_st (st2 := [.int (iI ((x1 - x0 : Nat) : Int)), .int (iI (x0 : Int)), .int (iI 1), .int (iI ((b1 - b0 : Nat) : Int)), .int (iI (b0 : Int)), .int (iI 0), .ref (ad 53)]) (by rw [eb, ex]) ?_
      refine n_callV (rest := []) C dX6_between_67 (TX6_alikeParts l hN k53 m1 (a := 0) (b := 1) (i := b0) (j := x0) (n9 := b1 - b0) (m9 := x1 - x0) (by omega) (by omega) (by omega) (by omega)) (cwV 6 C.2.2.2.2.1 gX6_between_X6_alikeParts rfl rfl rfl cdX6_alikeParts ⟨Nat.le_of_ble_eq_true rfl, Nat.le_of_ble_eq_true rfl⟩) (by omega) k53 rfl rfl rfl (Nat.le_of_ble_eq_true rfl) ⟨Nat.le_of_ble_eq_true rfl, Nat.le_of_ble_eq_true rfl⟩ ?_
      rintro _ _ ⟨rfl, rfl⟩
      refine n_pc (pc2 := 70) rfl (n_st (st2 := [.int (bI (decide (sl (R9 0) b0 (b0 + (b1 - b0)) = sl (R9 1) x0 (x0 + (x1 - x0)))))]) rfl ?_)
      refine n_topI (y := (bI (decide (sl (R9 0) b0 b1 = sl (R9 1) x0 x1)))) (by rw [fb, fx]) ?_
      refine n_if_eqB C dX6_between_70 (by decide) (tgt := 84) (fun c3 => ?_) (fun c3 => ?_)
      · have hm : mst (sl (R9 0) b0 b1) (sl (R9 1) x0 x1) (sl (R9 2) y0 y1) = ([iI (-1)] ++ sl (R9 1) x0 x1 ++ [iI (-2)] ++ sl (R9 2) y0 y1 ++ [iI (-3)], 1) := by unfold mst; rw [if_neg hn, if_neg (fun h2 => of_decide_eq_false c3 h2.symm)]
        refine n_aload_n C dX6_between_84 0 rfl rfl ?_
        refine n_iconst C dX6_between_85 ?_
        refine n_callV (rest := []) C dX6_between_86 (TX6_take l hN k53 m4 (by first | omega | (simp only [List.length_append, List.length_cons, List.length_nil]; omega)) (x := iI (-1))) (cwV 1 C.2.2.2.2.1 gX6_between_X6_take rfl rfl rfl cdX6_take ⟨Nat.le_of_ble_eq_true rfl, Nat.le_of_ble_eq_true rfl⟩) (by omega) k53 rfl rfl rfl (Nat.le_of_ble_eq_true rfl) ⟨Nat.le_of_ble_eq_true rfl, Nat.le_of_ble_eq_true rfl⟩ ?_
        rintro _ z1 ⟨rfl, k53, ⟨fr1, m4⟩, hF1⟩
        refine n_pc (pc2 := 89) rfl (n_st (st2 := []) rfl ?_)
        have m1 := m1.fr hF1 (by omega) (by omega)
        have k53 : z1 53 = mO ad lim thr no cmp nl lsz ((rs9 ++ [iI (-1)]).length) := by rw [k53, List.length_append (bs := [iI (-1)])]; rfl
        refine n_aload_n C dX6_between_89 0 rfl rfl ?_
        refine n_iconst C dX6_between_90 ?_
        refine n_iload_n C dX6_between_91 3 rfl rfl ?_
        refine n_iload C dX6_between_92 4 rfl ?_
        refine n_callV (rest := []) C dX6_between_94 (TX6_copy l hN k53 m1 m4 (a := 1) (x0 := x0) (x1 := x1) (by omega) hx1 (by simp only [List.length_append, List.length_cons, List.length_nil]; omega) (by omega)) (cwV 3 C.2.2.2.2.1 gX6_between_X6_copy rfl rfl rfl cdX6_copy ⟨Nat.le_of_ble_eq_true rfl, Nat.le_of_ble_eq_true rfl⟩) (by omega) k53 rfl rfl rfl (Nat.le_of_ble_eq_true rfl) ⟨Nat.le_of_ble_eq_true rfl, Nat.le_of_ble_eq_true rfl⟩ ?_
        rintro _ z2 ⟨rfl, k53, ⟨fr2, m4⟩, hF2⟩
        refine n_pc (pc2 := 97) rfl (n_st (st2 := []) rfl ?_)
        have m1 := m1.fr hF2 (by omega) (by omega)
        refine n_aload_n C dX6_between_97 0 rfl rfl ?_
        refine n_bipush C dX6_between_98 (by decide) ?_
        refine n_callV (rest := []) C dX6_between_100 (TX6_take l hN k53 m4 (by first | omega | (simp only [List.length_append, List.length_cons, List.length_nil]; omega)) (x := iI (-2))) (cwV 1 C.2.2.2.2.1 gX6_between_X6_take rfl rfl rfl cdX6_take ⟨Nat.le_of_ble_eq_true rfl, Nat.le_of_ble_eq_true rfl⟩) (by omega) k53 rfl rfl rfl (Nat.le_of_ble_eq_true rfl) ⟨Nat.le_of_ble_eq_true rfl, Nat.le_of_ble_eq_true rfl⟩ ?_
        rintro _ z3 ⟨rfl, k53, ⟨fr3, m4⟩, hF3⟩
        refine n_pc (pc2 := 103) rfl (n_st (st2 := []) rfl ?_)
        have m1 := m1.fr hF3 (by omega) (by omega)
        have k53 : z3 53 = mO ad lim thr no cmp nl lsz ((rs9 ++ [iI (-1)] ++ sl (R9 1) x0 x1 ++ [iI (-2)]).length) := by rw [k53, List.length_append (bs := [iI (-2)])]; rfl
        refine n_aload_n C dX6_between_103 0 rfl rfl ?_
        refine n_iconst C dX6_between_104 ?_
        refine n_iload C dX6_between_105 5 rfl ?_
        refine n_iload C dX6_between_107 6 rfl ?_
        refine n_callV (rest := []) C dX6_between_109 (TX6_copy l hN k53 m1 m4 (a := 2) (x0 := y0) (x1 := y1) (by omega) hy1 (by simp only [List.length_append, List.length_cons, List.length_nil]; omega) (by omega)) (cwV 3 C.2.2.2.2.1 gX6_between_X6_copy rfl rfl rfl cdX6_copy ⟨Nat.le_of_ble_eq_true rfl, Nat.le_of_ble_eq_true rfl⟩) (by omega) k53 rfl rfl rfl (Nat.le_of_ble_eq_true rfl) ⟨Nat.le_of_ble_eq_true rfl, Nat.le_of_ble_eq_true rfl⟩ ?_
        rintro _ z4 ⟨rfl, k53, ⟨fr4, m4⟩, hF4⟩
        refine n_pc (pc2 := 112) rfl (n_st (st2 := []) rfl ?_)
        have m1 := m1.fr hF4 (by omega) (by omega)
        refine n_aload_n C dX6_between_112 0 rfl rfl ?_
        refine n_bipush C dX6_between_113 (by decide) ?_
        refine n_callV (rest := []) C dX6_between_115 (TX6_take l hN k53 m4 (by first | omega | (simp only [List.length_append, List.length_cons, List.length_nil]; omega)) (x := iI (-3))) (cwV 1 C.2.2.2.2.1 gX6_between_X6_take rfl rfl rfl cdX6_take ⟨Nat.le_of_ble_eq_true rfl, Nat.le_of_ble_eq_true rfl⟩) (by omega) k53 rfl rfl rfl (Nat.le_of_ble_eq_true rfl) ⟨Nat.le_of_ble_eq_true rfl, Nat.le_of_ble_eq_true rfl⟩ ?_
        rintro _ z5 ⟨rfl, k53, ⟨fr5, m4⟩, hF5⟩
        refine n_pc (pc2 := 118) rfl (n_st (st2 := []) rfl ?_)
        have m1 := m1.fr hF5 (by omega) (by omega)
        have k53 : z5 53 = mO ad lim thr no cmp nl lsz ((rs9 ++ [iI (-1)] ++ sl (R9 1) x0 x1 ++ [iI (-2)] ++ sl (R9 2) y0 y1 ++ [iI (-3)]).length) := by rw [k53, List.length_append (bs := [iI (-3)])]; rfl
        refine n_iconst C dX6_between_118 ?_
        exact n_iret C hr dX6_between_119 (by
          have he : rs9 ++ (mst (sl (R9 0) b0 b1) (sl (R9 1) x0 x1) (sl (R9 2) y0 y1)).1 = rs9 ++ [iI (-1)] ++ sl (R9 1) x0 x1 ++ [iI (-2)] ++ sl (R9 2) y0 y1 ++ [iI (-3)] := by rw [hm]; simp only [List.append_assoc]
          rw [he, hm]
          exact ⟨rfl, k53, ⟨fr5, m4⟩, fun j9 hj9 => (hF5 j9 hj9).trans ((hF4 j9 hj9).trans ((hF3 j9 hj9).trans ((hF2 j9 hj9).trans (hF1 j9 hj9))))⟩)
      · refine n_aload_n C dX6_between_73 0 rfl rfl ?_
        refine n_iconst C dX6_between_74 ?_
        refine n_iload C dX6_between_75 5 rfl ?_
        refine n_iload C dX6_between_77 6 rfl ?_
        refine n_callV (rest := []) C dX6_between_79 (TX6_copy l hN k53 m1 m4 (a := 2) (x0 := y0) (x1 := y1) (by omega) hy1 (by omega) (by omega)) (cwV 3 C.2.2.2.2.1 gX6_between_X6_copy rfl rfl rfl cdX6_copy ⟨Nat.le_of_ble_eq_true rfl, Nat.le_of_ble_eq_true rfl⟩) (by omega) k53 rfl rfl rfl (Nat.le_of_ble_eq_true rfl) ⟨Nat.le_of_ble_eq_true rfl, Nat.le_of_ble_eq_true rfl⟩ ?_
        rintro _ z1 ⟨rfl, k53, ⟨fr1, m4⟩, hF1⟩
        refine n_pc (pc2 := 82) rfl (n_st (st2 := []) rfl ?_)
        refine n_iconst C dX6_between_82 ?_
        have hm : mst (sl (R9 0) b0 b1) (sl (R9 1) x0 x1) (sl (R9 2) y0 y1) = (sl (R9 2) y0 y1, 0) := by unfold mst; rw [if_neg hn, if_pos (of_decide_eq_true c3).symm]
        exact n_iret C hr dX6_between_83 (by
          rw [hm]
          exact ⟨rfl, k53, ⟨fr1, m4⟩, hF1⟩)
    · refine n_aload_n C dX6_between_45 0 rfl rfl ?_
      refine n_iconst C dX6_between_46 ?_
      refine n_iload_n C dX6_between_47 3 rfl rfl ?_
      refine n_iload C dX6_between_48 4 rfl ?_
      refine n_callV (rest := []) C dX6_between_50 (TX6_copy l hN k53 m1 m4 (a := 1) (x0 := x0) (x1 := x1) (by omega) hx1 (by omega) (by omega)) (cwV 3 C.2.2.2.2.1 gX6_between_X6_copy rfl rfl rfl cdX6_copy ⟨Nat.le_of_ble_eq_true rfl, Nat.le_of_ble_eq_true rfl⟩) (by omega) k53 rfl rfl rfl (Nat.le_of_ble_eq_true rfl) ⟨Nat.le_of_ble_eq_true rfl, Nat.le_of_ble_eq_true rfl⟩ ?_
      rintro _ z1 ⟨rfl, k53, ⟨fr1, m4⟩, hF1⟩
      refine n_pc (pc2 := 53) rfl (n_st (st2 := []) rfl ?_)
      refine n_iconst C dX6_between_53 ?_
      have hm : mst (sl (R9 0) b0 b1) (sl (R9 1) x0 x1) (sl (R9 2) y0 y1) = (sl (R9 1) x0 x1, 0) := by unfold mst; rw [if_pos (Or.inr (of_decide_eq_true c2).symm)]
      exact n_iret C hr dX6_between_54 (by
        rw [hm]
        exact ⟨rfl, k53, ⟨fr1, m4⟩, hF1⟩)

set_option maxHeartbeats 4000000 in
set_option maxRecDepth 100000 in
theorem TX6_merge (l : Launch) {G : GG} {N : Nat} {ad : Nat → Nat} {ev : Nat → va_E} {lim thr : Int} {R9 : Nat → List Int32} {ops : List Tr} {ls : List Op} {lsz : Nat} {rs9 : List Int32} (hN : 66 ≤ N) (hM : MdlAt G ad ev lim thr R9 ops ls lsz rs9) : Ct l yX6_merge wsX6_merge rmX6_merge [.ref (ad 53)] G N ad ev 0 0 (fun v e2 => v = some (.int (iI ((mrg (R9 0) (R9 1) (R9 2)).2 : Int))) ∧ MdlAt G ad e2 lim 0 R9 ops ls lsz (mrg (R9 0) (R9 1) (R9 2)).1 ∧ Fr e2 ev (fun j => 53 ≤ j ∧ j < 66)) := by
  obtain ⟨cmp, fz, fy, fk, fp, fs, mk, mp, fr, fq, w1, w2, fd, hbb, k53, m1, m2, m3, m4, m5⟩ := hM
  obtain ⟨hli1, hli2, hlsz, hcmp⟩ := hbb
  have ok1 := okW_kp (R9 0) (R9 1)
  have ok2 := okW_kp (R9 0) (R9 2)
  refine Ct_of (cc := cX6_merge) (maxL := 9) (ret := some .int) (lv := [(0, .ref (ad 53))]) (by decide) rfl (Nat.le_of_ble_eq_true rfl) rfl ?_
  intro p E s m args below meth c A C hr hnm
  refine n_aload_n C dX6_merge_0 0 rfl rfl ?_
  refine n_iconst C dX6_merge_1 ?_
  refine n_put (k9 := 1) (fs2 := [.int (iI lim), .int (iI 0), .ref (ad 54), .ref (ad 55), .int (iI (ops.length : Int)), .ref (ad 56), .ref (ad 57), .ref (ad 58), .int (bI cmp), .int (iI (ls.length : Int)), .int (iI (lsz : Int)), .ref (ad 59), .ref (ad 60), .int (iI (rs9.length : Int)), .ref (ad 61), .ref (ad 62), .ref (ad 63), .ref (ad 64), .ref (ad 65)]) C dX6_merge_2 (by omega) k53 hX6_merge_X6 tyX6_ok nmX6 rfl (by decide) kX6_merge_50 rfl rfl rfl (Nat.le_of_ble_eq_true rfl) rfl (fun e1 hs2 ho3 => ?_)
  have hP4 : Fr e1 _ (fun j => j = 53) := fun j hj => ho3 j hj
  have m1 := m1.fr hP4 (by omega) (by omega)
  have m2 := m2.fr hP4 (by omega) (by omega) (by omega)
  have m3 := m3.fr hP4 (by omega) (by omega)
  have m4 := m4.fr hP4 (by omega)
  have m5 := m5.fr hP4 (by omega) (by omega) (by omega) (by omega)
  have k53 := hs2
  refine n_aload_n C dX6_merge_5 0 rfl rfl ?_
  refine n_iconst C dX6_merge_6 ?_
  refine n_aload_n C dX6_merge_7 0 rfl rfl ?_
  refine n_get (k9 := 16) C dX6_merge_8 (by omega) k53 hX6_merge_X6 rfl (by decide) kX6_merge_37 rfl ?_
  refine n_callV (rest := []) C dX6_merge_11 (TX6_keep l hN k53 m1 (b := 1) (by omega) m5.1 (wc := 63) (Or.inl rfl) m5.2.1) (cwV 2 C.2.2.2.2.1 gX6_merge_X6_keep rfl rfl rfl cdX6_keep ⟨Nat.le_of_ble_eq_true rfl, Nat.le_of_ble_eq_true rfl⟩) (by omega) k53 rfl rfl rfl (Nat.le_of_ble_eq_true rfl) ⟨Nat.le_of_ble_eq_true rfl, Nat.le_of_ble_eq_true rfl⟩ ?_
  rintro _ e1 ⟨rfl, ⟨fq1, k62⟩, ⟨v1, kw1, hw1⟩, hF1⟩
  refine n_pc (pc2 := 14) rfl (n_st (st2 := []) rfl ?_)
  have k53 := (hF1 53 (by omega)).trans k53
  have m1 := m1.fr hF1 (by omega) (by omega)
  have m2 := m2.fr hF1 (by omega) (by omega) (by omega)
  have m3 := m3.fr hF1 (by omega) (by omega)
  have m4 := m4.fr hF1 (by omega)
  have k64 := (hF1 64 (by omega)).trans m5.2.2.1
  have k65 := (hF1 65 (by omega)).trans m5.2.2.2
  refine n_aload_n C dX6_merge_14 0 rfl rfl ?_
  refine n_iconst C dX6_merge_15 ?_
  refine n_aload_n C dX6_merge_16 0 rfl rfl ?_
  refine n_get (k9 := 17) C dX6_merge_17 (by omega) k53 hX6_merge_X6 rfl (by decide) kX6_merge_40 rfl ?_
  refine n_callV (rest := []) C dX6_merge_20 (TX6_keep l hN k53 m1 (b := 2) (by omega) k62 (wc := 64) (Or.inr rfl) k64) (cwV 2 C.2.2.2.2.1 gX6_merge_X6_keep rfl rfl rfl cdX6_keep ⟨Nat.le_of_ble_eq_true rfl, Nat.le_of_ble_eq_true rfl⟩) (by omega) k53 rfl rfl rfl (Nat.le_of_ble_eq_true rfl) ⟨Nat.le_of_ble_eq_true rfl, Nat.le_of_ble_eq_true rfl⟩ ?_
  rintro _ e2 ⟨rfl, ⟨fq2, k62⟩, ⟨v2, kw2, hw2⟩, hF2⟩
  refine n_pc (pc2 := 23) rfl (n_st (st2 := []) rfl ?_)
  have k53 := (hF2 53 (by omega)).trans k53
  have m1 := m1.fr hF2 (by omega) (by omega)
  have m2 := m2.fr hF2 (by omega) (by omega) (by omega)
  have m3 := m3.fr hF2 (by omega) (by omega)
  have m4 := m4.fr hF2 (by omega)
  have kw1 := (hF2 63 (by omega)).trans kw1
  have k65 := (hF2 65 (by omega)).trans k65
  have m5 : MWrk G e2 fq2 v1 v2 fd := ⟨k62, kw1, kw2, k65⟩
  refine n_aload_n C dX6_merge_23 0 rfl rfl ?_
  refine n_iconst C dX6_merge_24 ?_
  refine n_put (k9 := 13) (fs2 := [.int (iI lim), .int (iI 0), .ref (ad 54), .ref (ad 55), .int (iI (ops.length : Int)), .ref (ad 56), .ref (ad 57), .ref (ad 58), .int (bI cmp), .int (iI (ls.length : Int)), .int (iI (lsz : Int)), .ref (ad 59), .ref (ad 60), .int (iI 0), .ref (ad 61), .ref (ad 62), .ref (ad 63), .ref (ad 64), .ref (ad 65)]) C dX6_merge_25 (by omega) k53 hX6_merge_X6 tyX6_ok nmX6 rfl (by decide) kX6_merge_90 rfl rfl rfl (Nat.le_of_ble_eq_true rfl) rfl (fun e5 hs6 ho7 => ?_)
  have hP8 : Fr e5 _ (fun j => j = 53) := fun j hj => ho7 j hj
  have m1 := m1.fr hP8 (by omega) (by omega)
  have m2 := m2.fr hP8 (by omega) (by omega) (by omega)
  have m3 := m3.fr hP8 (by omega) (by omega)
  have m4 := m4.fr hP8 (by omega)
  have m5 := m5.fr hP8 (by omega) (by omega) (by omega) (by omega)
  refine n_iconst C dX6_merge_28 ?_
  refine n_istore_n (lv' := [(0, .ref (ad 53)), (1, .int (iI 0))]) C dX6_merge_29 rfl (by decide) rfl ?_
  refine n_iconst C dX6_merge_30 ?_
  refine n_istore_n (lv' := [(0, .ref (ad 53)), (1, .int (iI 0)), (2, .int (iI 0))]) C dX6_merge_31 rfl (by decide) rfl ?_
  refine n_iconst C dX6_merge_32 ?_
  refine n_istore_n (lv' := [(0, .ref (ad 53)), (1, .int (iI 0)), (2, .int (iI 0)), (3, .int (iI 0))]) C dX6_merge_33 rfl (by decide) rfl ?_
  refine n_iconst C dX6_merge_34 ?_
  refine n_istore (lv' := [(0, .ref (ad 53)), (1, .int (iI 0)), (2, .int (iI 0)), (3, .int (iI 0)), (4, .int (iI 0))]) C dX6_merge_35 (by decide) rfl ?_
  refine n_iconst C dX6_merge_37 ?_
  refine n_istore (lv' := [(0, .ref (ad 53)), (1, .int (iI 0)), (2, .int (iI 0)), (3, .int (iI 0)), (4, .int (iI 0)), (5, .int (iI 0))]) C dX6_merge_38 (by decide) rfl ?_
  have hF0 : Fr e5 ev (fun j => 53 ≤ j ∧ j < 66) := fun j hj => (((hP8 j (by omega)).trans (hF2 j (by omega))).trans (hF1 j (by omega))).trans (hP4 j (by omega))
  have m4 : MRes G e5 [] fr := ⟨m4.1, fun j hj => absurd hj (Nat.not_lt_zero j), Nat.zero_le _⟩
  have loop : ∀ (n9 : Nat) (k b x y cf : Nat) (zs : List Int32) (fr : Nat → Int32) (ex : Nat → va_E), (R9 0).length + 1 - k < n9 → (k ≤ (R9 0).length) → (b ≤ k) → (frW (kp (R9 0) (R9 1) 0 0) (R9 1).length k x) → (frW (kp (R9 0) (R9 2) 0 0) (R9 2).length k y) → (zs ++ (mg (R9 0) (R9 1) (R9 2) (kp (R9 0) (R9 1) 0 0) (kp (R9 0) (R9 2) 0 0) k b x y).1 = (mrg (R9 0) (R9 1) (R9 2)).1) → (cf + (mg (R9 0) (R9 1) (R9 2) (kp (R9 0) (R9 1) 0 0) (kp (R9 0) (R9 2) 0 0) k b x y).2 = (mrg (R9 0) (R9 1) (R9 2)).2) → (zs.length ≤ x + y + 2 * k) → (ex 53 = mO ad lim 0 ops.length cmp ls.length lsz zs.length) → (MRows G ex R9 fz fy) → (MOps G ex ops fk fp fs) → (MMade G ex ls mk mp) → (MRes G ex zs fr) → (MWrk G ex fq2 v1 v2 fd) → (Fr ex ev (fun j => 53 ≤ j ∧ j < 66)) → V p l E rmX6_merge s m args below meth c G A 9 (MQ below (Qg G N ad A (fun v e2 => v = some (.int (iI ((mrg (R9 0) (R9 1) (R9 2)).2 : Int))) ∧ MdlAt G ad e2 lim 0 R9 ops ls lsz (mrg (R9 0) (R9 1) (R9 2)).1 ∧ Fr e2 ev (fun j => 53 ≤ j ∧ j < 66))) args s 0 0 A) N ad ex 0 0 40 [(0, .ref (ad 53)), (1, .int (iI (cf : Int))), (2, .int (iI (b : Int))), (3, .int (iI (x : Int))), (4, .int (iI (y : Int))), (5, .int (iI (k : Int)))] [] := by
    intro n9
    induction n9 with
    | zero =>
      intro k b x y cf zs fr ex hm9
      exact absurd hm9 (Nat.not_lt_zero _)
    | succ n9 ih =>
      intro k b x y cf zs fr ex hm9 hk hbk fx fy9 hz hcf hzl k53 m1 m2 m3 m4 m5 hF
      obtain ⟨z0, l0, y0⟩ := m1.at (j := 0) (by omega)
      obtain ⟨z1, l1, y1⟩ := m1.at (j := 1) (by omega)
      obtain ⟨z2, l2, y2⟩ := m1.at (j := 2) (by omega)
      have fx1 := fx.1
      have fy1 := fy9.1
      refine n_iload C dX6_merge_40 5 rfl ?_
      refine n_aload_n C dX6_merge_42 0 rfl rfl ?_
      refine n_get (k9 := 2) C dX6_merge_43 (by omega) k53 hX6_merge_X6 rfl (by decide) kX6_merge_7 rfl ?_
      refine n_iconst C dX6_merge_46 ?_
      refine n_iald (j := 0) C dX6_merge_47 (by omega) m1.1 (by omega) (by omega) (by omega) ?_
      refine n_topI (y := (iI ((R9 0).length : Int))) (z0) ?_
      refine n_icmp_gt C dX6_merge_48 (by decide) (by omega) (by omega) (by omega) (by omega) (tgt := 199) (fun c9 => absurd c9 (by omega)) (fun _ => ?_)
      refine n_iload C dX6_merge_51 5 rfl ?_
      refine n_aload_n C dX6_merge_53 0 rfl rfl ?_
      refine n_get (k9 := 2) C dX6_merge_54 (by omega) k53 hX6_merge_X6 rfl (by decide) kX6_merge_7 rfl ?_
      refine n_iconst C dX6_merge_57 ?_
      refine n_iald (j := 0) C dX6_merge_58 (by omega) m1.1 (by omega) (by omega) (by omega) ?_
      refine n_topI (y := (iI ((R9 0).length : Int))) (z0) ?_
      refine n_icmp_ne C dX6_merge_59 (by decide) (by omega) (by omega) (by omega) (by omega) (tgt := 66) (fun c1 => ?_) (fun c1 => ?_)
      · obtain ⟨p9, hp9⟩ := some_of_lt (show k < (kp (R9 0) (R9 1) 0 0).length by rw [ok1.1]; omega)
        obtain ⟨q9, hq9⟩ := some_of_lt (show k < (kp (R9 0) (R9 2) 0 0).length by rw [ok2.1]; omega)
        have bp := ok1.2.1 k p9 hp9
        have bq := ok2.2.1 k q9 hq9
        have wp := hw1 k p9 hp9
        have wq := hw2 k q9 hq9
        refine n_iconst C dX6_merge_66 ?_
        refine n_istore (lv' := [(0, .ref (ad 53)), (1, .int (iI (cf : Int))), (2, .int (iI (b : Int))), (3, .int (iI (x : Int))), (4, .int (iI (y : Int))), (5, .int (iI (k : Int))), (6, .int (iI 0))]) C dX6_merge_67 (by decide) rfl ?_
        refine n_iload C dX6_merge_69 6 rfl ?_
        refine n_if_ne C dX6_merge_71 (by decide) (by omega) (by omega) (tgt := 94) (fun c9 => absurd c9 (by omega)) (fun _ => ?_)
        refine n_aload_n C dX6_merge_74 0 rfl rfl ?_
        refine n_get (k9 := 16) C dX6_merge_75 (by omega) k53 hX6_merge_X6 rfl (by decide) kX6_merge_37 rfl ?_
        refine n_iload C dX6_merge_78 5 rfl ?_
        refine n_iald (j := k) C dX6_merge_80 (by omega) m5.2.1 (by omega) (by omega) (by omega) ?_
        refine n_topI (y := (iI (p9 + 1))) (wp) ?_
        refine n_if_le C dX6_merge_81 (by decide) (by omega) (by omega) (tgt := 193) (fun c2 => ?_) (fun c2 => ?_)
        · rw [mg_no (by omega) hp9 hq9 (by omega)] at hz hcf
          refine n_iinc (lv' := [(0, .ref (ad 53)), (1, .int (iI (cf : Int))), (2, .int (iI (b : Int))), (3, .int (iI (x : Int))), (4, .int (iI (y : Int))), (5, .int (iI ((k : Int) + 1))), (6, .int (iI 0))]) C dX6_merge_193 5 rfl (by decide) rfl ?_
          refine n_goto (tgt := 40) C dX6_merge_196 (by decide) ?_
          refine n_sub (lv2 := [(0, .ref (ad 53)), (1, .int (iI (cf : Int))), (2, .int (iI (b : Int))), (3, .int (iI (x : Int))), (4, .int (iI (y : Int))), (5, .int (iI ((k : Int) + 1)))]) [0, 1, 2, 3, 4, 5] rfl ?_
          refine n_lv (lv2 := [(0, .ref (ad 53)), (1, .int (iI (cf : Int))), (2, .int (iI (b : Int))), (3, .int (iI (x : Int))), (4, .int (iI (y : Int))), (5, .int (iI ((k + 1 : Nat) : Int)))]) (by simp) ?_
          exact ih (k + 1) b x y cf zs fr ex (by omega) (by omega) (by omega) (frW_no fx) (frW_no fy9) hz hcf (by omega) k53 m1 m2 m3 m4 m5 hF
        · refine n_aload_n C dX6_merge_84 0 rfl rfl ?_
          refine n_get (k9 := 17) C dX6_merge_85 (by omega) k53 hX6_merge_X6 rfl (by decide) kX6_merge_40 rfl ?_
          refine n_iload C dX6_merge_88 5 rfl ?_
          refine n_iald (j := k) C dX6_merge_90 (by omega) m5.2.2.1 (by omega) (by omega) (by omega) ?_
          refine n_topI (y := (iI (q9 + 1))) (wq) ?_
          refine n_if_le C dX6_merge_91 (by decide) (by omega) (by omega) (tgt := 193) (fun c3 => ?_) (fun c3 => ?_)
          · rw [mg_no (by omega) hp9 hq9 (by omega)] at hz hcf
            refine n_iinc (lv' := [(0, .ref (ad 53)), (1, .int (iI (cf : Int))), (2, .int (iI (b : Int))), (3, .int (iI (x : Int))), (4, .int (iI (y : Int))), (5, .int (iI ((k : Int) + 1))), (6, .int (iI 0))]) C dX6_merge_193 5 rfl (by decide) rfl ?_
            refine n_goto (tgt := 40) C dX6_merge_196 (by decide) ?_
            refine n_sub (lv2 := [(0, .ref (ad 53)), (1, .int (iI (cf : Int))), (2, .int (iI (b : Int))), (3, .int (iI (x : Int))), (4, .int (iI (y : Int))), (5, .int (iI ((k : Int) + 1)))]) [0, 1, 2, 3, 4, 5] rfl ?_
            refine n_lv (lv2 := [(0, .ref (ad 53)), (1, .int (iI (cf : Int))), (2, .int (iI (b : Int))), (3, .int (iI (x : Int))), (4, .int (iI (y : Int))), (5, .int (iI ((k + 1 : Nat) : Int)))]) (by simp) ?_
            exact ih (k + 1) b x y cf zs fr ex (by omega) (by omega) (by omega) (frW_no fx) (frW_no fy9) hz hcf (by omega) k53 m1 m2 m3 m4 m5 hF
          · have gx := fx.2 k p9 (Nat.le_refl k) hp9 (by omega)
            have gy := fy9.2 k q9 (Nat.le_refl k) hq9 (by omega)
            obtain ⟨p, rfl⟩ : ∃ p : Nat, p9 = (p : Int) := ⟨p9.toNat, by omega⟩
            obtain ⟨q, rfl⟩ : ∃ q : Nat, q9 = (q : Int) := ⟨q9.toNat, by omega⟩
            have hg9 := y0 k (by omega)
            rw [Nat.mul_zero, Nat.zero_add] at hg9
            rw [mg_st (by omega) hp9 hq9 hg9] at hz hcf
            have hm9 := (mst_le (sl (R9 0) b k) (sl (R9 1) x p) (sl (R9 2) y q)).1
            rw [sl_len (by omega), sl_len (by omega)] at hm9
            refine n_iload C dX6_merge_94 6 rfl ?_
            refine n_if_eq C dX6_merge_96 (by decide) (by omega) (by omega) (tgt := 108) (fun _ => ?_) (fun c9 => absurd c9 (by omega))
            refine n_aload_n C dX6_merge_108 0 rfl rfl ?_
            refine n_get (k9 := 16) C dX6_merge_109 (by omega) k53 hX6_merge_X6 rfl (by decide) kX6_merge_37 rfl ?_
            refine n_iload C dX6_merge_112 5 rfl ?_
            refine n_iald (j := k) C dX6_merge_114 (by omega) m5.2.1 (by omega) (by omega) (by omega) ?_
            refine n_topI (y := (iI ((p : Int) + 1))) (wp) ?_
            refine n_iconst C dX6_merge_115 ?_
            refine n_isub C dX6_merge_116 ?_
            refine n_topI (y := iI (p : Int)) (by congr 1; omega) ?_
            refine n_istore (lv' := [(0, .ref (ad 53)), (1, .int (iI (cf : Int))), (2, .int (iI (b : Int))), (3, .int (iI (x : Int))), (4, .int (iI (y : Int))), (5, .int (iI (k : Int))), (6, .int (iI 0)), (7, .int (iI (p : Int)))]) C dX6_merge_117 (by decide) rfl ?_
            refine n_iload C dX6_merge_119 6 rfl ?_
            refine n_if_eq C dX6_merge_121 (by decide) (by omega) (by omega) (tgt := 133) (fun _ => ?_) (fun c9 => absurd c9 (by omega))
            refine n_aload_n C dX6_merge_133 0 rfl rfl ?_
            refine n_get (k9 := 17) C dX6_merge_134 (by omega) k53 hX6_merge_X6 rfl (by decide) kX6_merge_40 rfl ?_
            refine n_iload C dX6_merge_137 5 rfl ?_
            refine n_iald (j := k) C dX6_merge_139 (by omega) m5.2.2.1 (by omega) (by omega) (by omega) ?_
            refine n_topI (y := (iI ((q : Int) + 1))) (wq) ?_
            refine n_iconst C dX6_merge_140 ?_
            refine n_isub C dX6_merge_141 ?_
            refine n_topI (y := iI (q : Int)) (by congr 1; omega) ?_
            refine n_istore (lv' := [(0, .ref (ad 53)), (1, .int (iI (cf : Int))), (2, .int (iI (b : Int))), (3, .int (iI (x : Int))), (4, .int (iI (y : Int))), (5, .int (iI (k : Int))), (6, .int (iI 0)), (7, .int (iI (p : Int))), (8, .int (iI (q : Int)))]) C dX6_merge_142 (by decide) rfl ?_
            refine n_iload_n C dX6_merge_144 1 rfl rfl ?_
            refine n_aload_n C dX6_merge_145 0 rfl rfl ?_
            refine n_iload_n C dX6_merge_146 2 rfl rfl ?_
            refine n_iload C dX6_merge_147 5 rfl ?_
            refine n_iload_n C dX6_merge_149 3 rfl rfl ?_
            refine n_iload C dX6_merge_150 7 rfl ?_
            refine n_iload C dX6_merge_152 4 rfl ?_
            refine n_iload C dX6_merge_154 8 rfl ?_
            refine n_callV (rest := [.int (iI (cf : Int))]) C dX6_merge_156 (TX6_between l hN k53 m1 m4 (b0 := b) (b1 := k) (x0 := x) (x1 := p) (y0 := y) (y1 := q) (by omega) (by omega) (by omega) (by omega) (by omega) (by omega) (by omega)) (cwV 6 C.2.2.2.2.1 gX6_merge_X6_between rfl rfl rfl cdX6_between ⟨Nat.le_of_ble_eq_true rfl, Nat.le_of_ble_eq_true rfl⟩) (by omega) k53 rfl rfl rfl (Nat.le_of_ble_eq_true rfl) ⟨Nat.le_of_ble_eq_true rfl, Nat.le_of_ble_eq_true rfl⟩ ?_
            rintro _ e3 ⟨rfl, k53, ⟨fr3, m4⟩, hF3⟩
            refine n_pc (pc2 := 159) rfl (n_st (st2 := [.int (iI ((mst (sl (R9 0) b k) (sl (R9 1) x p) (sl (R9 2) y q)).2 : Int)), .int (iI (cf : Int))]) rfl ?_)
            have m1 := m1.fr hF3 (by omega) (by omega)
            have m2 := m2.fr hF3 (by omega) (by omega) (by omega)
            have m3 := m3.fr hF3 (by omega) (by omega)
            have m5 := m5.fr hF3 (by omega) (by omega) (by omega) (by omega)
            refine n_iadd C dX6_merge_159 ?_
            refine n_istore_n (lv' := [(0, .ref (ad 53)), (1, .int (iI ((cf : Int) + ((mst (sl (R9 0) b k) (sl (R9 1) x p) (sl (R9 2) y q)).2 : Int)))), (2, .int (iI (b : Int))), (3, .int (iI (x : Int))), (4, .int (iI (y : Int))), (5, .int (iI (k : Int))), (6, .int (iI 0)), (7, .int (iI (p : Int))), (8, .int (iI (q : Int)))]) C dX6_merge_160 rfl (by decide) rfl ?_
            refine n_iload C dX6_merge_161 6 rfl ?_
            refine n_if_ne C dX6_merge_163 (by decide) (by omega) (by omega) (tgt := 177) (fun c9 => absurd c9 (by omega)) (fun _ => ?_)
            refine n_aload_n C dX6_merge_166 0 rfl rfl ?_
            refine n_aload_n C dX6_merge_167 0 rfl rfl ?_
            refine n_get (k9 := 3) C dX6_merge_168 (by omega) k53 hX6_merge_X6 rfl (by decide) kX6_merge_13 rfl ?_
            refine n_iload C dX6_merge_171 5 rfl ?_
            refine n_iald (j := k) C dX6_merge_173 (by omega) m1.2.1 (by omega) (by omega) (by omega) ?_
            refine n_callV (rest := []) C dX6_merge_174 (TX6_take l hN k53 m4 (by rw [List.length_append]; omega) (x := fy k)) (cwV 1 C.2.2.2.2.1 gX6_merge_X6_take rfl rfl rfl cdX6_take ⟨Nat.le_of_ble_eq_true rfl, Nat.le_of_ble_eq_true rfl⟩) (by omega) k53 rfl rfl rfl (Nat.le_of_ble_eq_true rfl) ⟨Nat.le_of_ble_eq_true rfl, Nat.le_of_ble_eq_true rfl⟩ ?_
            rintro _ e4 ⟨rfl, k53, ⟨fr4, m4⟩, hF4⟩
            refine n_pc (pc2 := 177) rfl (n_st (st2 := []) rfl ?_)
            have m1 := m1.fr hF4 (by omega) (by omega)
            have m2 := m2.fr hF4 (by omega) (by omega) (by omega)
            have m3 := m3.fr hF4 (by omega) (by omega)
            have m5 := m5.fr hF4 (by omega) (by omega) (by omega) (by omega)
            refine n_iload C dX6_merge_177 5 rfl ?_
            refine n_iconst C dX6_merge_179 ?_
            refine n_iadd C dX6_merge_180 ?_
            refine n_istore_n (lv' := [(0, .ref (ad 53)), (1, .int (iI ((cf : Int) + ((mst (sl (R9 0) b k) (sl (R9 1) x p) (sl (R9 2) y q)).2 : Int)))), (2, .int (iI ((k : Int) + 1))), (3, .int (iI (x : Int))), (4, .int (iI (y : Int))), (5, .int (iI (k : Int))), (6, .int (iI 0)), (7, .int (iI (p : Int))), (8, .int (iI (q : Int)))]) C dX6_merge_181 rfl (by decide) rfl ?_
            refine n_iload C dX6_merge_182 7 rfl ?_
            refine n_iconst C dX6_merge_184 ?_
            refine n_iadd C dX6_merge_185 ?_
            refine n_istore_n (lv' := [(0, .ref (ad 53)), (1, .int (iI ((cf : Int) + ((mst (sl (R9 0) b k) (sl (R9 1) x p) (sl (R9 2) y q)).2 : Int)))), (2, .int (iI ((k : Int) + 1))), (3, .int (iI ((p : Int) + 1))), (4, .int (iI (y : Int))), (5, .int (iI (k : Int))), (6, .int (iI 0)), (7, .int (iI (p : Int))), (8, .int (iI (q : Int)))]) C dX6_merge_186 rfl (by decide) rfl ?_
            refine n_iload C dX6_merge_187 8 rfl ?_
            refine n_iconst C dX6_merge_189 ?_
            refine n_iadd C dX6_merge_190 ?_
            refine n_istore (lv' := [(0, .ref (ad 53)), (1, .int (iI ((cf : Int) + ((mst (sl (R9 0) b k) (sl (R9 1) x p) (sl (R9 2) y q)).2 : Int)))), (2, .int (iI ((k : Int) + 1))), (3, .int (iI ((p : Int) + 1))), (4, .int (iI ((q : Int) + 1))), (5, .int (iI (k : Int))), (6, .int (iI 0)), (7, .int (iI (p : Int))), (8, .int (iI (q : Int)))]) C dX6_merge_191 (by decide) rfl ?_
            refine n_iinc (lv' := [(0, .ref (ad 53)), (1, .int (iI ((cf : Int) + ((mst (sl (R9 0) b k) (sl (R9 1) x p) (sl (R9 2) y q)).2 : Int)))), (2, .int (iI ((k : Int) + 1))), (3, .int (iI ((p : Int) + 1))), (4, .int (iI ((q : Int) + 1))), (5, .int (iI ((k : Int) + 1))), (6, .int (iI 0)), (7, .int (iI (p : Int))), (8, .int (iI (q : Int)))]) C dX6_merge_193 5 rfl (by decide) rfl ?_
            refine n_goto (tgt := 40) C dX6_merge_196 (by decide) ?_
            refine n_sub (lv2 := [(0, .ref (ad 53)), (1, .int (iI ((cf : Int) + ((mst (sl (R9 0) b k) (sl (R9 1) x p) (sl (R9 2) y q)).2 : Int)))), (2, .int (iI ((k : Int) + 1))), (3, .int (iI ((p : Int) + 1))), (4, .int (iI ((q : Int) + 1))), (5, .int (iI ((k : Int) + 1)))]) [0, 1, 2, 3, 4, 5] rfl ?_
            refine n_lv (lv2 := [(0, .ref (ad 53)), (1, .int (iI ((cf + (mst (sl (R9 0) b k) (sl (R9 1) x p) (sl (R9 2) y q)).2 : Nat) : Int))), (2, .int (iI ((k + 1 : Nat) : Int))), (3, .int (iI ((p + 1 : Nat) : Int))), (4, .int (iI ((q + 1 : Nat) : Int))), (5, .int (iI ((k + 1 : Nat) : Int)))]) (by simp) ?_
            exact ih (k + 1) (k + 1) (p + 1) (q + 1) _ (zs ++ (mst (sl (R9 0) b k) (sl (R9 1) x p) (sl (R9 2) y q)).1 ++ [fy k]) fr4 e4 (by omega) (by omega) (Nat.le_refl _) (frW_st ok1 hp9) (frW_st ok2 hq9) (by rw [← hz]; simp only [List.append_assoc]) (by rw [← hcf]; omega) (by simp only [List.length_append, List.length_cons, List.length_nil]; omega) (by rw [k53, List.length_append (bs := [fy k])]; rfl) m1 m2 m3 m4 m5 (fun j9 hj9 => (hF4 j9 (by omega)).trans ((hF3 j9 (by omega)).trans (hF j9 hj9)))
      · have hke : k = (R9 0).length := by omega
        subst hke
        rw [mg_end (Nat.le_refl _)] at hz hcf
        refine n_iconst C dX6_merge_62 ?_
        refine n_goto (tgt := 67) C dX6_merge_63 (by decide) ?_
        refine n_istore (lv' := [(0, .ref (ad 53)), (1, .int (iI (cf : Int))), (2, .int (iI (b : Int))), (3, .int (iI (x : Int))), (4, .int (iI (y : Int))), (5, .int (iI ((R9 0).length : Int))), (6, .int (iI 1))]) C dX6_merge_67 (by decide) rfl ?_
        refine n_iload C dX6_merge_69 6 rfl ?_
        refine n_if_ne C dX6_merge_71 (by decide) (by omega) (by omega) (tgt := 94) (fun _ => ?_) (fun c9 => absurd c9 (by omega))
        refine n_iload C dX6_merge_94 6 rfl ?_
        refine n_if_eq C dX6_merge_96 (by decide) (by omega) (by omega) (tgt := 108) (fun c9 => absurd c9 (by omega)) (fun _ => ?_)
        refine n_aload_n C dX6_merge_99 0 rfl rfl ?_
        refine n_get (k9 := 2) C dX6_merge_100 (by omega) k53 hX6_merge_X6 rfl (by decide) kX6_merge_7 rfl ?_
        refine n_iconst C dX6_merge_103 ?_
        refine n_iald (j := 1) C dX6_merge_104 (by omega) m1.1 (by omega) (by omega) (by omega) ?_
        refine n_topI (y := (iI ((R9 1).length : Int))) (z1) ?_
        refine n_goto (tgt := 117) C dX6_merge_105 (by decide) ?_
        refine n_istore (lv' := [(0, .ref (ad 53)), (1, .int (iI (cf : Int))), (2, .int (iI (b : Int))), (3, .int (iI (x : Int))), (4, .int (iI (y : Int))), (5, .int (iI ((R9 0).length : Int))), (6, .int (iI 1)), (7, .int (iI ((R9 1).length : Int)))]) C dX6_merge_117 (by decide) rfl ?_
        refine n_iload C dX6_merge_119 6 rfl ?_
        refine n_if_eq C dX6_merge_121 (by decide) (by omega) (by omega) (tgt := 133) (fun c9 => absurd c9 (by omega)) (fun _ => ?_)
        refine n_aload_n C dX6_merge_124 0 rfl rfl ?_
        refine n_get (k9 := 2) C dX6_merge_125 (by omega) k53 hX6_merge_X6 rfl (by decide) kX6_merge_7 rfl ?_
        refine n_iconst C dX6_merge_128 ?_
        refine n_iald (j := 2) C dX6_merge_129 (by omega) m1.1 (by omega) (by omega) (by omega) ?_
        refine n_topI (y := (iI ((R9 2).length : Int))) (z2) ?_
        refine n_goto (tgt := 142) C dX6_merge_130 (by decide) ?_
        refine n_istore (lv' := [(0, .ref (ad 53)), (1, .int (iI (cf : Int))), (2, .int (iI (b : Int))), (3, .int (iI (x : Int))), (4, .int (iI (y : Int))), (5, .int (iI ((R9 0).length : Int))), (6, .int (iI 1)), (7, .int (iI ((R9 1).length : Int))), (8, .int (iI ((R9 2).length : Int)))]) C dX6_merge_142 (by decide) rfl ?_
        refine n_iload_n C dX6_merge_144 1 rfl rfl ?_
        refine n_aload_n C dX6_merge_145 0 rfl rfl ?_
        refine n_iload_n C dX6_merge_146 2 rfl rfl ?_
        refine n_iload C dX6_merge_147 5 rfl ?_
        refine n_iload_n C dX6_merge_149 3 rfl rfl ?_
        refine n_iload C dX6_merge_150 7 rfl ?_
        refine n_iload C dX6_merge_152 4 rfl ?_
        refine n_iload C dX6_merge_154 8 rfl ?_
        refine n_callV (rest := [.int (iI (cf : Int))]) C dX6_merge_156 (TX6_between l hN k53 m1 m4 (b0 := b) (b1 := (R9 0).length) (x0 := x) (x1 := (R9 1).length) (y0 := y) (y1 := (R9 2).length) (by omega) (by omega) (by omega) (by omega) (by omega) (by omega) (by omega)) (cwV 6 C.2.2.2.2.1 gX6_merge_X6_between rfl rfl rfl cdX6_between ⟨Nat.le_of_ble_eq_true rfl, Nat.le_of_ble_eq_true rfl⟩) (by omega) k53 rfl rfl rfl (Nat.le_of_ble_eq_true rfl) ⟨Nat.le_of_ble_eq_true rfl, Nat.le_of_ble_eq_true rfl⟩ ?_
        rintro _ e3 ⟨rfl, k53, ⟨fr3, m4⟩, hF3⟩
        refine n_pc (pc2 := 159) rfl (n_st (st2 := [.int (iI ((mst (sl (R9 0) b (R9 0).length) (sl (R9 1) x (R9 1).length) (sl (R9 2) y (R9 2).length)).2 : Int)), .int (iI (cf : Int))]) rfl ?_)
        have m1 := m1.fr hF3 (by omega) (by omega)
        have m2 := m2.fr hF3 (by omega) (by omega) (by omega)
        have m3 := m3.fr hF3 (by omega) (by omega)
        have m5 := m5.fr hF3 (by omega) (by omega) (by omega) (by omega)
        refine n_iadd C dX6_merge_159 ?_
        refine n_istore_n (lv' := [(0, .ref (ad 53)), (1, .int (iI ((cf : Int) + ((mst (sl (R9 0) b (R9 0).length) (sl (R9 1) x (R9 1).length) (sl (R9 2) y (R9 2).length)).2 : Int)))), (2, .int (iI (b : Int))), (3, .int (iI (x : Int))), (4, .int (iI (y : Int))), (5, .int (iI ((R9 0).length : Int))), (6, .int (iI 1)), (7, .int (iI ((R9 1).length : Int))), (8, .int (iI ((R9 2).length : Int)))]) C dX6_merge_160 rfl (by decide) rfl ?_
        refine n_iload C dX6_merge_161 6 rfl ?_
        refine n_if_ne C dX6_merge_163 (by decide) (by omega) (by omega) (tgt := 177) (fun _ => ?_) (fun c9 => absurd c9 (by omega))
        refine n_iload C dX6_merge_177 5 rfl ?_
        refine n_iconst C dX6_merge_179 ?_
        refine n_iadd C dX6_merge_180 ?_
        refine n_istore_n (lv' := [(0, .ref (ad 53)), (1, .int (iI ((cf : Int) + ((mst (sl (R9 0) b (R9 0).length) (sl (R9 1) x (R9 1).length) (sl (R9 2) y (R9 2).length)).2 : Int)))), (2, .int (iI (((R9 0).length : Int) + 1))), (3, .int (iI (x : Int))), (4, .int (iI (y : Int))), (5, .int (iI ((R9 0).length : Int))), (6, .int (iI 1)), (7, .int (iI ((R9 1).length : Int))), (8, .int (iI ((R9 2).length : Int)))]) C dX6_merge_181 rfl (by decide) rfl ?_
        refine n_iload C dX6_merge_182 7 rfl ?_
        refine n_iconst C dX6_merge_184 ?_
        refine n_iadd C dX6_merge_185 ?_
        refine n_istore_n (lv' := [(0, .ref (ad 53)), (1, .int (iI ((cf : Int) + ((mst (sl (R9 0) b (R9 0).length) (sl (R9 1) x (R9 1).length) (sl (R9 2) y (R9 2).length)).2 : Int)))), (2, .int (iI (((R9 0).length : Int) + 1))), (3, .int (iI (((R9 1).length : Int) + 1))), (4, .int (iI (y : Int))), (5, .int (iI ((R9 0).length : Int))), (6, .int (iI 1)), (7, .int (iI ((R9 1).length : Int))), (8, .int (iI ((R9 2).length : Int)))]) C dX6_merge_186 rfl (by decide) rfl ?_
        refine n_iload C dX6_merge_187 8 rfl ?_
        refine n_iconst C dX6_merge_189 ?_
        refine n_iadd C dX6_merge_190 ?_
        refine n_istore (lv' := [(0, .ref (ad 53)), (1, .int (iI ((cf : Int) + ((mst (sl (R9 0) b (R9 0).length) (sl (R9 1) x (R9 1).length) (sl (R9 2) y (R9 2).length)).2 : Int)))), (2, .int (iI (((R9 0).length : Int) + 1))), (3, .int (iI (((R9 1).length : Int) + 1))), (4, .int (iI (((R9 2).length : Int) + 1))), (5, .int (iI ((R9 0).length : Int))), (6, .int (iI 1)), (7, .int (iI ((R9 1).length : Int))), (8, .int (iI ((R9 2).length : Int)))]) C dX6_merge_191 (by decide) rfl ?_
        refine n_iinc (lv' := [(0, .ref (ad 53)), (1, .int (iI ((cf : Int) + ((mst (sl (R9 0) b (R9 0).length) (sl (R9 1) x (R9 1).length) (sl (R9 2) y (R9 2).length)).2 : Int)))), (2, .int (iI (((R9 0).length : Int) + 1))), (3, .int (iI (((R9 1).length : Int) + 1))), (4, .int (iI (((R9 2).length : Int) + 1))), (5, .int (iI (((R9 0).length : Int) + 1))), (6, .int (iI 1)), (7, .int (iI ((R9 1).length : Int))), (8, .int (iI ((R9 2).length : Int)))]) C dX6_merge_193 5 rfl (by decide) rfl ?_
        refine n_goto (tgt := 40) C dX6_merge_196 (by decide) ?_
        refine n_iload C dX6_merge_40 5 rfl ?_
        refine n_aload_n C dX6_merge_42 0 rfl rfl ?_
        refine n_get (k9 := 2) C dX6_merge_43 (by omega) k53 hX6_merge_X6 rfl (by decide) kX6_merge_7 rfl ?_
        refine n_iconst C dX6_merge_46 ?_
        refine n_iald (j := 0) C dX6_merge_47 (by omega) m1.1 (by omega) (by omega) (by omega) ?_
        refine n_topI (y := (iI ((R9 0).length : Int))) (z0) ?_
        refine n_icmp_gt C dX6_merge_48 (by decide) (by omega) (by omega) (by omega) (by omega) (tgt := 199) (fun _ => ?_) (fun c9 => absurd c9 (by omega))
        refine n_iload_n C dX6_merge_199 1 rfl rfl ?_
        rw [hz] at k53 m4
        exact n_iret C hr dX6_merge_200 (⟨by rw [← hcf]; simp, ⟨cmp, _, _, _, _, _, _, _, _, _, _, _, _, ⟨hli1, hli2, hlsz, hcmp⟩, k53, m1, m2, m3, m4, m5⟩, fun j9 hj9 => (hF3 j9 (by omega)).trans (hF j9 hj9)⟩)
  exact loop _ 0 0 0 0 0 [] fr e5 (Nat.lt_succ_self _) (Nat.zero_le _) (Nat.le_refl _) (frW_0 ok1) (frW_0 ok2) rfl (Nat.zero_add _) (Nat.zero_le _) hs6 m1 m2 m3 m4 m5 hF0
