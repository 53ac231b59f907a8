set_option maxHeartbeats 4000000 in
set_option maxRecDepth 100000 in
theorem TX6_diff (l : Launch) {G : GG} {N : Nat} {ad : Nat → Nat} {ev : Nat → va_E} {lim thr : Int} {R9 : Nat → List Int32} {ops : List Tr} {ls : List Op} {lsz : Nat} {rs9 : List Int32} {a b : Int} (hN : 66 ≤ N) (hM : MdlAt G ad ev lim thr R9 ops ls lsz rs9) (haa : -2147483648 ≤ a) (hab : a < 2147483648) (hba : -2147483648 ≤ b) (hbb : b < 2147483648) : Ct l yX6_diff wsX6_diff rmX6_diff [.ref (ad 53), .int (iI a), .int (iI b)] G N ad ev 0 0 (fun v e2 => (dfE R9 lim a b ≠ 0 → v = some (.int (iI 0)) ∧ MdlAt G ad e2 lim (dfE R9 lim a b : Nat) R9 ops ls lsz rs9) ∧ (dfE R9 lim a b = 0 → v = some (.int (iI ((dfS R9 a b).length : Int))) ∧ MdlAt G ad e2 lim 0 R9 ((dfS R9 a b).map encO) (dfS R9 a b) (R9 a.toNat).length rs9) ∧ Fr e2 ev (fun j => 53 ≤ j ∧ j < 66)) := by
  obtain ⟨cmp, fz, fy, fk, fp, fs, mk, mp, fr, fq, w1, w2, fd, hbb, k53, m1, m2, m3, m4, m5⟩ := hM
  obtain ⟨hli1, hli2, hlsz, hcmp⟩ := hbb
  refine Ct_of (cc := cX6_diff) (maxL := 7) (ret := some .int) (lv := [(0, .ref (ad 53)), (1, .int (iI a)), (2, .int (iI b))]) (by decide) rfl (Nat.le_of_ble_eq_true rfl) rfl ?_
  intro p E s m args below meth c A C hr hnm
  refine n_iload_n C dX6_diff_0 1 rfl rfl ?_
  refine n_callS (rest := []) C dX6_diff_1 (TX6_isRow l haa hab) (cwS 1 C.2.2.2.2.1 gX6_diff_X6_isRow rfl rfl rfl cdX6_isRow ⟨Nat.le_of_ble_eq_true rfl, Nat.le_of_ble_eq_true rfl⟩) rfl rfl (Nat.le_of_ble_eq_true rfl) ⟨Nat.le_of_ble_eq_true rfl, Nat.le_of_ble_eq_true rfl⟩ ?_
  rintro _ _ ⟨rfl, rfl⟩
  refine n_pc (pc2 := 4) rfl (n_st (st2 := [.int (bI (isR a))]) rfl ?_)
  refine n_if_eqB C dX6_diff_4 (by decide) (tgt := 18) (fun c1 => ?_) (fun c1 => ?_)
  · have hcc : dfE R9 lim a b = 1 := by unfold dfE; rw [c1]; rfl
    refine n_iconst C dX6_diff_18 ?_
    refine n_istore_n (lv' := [(0, .ref (ad 53)), (1, .int (iI a)), (2, .int (iI b)), (3, .int (iI 0))]) C dX6_diff_19 rfl (by decide) rfl ?_
    refine n_iload_n C dX6_diff_20 3 rfl rfl ?_
    refine n_if_eq C dX6_diff_21 (by decide) (by omega) (by omega) (tgt := 30) (fun _ => ?_) (fun c9 => absurd c9 (by omega))
    refine n_aload_n C dX6_diff_30 0 rfl rfl ?_
    refine n_iload_n C dX6_diff_31 3 rfl rfl ?_
    refine n_if_ne C dX6_diff_32 (by decide) (by omega) (by omega) (tgt := 39) (fun c9 => absurd c9 (by omega)) (fun _ => ?_)
    refine n_iconst C dX6_diff_35 ?_
    refine n_goto (tgt := 57) C dX6_diff_36 (by decide) ?_
    refine n_put (k9 := 1) (fs2 := [.int (iI lim), .int (iI 1), .ref (ad 54), .ref (ad 55), .int (iI (ops.length : Int)), .ref (ad 56), .ref (ad 57), .ref (ad 58), .int (bI cmp), .int (iI (ls.length : Int)), .int (iI (lsz : Int)), .ref (ad 59), .ref (ad 60), .int (iI (rs9.length : Int)), .ref (ad 61), .ref (ad 62), .ref (ad 63), .ref (ad 64), .ref (ad 65)]) C dX6_diff_57 (by omega) k53 hX6_diff_X6 tyX6_ok nmX6 rfl (by decide) kX6_diff_50 rfl rfl rfl (Nat.le_of_ble_eq_true rfl) rfl (fun e1 hs2 ho3 => ?_)
    have hP4 : Fr e1 _ (fun j => j = 53) := fun j hj => ho3 j hj
    have m1 := m1.fr hP4 (by omega) (by omega)
    have m2 := m2.fr hP4 (by omega) (by omega) (by omega)
    have m3 := m3.fr hP4 (by omega) (by omega)
    have m4 := m4.fr hP4 (by omega)
    have m5 := m5.fr hP4 (by omega) (by omega) (by omega) (by omega)
    refine n_aload_n C dX6_diff_60 0 rfl rfl ?_
    refine n_get (k9 := 1) C dX6_diff_61 (by omega) hs2 hX6_diff_X6 rfl (by decide) kX6_diff_50 rfl ?_
    refine n_if_le C dX6_diff_64 (by decide) (by omega) (by omega) (tgt := 69) (fun c9 => absurd c9 (by omega)) (fun _ => ?_)
    refine n_iconst C dX6_diff_67 ?_
    exact n_iret C hr dX6_diff_68 (⟨fun _ => ⟨rfl, by rw [hcc]; exact ⟨cmp, _, _, _, _, _, _, _, _, _, _, _, _, ⟨hli1, hli2, hlsz, hcmp⟩, hs2, m1, m2, m3, m4, m5⟩⟩, fun h => absurd h (by rw [hcc]; decide), fun j hj => hP4 j (by omega)⟩)
  · refine n_iload_n C dX6_diff_7 2 rfl rfl ?_
    refine n_callS (rest := []) C dX6_diff_8 (TX6_isRow l hba hbb) (cwS 1 C.2.2.2.2.1 gX6_diff_X6_isRow rfl rfl rfl cdX6_isRow ⟨Nat.le_of_ble_eq_true rfl, Nat.le_of_ble_eq_true rfl⟩) rfl rfl (Nat.le_of_ble_eq_true rfl) ⟨Nat.le_of_ble_eq_true rfl, Nat.le_of_ble_eq_true rfl⟩ ?_
    rintro _ _ ⟨rfl, rfl⟩
    refine n_pc (pc2 := 11) rfl (n_st (st2 := [.int (bI (isR b))]) rfl ?_)
    refine n_if_eqB C dX6_diff_11 (by decide) (tgt := 18) (fun c2 => ?_) (fun c2 => ?_)
    · have hcc : dfE R9 lim a b = 1 := by unfold dfE; rw [c1, c2]; rfl
      refine n_iconst C dX6_diff_18 ?_
      refine n_istore_n (lv' := [(0, .ref (ad 53)), (1, .int (iI a)), (2, .int (iI b)), (3, .int (iI 0))]) C dX6_diff_19 rfl (by decide) rfl ?_
      refine n_iload_n C dX6_diff_20 3 rfl rfl ?_
      refine n_if_eq C dX6_diff_21 (by decide) (by omega) (by omega) (tgt := 30) (fun _ => ?_) (fun c9 => absurd c9 (by omega))
      refine n_aload_n C dX6_diff_30 0 rfl rfl ?_
      refine n_iload_n C dX6_diff_31 3 rfl rfl ?_
      refine n_if_ne C dX6_diff_32 (by decide) (by omega) (by omega) (tgt := 39) (fun c9 => absurd c9 (by omega)) (fun _ => ?_)
      refine n_iconst C dX6_diff_35 ?_
      refine n_goto (tgt := 57) C dX6_diff_36 (by decide) ?_
      refine n_put (k9 := 1) (fs2 := [.int (iI lim), .int (iI 1), .ref (ad 54), .ref (ad 55), .int (iI (ops.length : Int)), .ref (ad 56), .ref (ad 57), .ref (ad 58), .int (bI cmp), .int (iI (ls.length : Int)), .int (iI (lsz : Int)), .ref (ad 59), .ref (ad 60), .int (iI (rs9.length : Int)), .ref (ad 61), .ref (ad 62), .ref (ad 63), .ref (ad 64), .ref (ad 65)]) C dX6_diff_57 (by omega) k53 hX6_diff_X6 tyX6_ok nmX6 rfl (by decide) kX6_diff_50 rfl rfl rfl (Nat.le_of_ble_eq_true rfl) rfl (fun e5 hs6 ho7 => ?_)
      have hP8 : Fr e5 _ (fun j => j = 53) := fun j hj => ho7 j hj
      have m1 := m1.fr hP8 (by omega) (by omega)
      have m2 := m2.fr hP8 (by omega) (by omega) (by omega)
      have m3 := m3.fr hP8 (by omega) (by omega)
      have m4 := m4.fr hP8 (by omega)
      have m5 := m5.fr hP8 (by omega) (by omega) (by omega) (by omega)
      refine n_aload_n C dX6_diff_60 0 rfl rfl ?_
      refine n_get (k9 := 1) C dX6_diff_61 (by omega) hs6 hX6_diff_X6 rfl (by decide) kX6_diff_50 rfl ?_
      refine n_if_le C dX6_diff_64 (by decide) (by omega) (by omega) (tgt := 69) (fun c9 => absurd c9 (by omega)) (fun _ => ?_)
      refine n_iconst C dX6_diff_67 ?_
      exact n_iret C hr dX6_diff_68 (⟨fun _ => ⟨rfl, by rw [hcc]; exact ⟨cmp, _, _, _, _, _, _, _, _, _, _, _, _, ⟨hli1, hli2, hlsz, hcmp⟩, hs6, m1, m2, m3, m4, m5⟩⟩, fun h => absurd h (by rw [hcc]; decide), fun j hj => hP8 j (by omega)⟩)
    · have c1w := of_decide_eq_true c1
      obtain ⟨i, rfl⟩ : ∃ i : Nat, a = (i : Int) := ⟨a.toNat, by omega⟩
      obtain ⟨zi, li, yi⟩ := m1.at (j := i) (by omega)
      have c2w := of_decide_eq_true c2
      obtain ⟨j, rfl⟩ : ∃ j : Nat, b = (j : Int) := ⟨b.toNat, by omega⟩
      obtain ⟨zj, lj, yj⟩ := m1.at (j := j) (by omega)
      have hcv : dfE R9 lim (i : Int) (j : Int) = if lim < (rs (R9 i) (R9 j) 0 0 : Int) then 2 else 0 := by unfold dfE; rw [c1, c2, Int.toNat_natCast, Int.toNat_natCast]; rfl
      have hrs := rs_le (R9 i) (R9 j) 0 0
      refine n_iconst C dX6_diff_14 ?_
      refine n_goto (tgt := 19) C dX6_diff_15 (by decide) ?_
      refine n_istore_n (lv' := [(0, .ref (ad 53)), (1, .int (iI (i : Int))), (2, .int (iI (j : Int))), (3, .int (iI 1))]) C dX6_diff_19 rfl (by decide) rfl ?_
      refine n_iload_n C dX6_diff_20 3 rfl rfl ?_
      refine n_if_eq C dX6_diff_21 (by decide) (by omega) (by omega) (tgt := 30) (fun c9 => absurd c9 (by omega)) (fun _ => ?_)
      refine n_aload_n C dX6_diff_24 0 rfl rfl ?_
      refine n_iload_n C dX6_diff_25 1 rfl rfl ?_
      refine n_iload_n C dX6_diff_26 2 rfl rfl ?_
      refine n_callV (rest := []) C dX6_diff_27 (TX6_fill l hN k53 m1 (a := i) (b := j) (by omega) (by omega) m5.1) (cwV 2 C.2.2.2.2.1 gX6_diff_X6_fill rfl rfl rfl cdX6_fill ⟨Nat.le_of_ble_eq_true rfl, Nat.le_of_ble_eq_true rfl⟩) (by omega) k53 rfl rfl rfl (Nat.le_of_ble_eq_true rfl) ⟨Nat.le_of_ble_eq_true rfl, Nat.le_of_ble_eq_true rfl⟩ ?_
      rintro _ e1 ⟨rfl, ⟨fq2, k62, hok⟩, hF1⟩
      refine n_pc (pc2 := 30) rfl (n_st (st2 := []) rfl ?_)
      have k53 := (hF1 53 (by omega)).trans k53
      have m1 := m1.fr hF1 (by omega) (by omega)
      have m2 := m2.fr hF1 (by omega) (by omega) (by omega)
      have m3 := m3.fr hF1 (by omega) (by omega)
      have m4 := m4.fr hF1 (by omega)
      have m5 : MWrk G e1 fq2 w1 w2 fd := ⟨k62, (hF1 _ (by omega)).trans m5.2.1, (hF1 _ (by omega)).trans m5.2.2.1, (hF1 _ (by omega)).trans m5.2.2.2⟩
      refine n_aload_n C dX6_diff_30 0 rfl rfl ?_
      refine n_iload_n C dX6_diff_31 3 rfl rfl ?_
      refine n_if_ne C dX6_diff_32 (by decide) (by omega) (by omega) (tgt := 39) (fun _ => ?_) (fun c9 => absurd c9 (by omega))
      refine n_aload_n C dX6_diff_39 0 rfl rfl ?_
      refine n_get (k9 := 15) C dX6_diff_40 (by omega) k53 hX6_diff_X6 rfl (by decide) kX6_diff_34 rfl ?_
      refine n_iconst C dX6_diff_43 ?_
      refine n_iald (j := 0) C dX6_diff_44 (by omega) m5.1 (by omega) (by omega) (by omega) ?_
      refine n_topI (y := (iI (rs (R9 i) (R9 j) 0 0 : Int))) (hok 0 0 (by omega) (by omega)) ?_
      refine n_aload_n C dX6_diff_45 0 rfl rfl ?_
      refine n_get (k9 := 0) C dX6_diff_46 (by omega) k53 hX6_diff_X6 rfl (by decide) kX6_diff_46 rfl ?_
      refine n_icmp_le C dX6_diff_49 (by decide) (by omega) (by omega) (by omega) (by omega) (tgt := 56) (fun c3 => ?_) (fun c3 => ?_)
      · have hcc : dfE R9 lim (i : Int) (j : Int) = 0 := by rw [hcv, if_neg (by omega)]
        have hsc : dfS R9 (i : Int) (j : Int) = sc (R9 i) (R9 j) 0 0 := by unfold dfS; rw [Int.toNat_natCast, Int.toNat_natCast]
        have hlen := (sc_facts (R9 i) (R9 j) _ 0 0 (Nat.zero_le _) (Nat.zero_le _) (Nat.le_refl _)).1
        refine n_iconst C dX6_diff_56 ?_
        refine n_put (k9 := 1) (fs2 := [.int (iI lim), .int (iI 0), .ref (ad 54), .ref (ad 55), .int (iI (ops.length : Int)), .ref (ad 56), .ref (ad 57), .ref (ad 58), .int (bI cmp), .int (iI (ls.length : Int)), .int (iI (lsz : Int)), .ref (ad 59), .ref (ad 60), .int (iI (rs9.length : Int)), .ref (ad 61), .ref (ad 62), .ref (ad 63), .ref (ad 64), .ref (ad 65)]) C dX6_diff_57 (by omega) k53 hX6_diff_X6 tyX6_ok nmX6 rfl (by decide) kX6_diff_50 rfl rfl rfl (Nat.le_of_ble_eq_true rfl) rfl (fun e9 hs10 ho11 => ?_)
        have hP12 : Fr e9 _ (fun j => j = 53) := fun j hj => ho11 j hj
        have m1 := m1.fr hP12 (by omega) (by omega)
        have m2 := m2.fr hP12 (by omega) (by omega) (by omega)
        have m3 := m3.fr hP12 (by omega) (by omega)
        have m4 := m4.fr hP12 (by omega)
        have m5 := m5.fr hP12 (by omega) (by omega) (by omega) (by omega)
        refine n_aload_n C dX6_diff_60 0 rfl rfl ?_
        refine n_get (k9 := 1) C dX6_diff_61 (by omega) hs10 hX6_diff_X6 rfl (by decide) kX6_diff_50 rfl ?_
        refine n_if_le C dX6_diff_64 (by decide) (by omega) (by omega) (tgt := 69) (fun _ => ?_) (fun c9 => absurd c9 (by omega))
        refine n_aload_n C dX6_diff_69 0 rfl rfl ?_
        refine n_iconst C dX6_diff_70 ?_
        refine n_put (k9 := 4) (fs2 := [.int (iI lim), .int (iI 0), .ref (ad 54), .ref (ad 55), .int (iI 0), .ref (ad 56), .ref (ad 57), .ref (ad 58), .int (bI cmp), .int (iI (ls.length : Int)), .int (iI (lsz : Int)), .ref (ad 59), .ref (ad 60), .int (iI (rs9.length : Int)), .ref (ad 61), .ref (ad 62), .ref (ad 63), .ref (ad 64), .ref (ad 65)]) C dX6_diff_71 (by omega) hs10 hX6_diff_X6 tyX6_ok nmX6 rfl (by decide) kX6_diff_65 rfl rfl rfl (Nat.le_of_ble_eq_true rfl) rfl (fun e13 hs14 ho15 => ?_)
        have hP16 : Fr e13 _ (fun j => j = 53) := fun j hj => ho15 j hj
        have m1 := m1.fr hP16 (by omega) (by omega)
        have m2 := m2.fr hP16 (by omega) (by omega) (by omega)
        have m3 := m3.fr hP16 (by omega) (by omega)
        have m4 := m4.fr hP16 (by omega)
        have m5 := m5.fr hP16 (by omega) (by omega) (by omega) (by omega)
        refine n_iconst C dX6_diff_74 ?_
        refine n_istore (lv' := [(0, .ref (ad 53)), (1, .int (iI (i : Int))), (2, .int (iI (j : Int))), (3, .int (iI 1)), (4, .int (iI 0))]) C dX6_diff_75 (by decide) rfl ?_
        refine n_iconst C dX6_diff_77 ?_
        refine n_istore (lv' := [(0, .ref (ad 53)), (1, .int (iI (i : Int))), (2, .int (iI (j : Int))), (3, .int (iI 1)), (4, .int (iI 0)), (5, .int (iI 0))]) C dX6_diff_78 (by decide) rfl ?_
        have hF0 : Fr e13 ev (fun j => 53 ≤ j ∧ j < 66) := fun j hj => ((hP16 j (by omega)).trans (hP12 j (by omega))).trans (hF1 j (by omega))
        have m2 : MOps G e13 [] fk fp fs := ⟨m2.1, m2.2.1, m2.2.2.1, fun j hj => absurd hj (Nat.not_lt_zero j), Nat.zero_le _⟩
        have loop : ∀ (n9 : Nat) (x y : Nat) (pre : List Op) (fk fp fs : Nat → Int32) (ex : Nat → va_E), (R9 i).length + (R9 j).length + 1 - (x + y) < n9 → (x ≤ (R9 i).length) → (y ≤ (R9 j).length) → (pre ++ sc (R9 i) (R9 j) x y = sc (R9 i) (R9 j) 0 0) → (ex 53 = mO ad lim 0 ((pre.map encO).length) cmp ls.length lsz rs9.length) → (MRows G ex R9 fz fy) → (MOps G ex (pre.map encO) fk fp fs) → (MMade G ex ls mk mp) → (MRes G ex rs9 fr) → (MWrk G ex fq2 w1 w2 fd) → (Fr ex ev (fun j => 53 ≤ j ∧ j < 66)) → V p l E rmX6_diff s m args below meth c G A 7 (MQ below (Qg G N ad A (fun v e2 => (dfE R9 lim (i : Int) (j : Int) ≠ 0 → v = some (.int (iI 0)) ∧ MdlAt G ad e2 lim (dfE R9 lim (i : Int) (j : Int) : Nat) R9 ops ls lsz rs9) ∧ (dfE R9 lim (i : Int) (j : Int) = 0 → v = some (.int (iI ((dfS R9 (i : Int) (j : Int)).length : Int))) ∧ MdlAt G ad e2 lim 0 R9 ((dfS R9 (i : Int) (j : Int)).map encO) (dfS R9 (i : Int) (j : Int)) (R9 (i : Int).toNat).length rs9) ∧ Fr e2 ev (fun j => 53 ≤ j ∧ j < 66))) args s 0 0 A) N ad ex 0 0 80 [(0, .ref (ad 53)), (1, .int (iI (i : Int))), (2, .int (iI (j : Int))), (3, .int (iI 1)), (4, .int (iI (x : Int))), (5, .int (iI (y : Int)))] [] := by
          intro n9
          induction n9 with
          | zero =>
            intro x y pre fk fp fs ex hm9
            exact absurd hm9 (Nat.not_lt_zero _)
          | succ n9 ih =>
            intro x y pre fk fp fs ex hm9 hx hy hpre k53 m1 m2 m3 m4 m5 hF
            refine n_iload C dX6_diff_80 4 rfl ?_
            refine n_aload_n C dX6_diff_82 0 rfl rfl ?_
            refine n_get (k9 := 2) C dX6_diff_83 (by omega) k53 hX6_diff_X6 rfl (by decide) kX6_diff_7 rfl ?_
            refine n_iload_n C dX6_diff_86 1 rfl rfl ?_
            refine n_iald (j := i) C dX6_diff_87 (by omega) m1.1 (by omega) (by omega) (by omega) ?_
            refine n_topI (y := (iI ((R9 i).length : Int))) (zi) ?_
            refine n_icmp_lt C dX6_diff_88 (by decide) (by omega) (by omega) (by omega) (by omega) (tgt := 102) (fun c4 => ?_) (fun c4 => ?_)
            · have hxy : x + y < (R9 i).length + (R9 j).length := by omega
              refine n_iload C dX6_diff_102 4 rfl ?_
              refine n_aload_n C dX6_diff_104 0 rfl rfl ?_
              refine n_get (k9 := 2) C dX6_diff_105 (by omega) k53 hX6_diff_X6 rfl (by decide) kX6_diff_7 rfl ?_
              refine n_iload_n C dX6_diff_108 1 rfl rfl ?_
              refine n_iald (j := i) C dX6_diff_109 (by omega) m1.1 (by omega) (by omega) (by omega) ?_
              refine n_topI (y := (iI ((R9 i).length : Int))) (zi) ?_
              refine n_icmp_ge C dX6_diff_110 (by decide) (by omega) (by omega) (by omega) (by omega) (tgt := 146) (fun c5 => ?_) (fun c5 => ?_)
              · have hsam : sam (R9 i) (R9 j) x y = false := sam_no (Or.inl (by omega))
                have hstp : stp (R9 i) (R9 j) x y = if x < (R9 i).length ∧ rs (R9 i) (R9 j) (x + 1) y < rs (R9 i) (R9 j) x y then 0 else 1 := by unfold stp; rw [hsam]; rfl
                refine n_aload_n C dX6_diff_146 0 rfl rfl ?_
                refine n_iload_n C dX6_diff_147 1 rfl rfl ?_
                refine n_iload C dX6_diff_148 4 rfl ?_
                refine n_iload C dX6_diff_150 5 rfl ?_
                refine n_callV (rest := []) C dX6_diff_152 (TX6_deletes l hN k53 m1 (a := i) (b := j) (by omega) (by omega) m5.1 hok hx hy) (cwV 3 C.2.2.2.2.1 gX6_diff_X6_deletes rfl rfl rfl cdX6_deletes ⟨Nat.le_of_ble_eq_true rfl, Nat.le_of_ble_eq_true rfl⟩) (by omega) k53 rfl rfl rfl (Nat.le_of_ble_eq_true rfl) ⟨Nat.le_of_ble_eq_true rfl, Nat.le_of_ble_eq_true rfl⟩ ?_
                rintro _ _ ⟨rfl, rfl⟩
                refine n_pc (pc2 := 155) rfl (n_st (st2 := [.int (bI (decide (x < (R9 i).length ∧ rs (R9 i) (R9 j) (x + 1) y < rs (R9 i) (R9 j) x y)))]) rfl ?_)
                refine n_if_eqB C dX6_diff_155 (by decide) (tgt := 183) (fun c8 => ?_) (fun c8 => ?_)
                · have hs : stp (R9 i) (R9 j) x y = 1 := by rw [hstp, if_neg (of_decide_eq_false c8)]
                  have hy2 := stp_ins hx hy hxy hs
                  have hg9 := yj y hy2
                  rw [sc_1 hx hy hxy hs hg9] at hpre
                  have hl9 := congrArg List.length hpre
                  simp only [List.length_append, List.length_cons] at hl9
                  refine n_aload_n C dX6_diff_183 0 rfl rfl ?_
                  refine n_iconst C dX6_diff_184 ?_
                  refine n_iload C dX6_diff_185 4 rfl ?_
                  refine n_aload_n C dX6_diff_187 0 rfl rfl ?_
                  refine n_get (k9 := 3) C dX6_diff_188 (by omega) k53 hX6_diff_X6 rfl (by decide) kX6_diff_13 rfl ?_
                  refine n_bipush C dX6_diff_191 (by decide) ?_
                  refine n_iload_n C dX6_diff_193 2 rfl rfl ?_
                  refine n_imul C dX6_diff_194 ?_
                  refine n_iload C dX6_diff_195 5 rfl ?_
                  refine n_iadd C dX6_diff_197 ?_
                  refine n_iald (j := 20 * j + y) C dX6_diff_198 (by omega) m1.2.1 (by omega) (by omega) (by omega) ?_
                  refine n_callV (rest := []) C dX6_diff_199 (TX6_put l hN k53 m2 (by rw [List.length_map]; omega)) (cwV 3 C.2.2.2.2.1 gX6_diff_X6_put rfl rfl rfl cdX6_put ⟨Nat.le_of_ble_eq_true rfl, Nat.le_of_ble_eq_true rfl⟩) (by omega) k53 rfl rfl rfl (Nat.le_of_ble_eq_true rfl) ⟨Nat.le_of_ble_eq_true rfl, Nat.le_of_ble_eq_true rfl⟩ ?_
                  rintro _ e9 ⟨rfl, k53, ⟨fk9, fp9, fs9, m2⟩, hF9⟩
                  refine n_pc (pc2 := 202) rfl (n_st (st2 := []) rfl ?_)
                  have m1 := m1.fr hF9 (by omega) (by omega)
                  have m3 := m3.fr hF9 (by omega) (by omega)
                  have m4 := m4.fr hF9 (by omega)
                  have m5 := m5.fr hF9 (by omega) (by omega) (by omega) (by omega)
                  refine n_iinc (lv' := [(0, .ref (ad 53)), (1, .int (iI (i : Int))), (2, .int (iI (j : Int))), (3, .int (iI 1)), (4, .int (iI (x : Int))), (5, .int (iI ((y : Int) + 1)))]) C dX6_diff_202 5 rfl (by decide) rfl ?_
                  refine n_goto (tgt := 80) C dX6_diff_205 (by decide) ?_
                  refine n_lv (lv2 := [(0, .ref (ad 53)), (1, .int (iI (i : Int))), (2, .int (iI (j : Int))), (3, .int (iI 1)), (4, .int (iI ((x : Nat) : Int))), (5, .int (iI ((y + 1 : Nat) : Int)))]) (by simp) ?_
                  exact ih (x) (y + 1) (pre ++ [(false, x, fy (20 * j + y))]) fk9 fp9 fs9 e9 (by omega) (by omega) (by omega) (by rw [← hpre, List.append_assoc]; rfl) (by rw [k53, List.map_append, List.length_append]; rfl) m1 (by rw [List.map_append]; exact m2) m3 m4 m5 (fun j9 hj9 => (hF9 j9 (by omega)).trans (hF j9 hj9))
                · have hs : stp (R9 i) (R9 j) x y = 0 := by rw [hstp, if_pos (of_decide_eq_true c8)]
                  have hx2 := stp_del hs
                  have hg9 := yi x hx2
                  rw [sc_0 hx hy hxy hs hg9] at hpre
                  have hl9 := congrArg List.length hpre
                  simp only [List.length_append, List.length_cons] at hl9
                  refine n_aload_n C dX6_diff_158 0 rfl rfl ?_
                  refine n_iconst C dX6_diff_159 ?_
                  refine n_iload C dX6_diff_160 4 rfl ?_
                  refine n_aload_n C dX6_diff_162 0 rfl rfl ?_
                  refine n_get (k9 := 3) C dX6_diff_163 (by omega) k53 hX6_diff_X6 rfl (by decide) kX6_diff_13 rfl ?_
                  refine n_bipush C dX6_diff_166 (by decide) ?_
                  refine n_iload_n C dX6_diff_168 1 rfl rfl ?_
                  refine n_imul C dX6_diff_169 ?_
                  refine n_iload C dX6_diff_170 4 rfl ?_
                  refine n_iadd C dX6_diff_172 ?_
                  refine n_iald (j := 20 * i + x) C dX6_diff_173 (by omega) m1.2.1 (by omega) (by omega) (by omega) ?_
                  refine n_callV (rest := []) C dX6_diff_174 (TX6_put l hN k53 m2 (by rw [List.length_map]; omega)) (cwV 3 C.2.2.2.2.1 gX6_diff_X6_put rfl rfl rfl cdX6_put ⟨Nat.le_of_ble_eq_true rfl, Nat.le_of_ble_eq_true rfl⟩) (by omega) k53 rfl rfl rfl (Nat.le_of_ble_eq_true rfl) ⟨Nat.le_of_ble_eq_true rfl, Nat.le_of_ble_eq_true rfl⟩ ?_
                  rintro _ e9 ⟨rfl, k53, ⟨fk9, fp9, fs9, m2⟩, hF9⟩
                  refine n_pc (pc2 := 177) rfl (n_st (st2 := []) rfl ?_)
                  have m1 := m1.fr hF9 (by omega) (by omega)
                  have m3 := m3.fr hF9 (by omega) (by omega)
                  have m4 := m4.fr hF9 (by omega)
                  have m5 := m5.fr hF9 (by omega) (by omega) (by omega) (by omega)
                  refine n_iinc (lv' := [(0, .ref (ad 53)), (1, .int (iI (i : Int))), (2, .int (iI (j : Int))), (3, .int (iI 1)), (4, .int (iI ((x : Int) + 1))), (5, .int (iI (y : Int)))]) C dX6_diff_177 4 rfl (by decide) rfl ?_
                  refine n_goto (tgt := 80) C dX6_diff_180 (by decide) ?_
                  refine n_lv (lv2 := [(0, .ref (ad 53)), (1, .int (iI (i : Int))), (2, .int (iI (j : Int))), (3, .int (iI 1)), (4, .int (iI ((x + 1 : Nat) : Int))), (5, .int (iI ((y : Nat) : Int)))]) (by simp) ?_
                  exact ih (x + 1) (y) (pre ++ [(true, x, fy (20 * i + x))]) fk9 fp9 fs9 e9 (by omega) (by omega) (by omega) (by rw [← hpre, List.append_assoc]; rfl) (by rw [k53, List.map_append, List.length_append]; rfl) m1 (by rw [List.map_append]; exact m2) m3 m4 m5 (fun j9 hj9 => (hF9 j9 (by omega)).trans (hF j9 hj9))
              · refine n_iload C dX6_diff_113 5 rfl ?_
                refine n_aload_n C dX6_diff_115 0 rfl rfl ?_
                refine n_get (k9 := 2) C dX6_diff_116 (by omega) k53 hX6_diff_X6 rfl (by decide) kX6_diff_7 rfl ?_
                refine n_iload_n C dX6_diff_119 2 rfl rfl ?_
                refine n_iald (j := j) C dX6_diff_120 (by omega) m1.1 (by omega) (by omega) (by omega) ?_
                refine n_topI (y := (iI ((R9 j).length : Int))) (zj) ?_
                refine n_icmp_ge C dX6_diff_121 (by decide) (by omega) (by omega) (by omega) (by omega) (tgt := 146) (fun c6 => ?_) (fun c6 => ?_)
                · have hsam : sam (R9 i) (R9 j) x y = false := sam_no (Or.inr (by omega))
                  have hstp : stp (R9 i) (R9 j) x y = if x < (R9 i).length ∧ rs (R9 i) (R9 j) (x + 1) y < rs (R9 i) (R9 j) x y then 0 else 1 := by unfold stp; rw [hsam]; rfl
                  refine n_aload_n C dX6_diff_146 0 rfl rfl ?_
                  refine n_iload_n C dX6_diff_147 1 rfl rfl ?_
                  refine n_iload C dX6_diff_148 4 rfl ?_
                  refine n_iload C dX6_diff_150 5 rfl ?_
                  refine n_callV (rest := []) C dX6_diff_152 (TX6_deletes l hN k53 m1 (a := i) (b := j) (by omega) (by omega) m5.1 hok hx hy) (cwV 3 C.2.2.2.2.1 gX6_diff_X6_deletes rfl rfl rfl cdX6_deletes ⟨Nat.le_of_ble_eq_true rfl, Nat.le_of_ble_eq_true rfl⟩) (by omega) k53 rfl rfl rfl (Nat.le_of_ble_eq_true rfl) ⟨Nat.le_of_ble_eq_true rfl, Nat.le_of_ble_eq_true rfl⟩ ?_
                  rintro _ _ ⟨rfl, rfl⟩
                  refine n_pc (pc2 := 155) rfl (n_st (st2 := [.int (bI (decide (x < (R9 i).length ∧ rs (R9 i) (R9 j) (x + 1) y < rs (R9 i) (R9 j) x y)))]) rfl ?_)
                  refine n_if_eqB C dX6_diff_155 (by decide) (tgt := 183) (fun c8 => ?_) (fun c8 => ?_)
                  · have hs : stp (R9 i) (R9 j) x y = 1 := by rw [hstp, if_neg (of_decide_eq_false c8)]
                    have hy2 := stp_ins hx hy hxy hs
                    have hg9 := yj y hy2
                    rw [sc_1 hx hy hxy hs hg9] at hpre
                    have hl9 := congrArg List.length hpre
                    simp only [List.length_append, List.length_cons] at hl9
                    refine n_aload_n C dX6_diff_183 0 rfl rfl ?_
                    refine n_iconst C dX6_diff_184 ?_
                    refine n_iload C dX6_diff_185 4 rfl ?_
                    refine n_aload_n C dX6_diff_187 0 rfl rfl ?_
                    refine n_get (k9 := 3) C dX6_diff_188 (by omega) k53 hX6_diff_X6 rfl (by decide) kX6_diff_13 rfl ?_
                    refine n_bipush C dX6_diff_191 (by decide) ?_
                    refine n_iload_n C dX6_diff_193 2 rfl rfl ?_
                    refine n_imul C dX6_diff_194 ?_
                    refine n_iload C dX6_diff_195 5 rfl ?_
                    refine n_iadd C dX6_diff_197 ?_
                    refine n_iald (j := 20 * j + y) C dX6_diff_198 (by omega) m1.2.1 (by omega) (by omega) (by omega) ?_
                    refine n_callV (rest := []) C dX6_diff_199 (TX6_put l hN k53 m2 (by rw [List.length_map]; omega)) (cwV 3 C.2.2.2.2.1 gX6_diff_X6_put rfl rfl rfl cdX6_put ⟨Nat.le_of_ble_eq_true rfl, Nat.le_of_ble_eq_true rfl⟩) (by omega) k53 rfl rfl rfl (Nat.le_of_ble_eq_true rfl) ⟨Nat.le_of_ble_eq_true rfl, Nat.le_of_ble_eq_true rfl⟩ ?_
                    rintro _ e9 ⟨rfl, k53, ⟨fk9, fp9, fs9, m2⟩, hF9⟩
                    refine n_pc (pc2 := 202) rfl (n_st (st2 := []) rfl ?_)
                    have m1 := m1.fr hF9 (by omega) (by omega)
                    have m3 := m3.fr hF9 (by omega) (by omega)
                    have m4 := m4.fr hF9 (by omega)
                    have m5 := m5.fr hF9 (by omega) (by omega) (by omega) (by omega)
                    refine n_iinc (lv' := [(0, .ref (ad 53)), (1, .int (iI (i : Int))), (2, .int (iI (j : Int))), (3, .int (iI 1)), (4, .int (iI (x : Int))), (5, .int (iI ((y : Int) + 1)))]) C dX6_diff_202 5 rfl (by decide) rfl ?_
                    refine n_goto (tgt := 80) C dX6_diff_205 (by decide) ?_
                    refine n_lv (lv2 := [(0, .ref (ad 53)), (1, .int (iI (i : Int))), (2, .int (iI (j : Int))), (3, .int (iI 1)), (4, .int (iI ((x : Nat) : Int))), (5, .int (iI ((y + 1 : Nat) : Int)))]) (by simp) ?_
                    exact ih (x) (y + 1) (pre ++ [(false, x, fy (20 * j + y))]) fk9 fp9 fs9 e9 (by omega) (by omega) (by omega) (by rw [← hpre, List.append_assoc]; rfl) (by rw [k53, List.map_append, List.length_append]; rfl) m1 (by rw [List.map_append]; exact m2) m3 m4 m5 (fun j9 hj9 => (hF9 j9 (by omega)).trans (hF j9 hj9))
                  · have hs : stp (R9 i) (R9 j) x y = 0 := by rw [hstp, if_pos (of_decide_eq_true c8)]
                    have hx2 := stp_del hs
                    have hg9 := yi x hx2
                    rw [sc_0 hx hy hxy hs hg9] at hpre
                    have hl9 := congrArg List.length hpre
                    simp only [List.length_append, List.length_cons] at hl9
                    refine n_aload_n C dX6_diff_158 0 rfl rfl ?_
                    refine n_iconst C dX6_diff_159 ?_
                    refine n_iload C dX6_diff_160 4 rfl ?_
                    refine n_aload_n C dX6_diff_162 0 rfl rfl ?_
                    refine n_get (k9 := 3) C dX6_diff_163 (by omega) k53 hX6_diff_X6 rfl (by decide) kX6_diff_13 rfl ?_
                    refine n_bipush C dX6_diff_166 (by decide) ?_
                    refine n_iload_n C dX6_diff_168 1 rfl rfl ?_
                    refine n_imul C dX6_diff_169 ?_
                    refine n_iload C dX6_diff_170 4 rfl ?_
                    refine n_iadd C dX6_diff_172 ?_
                    refine n_iald (j := 20 * i + x) C dX6_diff_173 (by omega) m1.2.1 (by omega) (by omega) (by omega) ?_
                    refine n_callV (rest := []) C dX6_diff_174 (TX6_put l hN k53 m2 (by rw [List.length_map]; omega)) (cwV 3 C.2.2.2.2.1 gX6_diff_X6_put rfl rfl rfl cdX6_put ⟨Nat.le_of_ble_eq_true rfl, Nat.le_of_ble_eq_true rfl⟩) (by omega) k53 rfl rfl rfl (Nat.le_of_ble_eq_true rfl) ⟨Nat.le_of_ble_eq_true rfl, Nat.le_of_ble_eq_true rfl⟩ ?_
                    rintro _ e9 ⟨rfl, k53, ⟨fk9, fp9, fs9, m2⟩, hF9⟩
                    refine n_pc (pc2 := 177) rfl (n_st (st2 := []) rfl ?_)
                    have m1 := m1.fr hF9 (by omega) (by omega)
                    have m3 := m3.fr hF9 (by omega) (by omega)
                    have m4 := m4.fr hF9 (by omega)
                    have m5 := m5.fr hF9 (by omega) (by omega) (by omega) (by omega)
                    refine n_iinc (lv' := [(0, .ref (ad 53)), (1, .int (iI (i : Int))), (2, .int (iI (j : Int))), (3, .int (iI 1)), (4, .int (iI ((x : Int) + 1))), (5, .int (iI (y : Int)))]) C dX6_diff_177 4 rfl (by decide) rfl ?_
                    refine n_goto (tgt := 80) C dX6_diff_180 (by decide) ?_
                    refine n_lv (lv2 := [(0, .ref (ad 53)), (1, .int (iI (i : Int))), (2, .int (iI (j : Int))), (3, .int (iI 1)), (4, .int (iI ((x + 1 : Nat) : Int))), (5, .int (iI ((y : Nat) : Int)))]) (by simp) ?_
                    exact ih (x + 1) (y) (pre ++ [(true, x, fy (20 * i + x))]) fk9 fp9 fs9 e9 (by omega) (by omega) (by omega) (by rw [← hpre, List.append_assoc]; rfl) (by rw [k53, List.map_append, List.length_append]; rfl) m1 (by rw [List.map_append]; exact m2) m3 m4 m5 (fun j9 hj9 => (hF9 j9 (by omega)).trans (hF j9 hj9))
                · refine n_aload_n C dX6_diff_124 0 rfl rfl ?_
                  refine n_iload_n C dX6_diff_125 1 rfl rfl ?_
                  refine n_iload C dX6_diff_126 4 rfl ?_
                  refine n_iload_n C dX6_diff_128 2 rfl rfl ?_
                  refine n_iload C dX6_diff_129 5 rfl ?_
                  refine n_callV (rest := []) C dX6_diff_131 (TX6_same l hN k53 m1 (a := i) (b := j) (by omega) (by omega) (by omega) (by omega)) (cwV 4 C.2.2.2.2.1 gX6_diff_X6_same rfl rfl rfl cdX6_same ⟨Nat.le_of_ble_eq_true rfl, Nat.le_of_ble_eq_true rfl⟩) (by omega) k53 rfl rfl rfl (Nat.le_of_ble_eq_true rfl) ⟨Nat.le_of_ble_eq_true rfl, Nat.le_of_ble_eq_true rfl⟩ ?_
                  rintro _ _ ⟨rfl, rfl⟩
                  refine n_pc (pc2 := 134) rfl (n_st (st2 := [.int (bI (sam (R9 i) (R9 j) x y))]) rfl ?_)
                  refine n_if_eqB C dX6_diff_134 (by decide) (tgt := 146) (fun c7 => ?_) (fun c7 => ?_)
                  · have hsam : sam (R9 i) (R9 j) x y = false := c7
                    have hstp : stp (R9 i) (R9 j) x y = if x < (R9 i).length ∧ rs (R9 i) (R9 j) (x + 1) y < rs (R9 i) (R9 j) x y then 0 else 1 := by unfold stp; rw [hsam]; rfl
                    refine n_aload_n C dX6_diff_146 0 rfl rfl ?_
                    refine n_iload_n C dX6_diff_147 1 rfl rfl ?_
                    refine n_iload C dX6_diff_148 4 rfl ?_
                    refine n_iload C dX6_diff_150 5 rfl ?_
                    refine n_callV (rest := []) C dX6_diff_152 (TX6_deletes l hN k53 m1 (a := i) (b := j) (by omega) (by omega) m5.1 hok hx hy) (cwV 3 C.2.2.2.2.1 gX6_diff_X6_deletes rfl rfl rfl cdX6_deletes ⟨Nat.le_of_ble_eq_true rfl, Nat.le_of_ble_eq_true rfl⟩) (by omega) k53 rfl rfl rfl (Nat.le_of_ble_eq_true rfl) ⟨Nat.le_of_ble_eq_true rfl, Nat.le_of_ble_eq_true rfl⟩ ?_
                    rintro _ _ ⟨rfl, rfl⟩
                    refine n_pc (pc2 := 155) rfl (n_st (st2 := [.int (bI (decide (x < (R9 i).length ∧ rs (R9 i) (R9 j) (x + 1) y < rs (R9 i) (R9 j) x y)))]) rfl ?_)
                    refine n_if_eqB C dX6_diff_155 (by decide) (tgt := 183) (fun c8 => ?_) (fun c8 => ?_)
                    · have hs : stp (R9 i) (R9 j) x y = 1 := by rw [hstp, if_neg (of_decide_eq_false c8)]
                      have hy2 := stp_ins hx hy hxy hs
                      have hg9 := yj y hy2
                      rw [sc_1 hx hy hxy hs hg9] at hpre
                      have hl9 := congrArg List.length hpre
                      simp only [List.length_append, List.length_cons] at hl9
                      refine n_aload_n C dX6_diff_183 0 rfl rfl ?_
                      refine n_iconst C dX6_diff_184 ?_
                      refine n_iload C dX6_diff_185 4 rfl ?_
                      refine n_aload_n C dX6_diff_187 0 rfl rfl ?_
                      refine n_get (k9 := 3) C dX6_diff_188 (by omega) k53 hX6_diff_X6 rfl (by decide) kX6_diff_13 rfl ?_
                      refine n_bipush C dX6_diff_191 (by decide) ?_
                      refine n_iload_n C dX6_diff_193 2 rfl rfl ?_
                      refine n_imul C dX6_diff_194 ?_
                      refine n_iload C dX6_diff_195 5 rfl ?_
                      refine n_iadd C dX6_diff_197 ?_
                      refine n_iald (j := 20 * j + y) C dX6_diff_198 (by omega) m1.2.1 (by omega) (by omega) (by omega) ?_
                      refine n_callV (rest := []) C dX6_diff_199 (TX6_put l hN k53 m2 (by rw [List.length_map]; omega)) (cwV 3 C.2.2.2.2.1 gX6_diff_X6_put rfl rfl rfl cdX6_put ⟨Nat.le_of_ble_eq_true rfl, Nat.le_of_ble_eq_true rfl⟩) (by omega) k53 rfl rfl rfl (Nat.le_of_ble_eq_true rfl) ⟨Nat.le_of_ble_eq_true rfl, Nat.le_of_ble_eq_true rfl⟩ ?_
                      rintro _ e9 ⟨rfl, k53, ⟨fk9, fp9, fs9, m2⟩, hF9⟩
                      refine n_pc (pc2 := 202) rfl (n_st (st2 := []) rfl ?_)
                      have m1 := m1.fr hF9 (by omega) (by omega)
                      have m3 := m3.fr hF9 (by omega) (by omega)
                      have m4 := m4.fr hF9 (by omega)
                      have m5 := m5.fr hF9 (by omega) (by omega) (by omega) (by omega)
                      refine n_iinc (lv' := [(0, .ref (ad 53)), (1, .int (iI (i : Int))), (2, .int (iI (j : Int))), (3, .int (iI 1)), (4, .int (iI (x : Int))), (5, .int (iI ((y : Int) + 1)))]) C dX6_diff_202 5 rfl (by decide) rfl ?_
                      refine n_goto (tgt := 80) C dX6_diff_205 (by decide) ?_
                      refine n_lv (lv2 := [(0, .ref (ad 53)), (1, .int (iI (i : Int))), (2, .int (iI (j : Int))), (3, .int (iI 1)), (4, .int (iI ((x : Nat) : Int))), (5, .int (iI ((y + 1 : Nat) : Int)))]) (by simp) ?_
                      exact ih (x) (y + 1) (pre ++ [(false, x, fy (20 * j + y))]) fk9 fp9 fs9 e9 (by omega) (by omega) (by omega) (by rw [← hpre, List.append_assoc]; rfl) (by rw [k53, List.map_append, List.length_append]; rfl) m1 (by rw [List.map_append]; exact m2) m3 m4 m5 (fun j9 hj9 => (hF9 j9 (by omega)).trans (hF j9 hj9))
                    · have hs : stp (R9 i) (R9 j) x y = 0 := by rw [hstp, if_pos (of_decide_eq_true c8)]
                      have hx2 := stp_del hs
                      have hg9 := yi x hx2
                      rw [sc_0 hx hy hxy hs hg9] at hpre
                      have hl9 := congrArg List.length hpre
                      simp only [List.length_append, List.length_cons] at hl9
                      refine n_aload_n C dX6_diff_158 0 rfl rfl ?_
                      refine n_iconst C dX6_diff_159 ?_
                      refine n_iload C dX6_diff_160 4 rfl ?_
                      refine n_aload_n C dX6_diff_162 0 rfl rfl ?_
                      refine n_get (k9 := 3) C dX6_diff_163 (by omega) k53 hX6_diff_X6 rfl (by decide) kX6_diff_13 rfl ?_
                      refine n_bipush C dX6_diff_166 (by decide) ?_
                      refine n_iload_n C dX6_diff_168 1 rfl rfl ?_
                      refine n_imul C dX6_diff_169 ?_
                      refine n_iload C dX6_diff_170 4 rfl ?_
                      refine n_iadd C dX6_diff_172 ?_
                      refine n_iald (j := 20 * i + x) C dX6_diff_173 (by omega) m1.2.1 (by omega) (by omega) (by omega) ?_
                      refine n_callV (rest := []) C dX6_diff_174 (TX6_put l hN k53 m2 (by rw [List.length_map]; omega)) (cwV 3 C.2.2.2.2.1 gX6_diff_X6_put rfl rfl rfl cdX6_put ⟨Nat.le_of_ble_eq_true rfl, Nat.le_of_ble_eq_true rfl⟩) (by omega) k53 rfl rfl rfl (Nat.le_of_ble_eq_true rfl) ⟨Nat.le_of_ble_eq_true rfl, Nat.le_of_ble_eq_true rfl⟩ ?_
                      rintro _ e9 ⟨rfl, k53, ⟨fk9, fp9, fs9, m2⟩, hF9⟩
                      refine n_pc (pc2 := 177) rfl (n_st (st2 := []) rfl ?_)
                      have m1 := m1.fr hF9 (by omega) (by omega)
                      have m3 := m3.fr hF9 (by omega) (by omega)
                      have m4 := m4.fr hF9 (by omega)
                      have m5 := m5.fr hF9 (by omega) (by omega) (by omega) (by omega)
                      refine n_iinc (lv' := [(0, .ref (ad 53)), (1, .int (iI (i : Int))), (2, .int (iI (j : Int))), (3, .int (iI 1)), (4, .int (iI ((x : Int) + 1))), (5, .int (iI (y : Int)))]) C dX6_diff_177 4 rfl (by decide) rfl ?_
                      refine n_goto (tgt := 80) C dX6_diff_180 (by decide) ?_
                      refine n_lv (lv2 := [(0, .ref (ad 53)), (1, .int (iI (i : Int))), (2, .int (iI (j : Int))), (3, .int (iI 1)), (4, .int (iI ((x + 1 : Nat) : Int))), (5, .int (iI ((y : Nat) : Int)))]) (by simp) ?_
                      exact ih (x + 1) (y) (pre ++ [(true, x, fy (20 * i + x))]) fk9 fp9 fs9 e9 (by omega) (by omega) (by omega) (by rw [← hpre, List.append_assoc]; rfl) (by rw [k53, List.map_append, List.length_append]; rfl) m1 (by rw [List.map_append]; exact m2) m3 m4 m5 (fun j9 hj9 => (hF9 j9 (by omega)).trans (hF j9 hj9))
                  · have hs : stp (R9 i) (R9 j) x y = 2 := by unfold stp; rw [c7]; rfl
                    rw [sc_2 hx hy hxy hs] at hpre
                    refine n_iinc (lv' := [(0, .ref (ad 53)), (1, .int (iI (i : Int))), (2, .int (iI (j : Int))), (3, .int (iI 1)), (4, .int (iI ((x : Int) + 1))), (5, .int (iI (y : Int)))]) C dX6_diff_137 4 rfl (by decide) rfl ?_
                    refine n_iinc (lv' := [(0, .ref (ad 53)), (1, .int (iI (i : Int))), (2, .int (iI (j : Int))), (3, .int (iI 1)), (4, .int (iI ((x : Int) + 1))), (5, .int (iI ((y : Int) + 1)))]) C dX6_diff_140 5 rfl (by decide) rfl ?_
                    refine n_goto (tgt := 80) C dX6_diff_143 (by decide) ?_
                    refine n_lv (lv2 := [(0, .ref (ad 53)), (1, .int (iI (i : Int))), (2, .int (iI (j : Int))), (3, .int (iI 1)), (4, .int (iI ((x + 1 : Nat) : Int))), (5, .int (iI ((y + 1 : Nat) : Int)))]) (by simp) ?_
                    exact ih (x + 1) (y + 1) pre fk fp fs ex (by omega) (by omega) (by omega) hpre k53 m1 m2 m3 m4 m5 hF
            · refine n_iload C dX6_diff_91 5 rfl ?_
              refine n_aload_n C dX6_diff_93 0 rfl rfl ?_
              refine n_get (k9 := 2) C dX6_diff_94 (by omega) k53 hX6_diff_X6 rfl (by decide) kX6_diff_7 rfl ?_
              refine n_iload_n C dX6_diff_97 2 rfl rfl ?_
              refine n_iald (j := j) C dX6_diff_98 (by omega) m1.1 (by omega) (by omega) (by omega) ?_
              refine n_topI (y := (iI ((R9 j).length : Int))) (zj) ?_
              refine n_icmp_ge C dX6_diff_99 (by decide) (by omega) (by omega) (by omega) (by omega) (tgt := 208) (fun c9 => ?_) (fun c9 => ?_)
              · rw [sc_end (by omega), List.append_nil] at hpre
                subst hpre
                refine n_aload_n C dX6_diff_208 0 rfl rfl ?_
                refine n_iconst C dX6_diff_209 ?_
                refine n_put (k9 := 8) (fs2 := [.int (iI lim), .int (iI 0), .ref (ad 54), .ref (ad 55), .int (iI (((sc (R9 i) (R9 j) 0 0).map encO).length : Int)), .ref (ad 56), .ref (ad 57), .ref (ad 58), .int (iI 1), .int (iI (ls.length : Int)), .int (iI (lsz : Int)), .ref (ad 59), .ref (ad 60), .int (iI (rs9.length : Int)), .ref (ad 61), .ref (ad 62), .ref (ad 63), .ref (ad 64), .ref (ad 65)]) C dX6_diff_210 (by omega) k53 hX6_diff_X6 tyX6_ok nmX6 rfl (by decide) kX6_diff_76 rfl (by decide) (by decide) (Nat.le_of_ble_eq_true rfl) rfl (fun e17 hs18 ho19 => ?_)
                have hP20 : Fr e17 _ (fun j => j = 53) := fun j hj => ho19 j hj
                have m1 := m1.fr hP20 (by omega) (by omega)
                have m2 := m2.fr hP20 (by omega) (by omega) (by omega)
                have m3 := m3.fr hP20 (by omega) (by omega)
                have m4 := m4.fr hP20 (by omega)
                have m5 := m5.fr hP20 (by omega) (by omega) (by omega) (by omega)
                refine n_aload_n C dX6_diff_213 0 rfl rfl ?_
                refine n_aload_n C dX6_diff_214 0 rfl rfl ?_
                refine n_get (k9 := 4) C dX6_diff_215 (by omega) hs18 hX6_diff_X6 rfl (by decide) kX6_diff_65 rfl ?_
                refine n_put (k9 := 9) (fs2 := [.int (iI lim), .int (iI 0), .ref (ad 54), .ref (ad 55), .int (iI (((sc (R9 i) (R9 j) 0 0).map encO).length : Int)), .ref (ad 56), .ref (ad 57), .ref (ad 58), .int (iI 1), .int (iI (((sc (R9 i) (R9 j) 0 0).map encO).length : Int)), .int (iI (lsz : Int)), .ref (ad 59), .ref (ad 60), .int (iI (rs9.length : Int)), .ref (ad 61), .ref (ad 62), .ref (ad 63), .ref (ad 64), .ref (ad 65)]) C dX6_diff_218 (by omega) hs18 hX6_diff_X6 tyX6_ok nmX6 rfl (by decide) kX6_diff_80 rfl rfl rfl (Nat.le_of_ble_eq_true rfl) rfl (fun e21 hs22 ho23 => ?_)
                have hP24 : Fr e21 _ (fun j => j = 53) := fun j hj => ho23 j hj
                have m1 := m1.fr hP24 (by omega) (by omega)
                have m2 := m2.fr hP24 (by omega) (by omega) (by omega)
                have m3 := m3.fr hP24 (by omega) (by omega)
                have m4 := m4.fr hP24 (by omega)
                have m5 := m5.fr hP24 (by omega) (by omega) (by omega) (by omega)
                refine n_aload_n C dX6_diff_221 0 rfl rfl ?_
                refine n_aload_n C dX6_diff_222 0 rfl rfl ?_
                refine n_get (k9 := 2) C dX6_diff_223 (by omega) hs22 hX6_diff_X6 rfl (by decide) kX6_diff_7 rfl ?_
                refine n_iload_n C dX6_diff_226 1 rfl rfl ?_
                refine n_iald (j := i) C dX6_diff_227 (by omega) m1.1 (by omega) (by omega) (by omega) ?_
                refine n_topI (y := (iI ((R9 i).length : Int))) (zi) ?_
                refine n_put (k9 := 10) (fs2 := [.int (iI lim), .int (iI 0), .ref (ad 54), .ref (ad 55), .int (iI (((sc (R9 i) (R9 j) 0 0).map encO).length : Int)), .ref (ad 56), .ref (ad 57), .ref (ad 58), .int (iI 1), .int (iI (((sc (R9 i) (R9 j) 0 0).map encO).length : Int)), .int (iI ((R9 i).length : Int)), .ref (ad 59), .ref (ad 60), .int (iI (rs9.length : Int)), .ref (ad 61), .ref (ad 62), .ref (ad 63), .ref (ad 64), .ref (ad 65)]) C dX6_diff_228 (by omega) hs22 hX6_diff_X6 tyX6_ok nmX6 rfl (by decide) kX6_diff_83 rfl rfl rfl (Nat.le_of_ble_eq_true rfl) rfl (fun e25 hs26 ho27 => ?_)
                have hP28 : Fr e25 _ (fun j => j = 53) := fun j hj => ho27 j hj
                have m1 := m1.fr hP28 (by omega) (by omega)
                have m2 := m2.fr hP28 (by omega) (by omega) (by omega)
                have m3 := m3.fr hP28 (by omega) (by omega)
                have m4 := m4.fr hP28 (by omega)
                have m5 := m5.fr hP28 (by omega) (by omega) (by omega) (by omega)
                refine n_iconst C dX6_diff_231 ?_
                refine n_istore (lv' := [(0, .ref (ad 53)), (1, .int (iI (i : Int))), (2, .int (iI (j : Int))), (3, .int (iI 1)), (4, .int (iI (x : Int))), (5, .int (iI (y : Int))), (6, .int (iI 0))]) C dX6_diff_232 (by decide) rfl ?_
                have hFz : Fr e25 ev (fun j => 53 ≤ j ∧ j < 66) := fun j9 hj9 => (hP28 j9 (by omega)).trans ((hP24 j9 (by omega)).trans ((hP20 j9 (by omega)).trans (hF j9 hj9)))
                have kz : e25 53 = mO ad lim 0 (((sc (R9 i) (R9 j) 0 0).map encO).length) true (((sc (R9 i) (R9 j) 0 0).map encO).length) ((R9 i).length) rs9.length := hs26
                have loopc : ∀ (n9 : Nat) (k : Nat) (mk mp : Nat → Int32) (ez : Nat → va_E), ((sc (R9 i) (R9 j) 0 0).map encO).length + 1 - k < n9 → (k ≤ ((sc (R9 i) (R9 j) 0 0).map encO).length) → (ez 53 = mO ad lim 0 (((sc (R9 i) (R9 j) 0 0).map encO).length) true (((sc (R9 i) (R9 j) 0 0).map encO).length) ((R9 i).length) rs9.length) → (MRows G ez R9 fz fy) → (MOps G ez ((sc (R9 i) (R9 j) 0 0).map encO) fk fp fs) → (ez 59 = .inl (G.2.1, 60, .inl mk)) → (ez 60 = .inl (G.2.1, 60, .inl mp)) → (∀ j9, j9 < k → mk j9 = fk j9 ∧ mp j9 = fp j9) → (MRes G ez rs9 fr) → (MWrk G ez fq2 w1 w2 fd) → (Fr ez ev (fun j => 53 ≤ j ∧ j < 66)) → V p l E rmX6_diff s m args below meth c G A 7 (MQ below (Qg G N ad A (fun v e2 => (dfE R9 lim (i : Int) (j : Int) ≠ 0 → v = some (.int (iI 0)) ∧ MdlAt G ad e2 lim (dfE R9 lim (i : Int) (j : Int) : Nat) R9 ops ls lsz rs9) ∧ (dfE R9 lim (i : Int) (j : Int) = 0 → v = some (.int (iI ((dfS R9 (i : Int) (j : Int)).length : Int))) ∧ MdlAt G ad e2 lim 0 R9 ((dfS R9 (i : Int) (j : Int)).map encO) (dfS R9 (i : Int) (j : Int)) (R9 (i : Int).toNat).length rs9) ∧ Fr e2 ev (fun j => 53 ≤ j ∧ j < 66))) args s 0 0 A) N ad ez 0 0 234 [(0, .ref (ad 53)), (1, .int (iI (i : Int))), (2, .int (iI (j : Int))), (3, .int (iI 1)), (4, .int (iI (x : Int))), (5, .int (iI (y : Int))), (6, .int (iI (k : Int)))] [] := by
                  intro n9
                  induction n9 with
                  | zero =>
                    intro k mk mp ez hm9
                    exact absurd hm9 (Nat.not_lt_zero _)
                  | succ n9 ihc =>
                    intro k mk mp ez hm9 hk kz m1 m2 h59 h60 hcp m4 m5 hF
                    have hml : ((sc (R9 i) (R9 j) 0 0).map encO).length = (sc (R9 i) (R9 j) 0 0).length := List.length_map encO
                    refine n_iload C dX6_diff_234 6 rfl ?_
                    refine n_aload_n C dX6_diff_236 0 rfl rfl ?_
                    refine n_get (k9 := 9) C dX6_diff_237 (by omega) kz hX6_diff_X6 rfl (by decide) kX6_diff_80 rfl ?_
                    refine n_icmp_ge C dX6_diff_240 (by decide) (by omega) (by omega) (by omega) (by omega) (tgt := 277) (fun c11 => ?_) (fun c11 => ?_)
                    · refine n_aload_n C dX6_diff_277 0 rfl rfl ?_
                      refine n_get (k9 := 4) C dX6_diff_278 (by omega) kz hX6_diff_X6 rfl (by decide) kX6_diff_65 rfl ?_
                      have m3 : MMade G ez (sc (R9 i) (R9 j) 0 0) mk mp := ⟨h59, h60, fun j9 t9 ht9 => by
                        have hj9 : j9 < (sc (R9 i) (R9 j) 0 0).length := (List.getElem?_eq_some_iff.mp ht9).1
                        have h1 := m2.2.2.2.1 j9 (by omega)
                        rw [List.getElem?_map, ht9] at h1
                        have h2 : encO t9 = (fk j9, fp j9, fs j9) := Option.some.inj h1
                        have h3 := hcp j9 (by omega)
                        rw [h2]
                        exact h3, by omega, Sm_sc _ _ (by omega)⟩
                      exact n_iret C hr dX6_diff_281 (⟨fun h => absurd hcc h, fun _ => by
                        rw [hsc, Int.toNat_natCast, ← hml]
                        exact ⟨rfl, true, _, _, _, _, _, _, _, _, _, _, _, _, ⟨hli1, hli2, by omega, fun h => by cases h⟩, by rw [← hml]; exact kz, m1, m2, m3, m4, m5⟩, hF⟩)
                    · refine n_aload_n C dX6_diff_243 0 rfl rfl ?_
                      refine n_get (k9 := 11) C dX6_diff_244 (by omega) kz hX6_diff_X6 rfl (by decide) kX6_diff_25 rfl ?_
                      refine n_iload C dX6_diff_247 6 rfl ?_
                      refine n_aload_n C dX6_diff_249 0 rfl rfl ?_
                      refine n_get (k9 := 5) C dX6_diff_250 (by omega) kz hX6_diff_X6 rfl (by decide) kX6_diff_16 rfl ?_
                      refine n_iload C dX6_diff_253 6 rfl ?_
                      refine n_iald (j := k) C dX6_diff_255 (by omega) m2.1 (by omega) (by omega) (by omega) ?_
                      refine n_iast (j := k) C dX6_diff_256 (by omega) h59 (by omega) (by omega) (by omega) (fun e29 hs30 ho31 => ?_)
                      have qh32 := (ho31 53 (by decide)).trans kz
                      have qh33 := (ho31 56 (by decide)).trans m2.1
                      have qh34 := (ho31 57 (by decide)).trans m2.2.1
                      have qh35 := (ho31 60 (by decide)).trans h60
                      refine n_aload_n C dX6_diff_257 0 rfl rfl ?_
                      refine n_get (k9 := 12) C dX6_diff_258 (by omega) qh32 hX6_diff_X6 rfl (by decide) kX6_diff_28 rfl ?_
                      refine n_iload C dX6_diff_261 6 rfl ?_
                      refine n_aload_n C dX6_diff_263 0 rfl rfl ?_
                      refine n_get (k9 := 6) C dX6_diff_264 (by omega) qh32 hX6_diff_X6 rfl (by decide) kX6_diff_19 rfl ?_
                      refine n_iload C dX6_diff_267 6 rfl ?_
                      refine n_iald (j := k) C dX6_diff_269 (by omega) qh34 (by omega) (by omega) (by omega) ?_
                      refine n_iast (j := k) C dX6_diff_270 (by omega) qh35 (by omega) (by omega) (by omega) (fun e36 hs37 ho38 => ?_)
                      have qh39 := (ho38 53 (by decide)).trans qh32
                      have qh40 := (ho38 56 (by decide)).trans qh33
                      have qh41 := (ho38 57 (by decide)).trans qh34
                      have qh42 := (ho38 59 (by decide)).trans hs30
                      have hFq : Fr e36 ez (fun j9 => j9 = 59 ∨ j9 = 60) := fun j9 hj9 => (ho38 j9 (by omega)).trans (ho31 j9 (by omega))
                      refine n_iinc (lv' := [(0, .ref (ad 53)), (1, .int (iI (i : Int))), (2, .int (iI (j : Int))), (3, .int (iI 1)), (4, .int (iI (x : Int))), (5, .int (iI (y : Int))), (6, .int (iI ((k : Int) + 1)))]) C dX6_diff_271 6 rfl (by decide) rfl ?_
                      refine n_goto (tgt := 234) C dX6_diff_274 (by decide) ?_
                      refine n_lv (lv2 := [(0, .ref (ad 53)), (1, .int (iI (i : Int))), (2, .int (iI (j : Int))), (3, .int (iI 1)), (4, .int (iI (x : Int))), (5, .int (iI (y : Int))), (6, .int (iI ((k + 1 : Nat) : Int)))]) (by simp) ?_
                      exact ihc (k + 1) _ _ e36 (by omega) (by omega) ((hFq 53 (by omega)).trans kz) (m1.fr hFq (by omega) (by omega)) (m2.fr hFq (by omega) (by omega) (by omega)) qh42 hs37 (fun j9 hj9 => by
                        by_cases e : j9 = k
                        · subst e; simp [upd]
                        · simp only [upd, if_neg e]; exact hcp j9 (by omega)) (m4.fr hFq (by omega)) (m5.fr hFq (by omega) (by omega) (by omega) (by omega)) (fun j9 hj9 => (hFq j9 (by omega)).trans (hF j9 hj9))
                exact loopc _ 0 mk mp e25 (Nat.lt_succ_self _) (Nat.zero_le _) kz m1 m2 m3.1 m3.2.1 (fun j9 hj9 => absurd hj9 (Nat.not_lt_zero j9)) m4 m5 hFz
              · have hxy : x + y < (R9 i).length + (R9 j).length := by omega
                refine n_iload C dX6_diff_102 4 rfl ?_
                refine n_aload_n C dX6_diff_104 0 rfl rfl ?_
                refine n_get (k9 := 2) C dX6_diff_105 (by omega) k53 hX6_diff_X6 rfl (by decide) kX6_diff_7 rfl ?_
                refine n_iload_n C dX6_diff_108 1 rfl rfl ?_
                refine n_iald (j := i) C dX6_diff_109 (by omega) m1.1 (by omega) (by omega) (by omega) ?_
                refine n_topI (y := (iI ((R9 i).length : Int))) (zi) ?_
                refine n_icmp_ge C dX6_diff_110 (by decide) (by omega) (by omega) (by omega) (by omega) (tgt := 146) (fun c5 => ?_) (fun c5 => ?_)
                · have hsam : sam (R9 i) (R9 j) x y = false := sam_no (Or.inl (by omega))
                  have hstp : stp (R9 i) (R9 j) x y = if x < (R9 i).length ∧ rs (R9 i) (R9 j) (x + 1) y < rs (R9 i) (R9 j) x y then 0 else 1 := by unfold stp; rw [hsam]; rfl
                  refine n_aload_n C dX6_diff_146 0 rfl rfl ?_
                  refine n_iload_n C dX6_diff_147 1 rfl rfl ?_
                  refine n_iload C dX6_diff_148 4 rfl ?_
                  refine n_iload C dX6_diff_150 5 rfl ?_
                  refine n_callV (rest := []) C dX6_diff_152 (TX6_deletes l hN k53 m1 (a := i) (b := j) (by omega) (by omega) m5.1 hok hx hy) (cwV 3 C.2.2.2.2.1 gX6_diff_X6_deletes rfl rfl rfl cdX6_deletes ⟨Nat.le_of_ble_eq_true rfl, Nat.le_of_ble_eq_true rfl⟩) (by omega) k53 rfl rfl rfl (Nat.le_of_ble_eq_true rfl) ⟨Nat.le_of_ble_eq_true rfl, Nat.le_of_ble_eq_true rfl⟩ ?_
                  rintro _ _ ⟨rfl, rfl⟩
                  refine n_pc (pc2 := 155) rfl (n_st (st2 := [.int (bI (decide (x < (R9 i).length ∧ rs (R9 i) (R9 j) (x + 1) y < rs (R9 i) (R9 j) x y)))]) rfl ?_)
                  refine n_if_eqB C dX6_diff_155 (by decide) (tgt := 183) (fun c8 => ?_) (fun c8 => ?_)
                  · have hs : stp (R9 i) (R9 j) x y = 1 := by rw [hstp, if_neg (of_decide_eq_false c8)]
                    have hy2 := stp_ins hx hy hxy hs
                    have hg9 := yj y hy2
                    rw [sc_1 hx hy hxy hs hg9] at hpre
                    have hl9 := congrArg List.length hpre
                    simp only [List.length_append, List.length_cons] at hl9
                    refine n_aload_n C dX6_diff_183 0 rfl rfl ?_
                    refine n_iconst C dX6_diff_184 ?_
                    refine n_iload C dX6_diff_185 4 rfl ?_
                    refine n_aload_n C dX6_diff_187 0 rfl rfl ?_
                    refine n_get (k9 := 3) C dX6_diff_188 (by omega) k53 hX6_diff_X6 rfl (by decide) kX6_diff_13 rfl ?_
                    refine n_bipush C dX6_diff_191 (by decide) ?_
                    refine n_iload_n C dX6_diff_193 2 rfl rfl ?_
                    refine n_imul C dX6_diff_194 ?_
                    refine n_iload C dX6_diff_195 5 rfl ?_
                    refine n_iadd C dX6_diff_197 ?_
                    refine n_iald (j := 20 * j + y) C dX6_diff_198 (by omega) m1.2.1 (by omega) (by omega) (by omega) ?_
                    refine n_callV (rest := []) C dX6_diff_199 (TX6_put l hN k53 m2 (by rw [List.length_map]; omega)) (cwV 3 C.2.2.2.2.1 gX6_diff_X6_put rfl rfl rfl cdX6_put ⟨Nat.le_of_ble_eq_true rfl, Nat.le_of_ble_eq_true rfl⟩) (by omega) k53 rfl rfl rfl (Nat.le_of_ble_eq_true rfl) ⟨Nat.le_of_ble_eq_true rfl, Nat.le_of_ble_eq_true rfl⟩ ?_
                    rintro _ e9 ⟨rfl, k53, ⟨fk9, fp9, fs9, m2⟩, hF9⟩
                    refine n_pc (pc2 := 202) rfl (n_st (st2 := []) rfl ?_)
                    have m1 := m1.fr hF9 (by omega) (by omega)
                    have m3 := m3.fr hF9 (by omega) (by omega)
                    have m4 := m4.fr hF9 (by omega)
                    have m5 := m5.fr hF9 (by omega) (by omega) (by omega) (by omega)
                    refine n_iinc (lv' := [(0, .ref (ad 53)), (1, .int (iI (i : Int))), (2, .int (iI (j : Int))), (3, .int (iI 1)), (4, .int (iI (x : Int))), (5, .int (iI ((y : Int) + 1)))]) C dX6_diff_202 5 rfl (by decide) rfl ?_
                    refine n_goto (tgt := 80) C dX6_diff_205 (by decide) ?_
                    refine n_lv (lv2 := [(0, .ref (ad 53)), (1, .int (iI (i : Int))), (2, .int (iI (j : Int))), (3, .int (iI 1)), (4, .int (iI ((x : Nat) : Int))), (5, .int (iI ((y + 1 : Nat) : Int)))]) (by simp) ?_
                    exact ih (x) (y + 1) (pre ++ [(false, x, fy (20 * j + y))]) fk9 fp9 fs9 e9 (by omega) (by omega) (by omega) (by rw [← hpre, List.append_assoc]; rfl) (by rw [k53, List.map_append, List.length_append]; rfl) m1 (by rw [List.map_append]; exact m2) m3 m4 m5 (fun j9 hj9 => (hF9 j9 (by omega)).trans (hF j9 hj9))
                  · have hs : stp (R9 i) (R9 j) x y = 0 := by rw [hstp, if_pos (of_decide_eq_true c8)]
                    have hx2 := stp_del hs
                    have hg9 := yi x hx2
                    rw [sc_0 hx hy hxy hs hg9] at hpre
                    have hl9 := congrArg List.length hpre
                    simp only [List.length_append, List.length_cons] at hl9
                    refine n_aload_n C dX6_diff_158 0 rfl rfl ?_
                    refine n_iconst C dX6_diff_159 ?_
                    refine n_iload C dX6_diff_160 4 rfl ?_
                    refine n_aload_n C dX6_diff_162 0 rfl rfl ?_
                    refine n_get (k9 := 3) C dX6_diff_163 (by omega) k53 hX6_diff_X6 rfl (by decide) kX6_diff_13 rfl ?_
                    refine n_bipush C dX6_diff_166 (by decide) ?_
                    refine n_iload_n C dX6_diff_168 1 rfl rfl ?_
                    refine n_imul C dX6_diff_169 ?_
                    refine n_iload C dX6_diff_170 4 rfl ?_
                    refine n_iadd C dX6_diff_172 ?_
                    refine n_iald (j := 20 * i + x) C dX6_diff_173 (by omega) m1.2.1 (by omega) (by omega) (by omega) ?_
                    refine n_callV (rest := []) C dX6_diff_174 (TX6_put l hN k53 m2 (by rw [List.length_map]; omega)) (cwV 3 C.2.2.2.2.1 gX6_diff_X6_put rfl rfl rfl cdX6_put ⟨Nat.le_of_ble_eq_true rfl, Nat.le_of_ble_eq_true rfl⟩) (by omega) k53 rfl rfl rfl (Nat.le_of_ble_eq_true rfl) ⟨Nat.le_of_ble_eq_true rfl, Nat.le_of_ble_eq_true rfl⟩ ?_
                    rintro _ e9 ⟨rfl, k53, ⟨fk9, fp9, fs9, m2⟩, hF9⟩
                    refine n_pc (pc2 := 177) rfl (n_st (st2 := []) rfl ?_)
                    have m1 := m1.fr hF9 (by omega) (by omega)
                    have m3 := m3.fr hF9 (by omega) (by omega)
                    have m4 := m4.fr hF9 (by omega)
                    have m5 := m5.fr hF9 (by omega) (by omega) (by omega) (by omega)
                    refine n_iinc (lv' := [(0, .ref (ad 53)), (1, .int (iI (i : Int))), (2, .int (iI (j : Int))), (3, .int (iI 1)), (4, .int (iI ((x : Int) + 1))), (5, .int (iI (y : Int)))]) C dX6_diff_177 4 rfl (by decide) rfl ?_
                    refine n_goto (tgt := 80) C dX6_diff_180 (by decide) ?_
                    refine n_lv (lv2 := [(0, .ref (ad 53)), (1, .int (iI (i : Int))), (2, .int (iI (j : Int))), (3, .int (iI 1)), (4, .int (iI ((x + 1 : Nat) : Int))), (5, .int (iI ((y : Nat) : Int)))]) (by simp) ?_
                    exact ih (x + 1) (y) (pre ++ [(true, x, fy (20 * i + x))]) fk9 fp9 fs9 e9 (by omega) (by omega) (by omega) (by rw [← hpre, List.append_assoc]; rfl) (by rw [k53, List.map_append, List.length_append]; rfl) m1 (by rw [List.map_append]; exact m2) m3 m4 m5 (fun j9 hj9 => (hF9 j9 (by omega)).trans (hF j9 hj9))
                · refine n_iload C dX6_diff_113 5 rfl ?_
                  refine n_aload_n C dX6_diff_115 0 rfl rfl ?_
                  refine n_get (k9 := 2) C dX6_diff_116 (by omega) k53 hX6_diff_X6 rfl (by decide) kX6_diff_7 rfl ?_
                  refine n_iload_n C dX6_diff_119 2 rfl rfl ?_
                  refine n_iald (j := j) C dX6_diff_120 (by omega) m1.1 (by omega) (by omega) (by omega) ?_
                  refine n_topI (y := (iI ((R9 j).length : Int))) (zj) ?_
                  refine n_icmp_ge C dX6_diff_121 (by decide) (by omega) (by omega) (by omega) (by omega) (tgt := 146) (fun c6 => ?_) (fun c6 => ?_)
                  · have hsam : sam (R9 i) (R9 j) x y = false := sam_no (Or.inr (by omega))
                    have hstp : stp (R9 i) (R9 j) x y = if x < (R9 i).length ∧ rs (R9 i) (R9 j) (x + 1) y < rs (R9 i) (R9 j) x y then 0 else 1 := by unfold stp; rw [hsam]; rfl
                    refine n_aload_n C dX6_diff_146 0 rfl rfl ?_
                    refine n_iload_n C dX6_diff_147 1 rfl rfl ?_
                    refine n_iload C dX6_diff_148 4 rfl ?_
                    refine n_iload C dX6_diff_150 5 rfl ?_
                    refine n_callV (rest := []) C dX6_diff_152 (TX6_deletes l hN k53 m1 (a := i) (b := j) (by omega) (by omega) m5.1 hok hx hy) (cwV 3 C.2.2.2.2.1 gX6_diff_X6_deletes rfl rfl rfl cdX6_deletes ⟨Nat.le_of_ble_eq_true rfl, Nat.le_of_ble_eq_true rfl⟩) (by omega) k53 rfl rfl rfl (Nat.le_of_ble_eq_true rfl) ⟨Nat.le_of_ble_eq_true rfl, Nat.le_of_ble_eq_true rfl⟩ ?_
                    rintro _ _ ⟨rfl, rfl⟩
                    refine n_pc (pc2 := 155) rfl (n_st (st2 := [.int (bI (decide (x < (R9 i).length ∧ rs (R9 i) (R9 j) (x + 1) y < rs (R9 i) (R9 j) x y)))]) rfl ?_)
                    refine n_if_eqB C dX6_diff_155 (by decide) (tgt := 183) (fun c8 => ?_) (fun c8 => ?_)
                    · have hs : stp (R9 i) (R9 j) x y = 1 := by rw [hstp, if_neg (of_decide_eq_false c8)]
                      have hy2 := stp_ins hx hy hxy hs
                      have hg9 := yj y hy2
                      rw [sc_1 hx hy hxy hs hg9] at hpre
                      have hl9 := congrArg List.length hpre
                      simp only [List.length_append, List.length_cons] at hl9
                      refine n_aload_n C dX6_diff_183 0 rfl rfl ?_
                      refine n_iconst C dX6_diff_184 ?_
                      refine n_iload C dX6_diff_185 4 rfl ?_
                      refine n_aload_n C dX6_diff_187 0 rfl rfl ?_
                      refine n_get (k9 := 3) C dX6_diff_188 (by omega) k53 hX6_diff_X6 rfl (by decide) kX6_diff_13 rfl ?_
                      refine n_bipush C dX6_diff_191 (by decide) ?_
                      refine n_iload_n C dX6_diff_193 2 rfl rfl ?_
                      refine n_imul C dX6_diff_194 ?_
                      refine n_iload C dX6_diff_195 5 rfl ?_
                      refine n_iadd C dX6_diff_197 ?_
                      refine n_iald (j := 20 * j + y) C dX6_diff_198 (by omega) m1.2.1 (by omega) (by omega) (by omega) ?_
                      refine n_callV (rest := []) C dX6_diff_199 (TX6_put l hN k53 m2 (by rw [List.length_map]; omega)) (cwV 3 C.2.2.2.2.1 gX6_diff_X6_put rfl rfl rfl cdX6_put ⟨Nat.le_of_ble_eq_true rfl, Nat.le_of_ble_eq_true rfl⟩) (by omega) k53 rfl rfl rfl (Nat.le_of_ble_eq_true rfl) ⟨Nat.le_of_ble_eq_true rfl, Nat.le_of_ble_eq_true rfl⟩ ?_
                      rintro _ e9 ⟨rfl, k53, ⟨fk9, fp9, fs9, m2⟩, hF9⟩
                      refine n_pc (pc2 := 202) rfl (n_st (st2 := []) rfl ?_)
                      have m1 := m1.fr hF9 (by omega) (by omega)
                      have m3 := m3.fr hF9 (by omega) (by omega)
                      have m4 := m4.fr hF9 (by omega)
                      have m5 := m5.fr hF9 (by omega) (by omega) (by omega) (by omega)
                      refine n_iinc (lv' := [(0, .ref (ad 53)), (1, .int (iI (i : Int))), (2, .int (iI (j : Int))), (3, .int (iI 1)), (4, .int (iI (x : Int))), (5, .int (iI ((y : Int) + 1)))]) C dX6_diff_202 5 rfl (by decide) rfl ?_
                      refine n_goto (tgt := 80) C dX6_diff_205 (by decide) ?_
                      refine n_lv (lv2 := [(0, .ref (ad 53)), (1, .int (iI (i : Int))), (2, .int (iI (j : Int))), (3, .int (iI 1)), (4, .int (iI ((x : Nat) : Int))), (5, .int (iI ((y + 1 : Nat) : Int)))]) (by simp) ?_
                      exact ih (x) (y + 1) (pre ++ [(false, x, fy (20 * j + y))]) fk9 fp9 fs9 e9 (by omega) (by omega) (by omega) (by rw [← hpre, List.append_assoc]; rfl) (by rw [k53, List.map_append, List.length_append]; rfl) m1 (by rw [List.map_append]; exact m2) m3 m4 m5 (fun j9 hj9 => (hF9 j9 (by omega)).trans (hF j9 hj9))
                    · have hs : stp (R9 i) (R9 j) x y = 0 := by rw [hstp, if_pos (of_decide_eq_true c8)]
                      have hx2 := stp_del hs
                      have hg9 := yi x hx2
                      rw [sc_0 hx hy hxy hs hg9] at hpre
                      have hl9 := congrArg List.length hpre
                      simp only [List.length_append, List.length_cons] at hl9
                      refine n_aload_n C dX6_diff_158 0 rfl rfl ?_
                      refine n_iconst C dX6_diff_159 ?_
                      refine n_iload C dX6_diff_160 4 rfl ?_
                      refine n_aload_n C dX6_diff_162 0 rfl rfl ?_
                      refine n_get (k9 := 3) C dX6_diff_163 (by omega) k53 hX6_diff_X6 rfl (by decide) kX6_diff_13 rfl ?_
                      refine n_bipush C dX6_diff_166 (by decide) ?_
                      refine n_iload_n C dX6_diff_168 1 rfl rfl ?_
                      refine n_imul C dX6_diff_169 ?_
                      refine n_iload C dX6_diff_170 4 rfl ?_
                      refine n_iadd C dX6_diff_172 ?_
                      refine n_iald (j := 20 * i + x) C dX6_diff_173 (by omega) m1.2.1 (by omega) (by omega) (by omega) ?_
                      refine n_callV (rest := []) C dX6_diff_174 (TX6_put l hN k53 m2 (by rw [List.length_map]; omega)) (cwV 3 C.2.2.2.2.1 gX6_diff_X6_put rfl rfl rfl cdX6_put ⟨Nat.le_of_ble_eq_true rfl, Nat.le_of_ble_eq_true rfl⟩) (by omega) k53 rfl rfl rfl (Nat.le_of_ble_eq_true rfl) ⟨Nat.le_of_ble_eq_true rfl, Nat.le_of_ble_eq_true rfl⟩ ?_
                      rintro _ e9 ⟨rfl, k53, ⟨fk9, fp9, fs9, m2⟩, hF9⟩
                      refine n_pc (pc2 := 177) rfl (n_st (st2 := []) rfl ?_)
                      have m1 := m1.fr hF9 (by omega) (by omega)
                      have m3 := m3.fr hF9 (by omega) (by omega)
                      have m4 := m4.fr hF9 (by omega)
                      have m5 := m5.fr hF9 (by omega) (by omega) (by omega) (by omega)
                      refine n_iinc (lv' := [(0, .ref (ad 53)), (1, .int (iI (i : Int))), (2, .int (iI (j : Int))), (3, .int (iI 1)), (4, .int (iI ((x : Int) + 1))), (5, .int (iI (y : Int)))]) C dX6_diff_177 4 rfl (by decide) rfl ?_
                      refine n_goto (tgt := 80) C dX6_diff_180 (by decide) ?_
                      refine n_lv (lv2 := [(0, .ref (ad 53)), (1, .int (iI (i : Int))), (2, .int (iI (j : Int))), (3, .int (iI 1)), (4, .int (iI ((x + 1 : Nat) : Int))), (5, .int (iI ((y : Nat) : Int)))]) (by simp) ?_
                      exact ih (x + 1) (y) (pre ++ [(true, x, fy (20 * i + x))]) fk9 fp9 fs9 e9 (by omega) (by omega) (by omega) (by rw [← hpre, List.append_assoc]; rfl) (by rw [k53, List.map_append, List.length_append]; rfl) m1 (by rw [List.map_append]; exact m2) m3 m4 m5 (fun j9 hj9 => (hF9 j9 (by omega)).trans (hF j9 hj9))
                  · refine n_aload_n C dX6_diff_124 0 rfl rfl ?_
                    refine n_iload_n C dX6_diff_125 1 rfl rfl ?_
                    refine n_iload C dX6_diff_126 4 rfl ?_
                    refine n_iload_n C dX6_diff_128 2 rfl rfl ?_
                    refine n_iload C dX6_diff_129 5 rfl ?_
                    refine n_callV (rest := []) C dX6_diff_131 (TX6_same l hN k53 m1 (a := i) (b := j) (by omega) (by omega) (by omega) (by omega)) (cwV 4 C.2.2.2.2.1 gX6_diff_X6_same rfl rfl rfl cdX6_same ⟨Nat.le_of_ble_eq_true rfl, Nat.le_of_ble_eq_true rfl⟩) (by omega) k53 rfl rfl rfl (Nat.le_of_ble_eq_true rfl) ⟨Nat.le_of_ble_eq_true rfl, Nat.le_of_ble_eq_true rfl⟩ ?_
                    rintro _ _ ⟨rfl, rfl⟩
                    refine n_pc (pc2 := 134) rfl (n_st (st2 := [.int (bI (sam (R9 i) (R9 j) x y))]) rfl ?_)
                    refine n_if_eqB C dX6_diff_134 (by decide) (tgt := 146) (fun c7 => ?_) (fun c7 => ?_)
                    · have hsam : sam (R9 i) (R9 j) x y = false := c7
                      have hstp : stp (R9 i) (R9 j) x y = if x < (R9 i).length ∧ rs (R9 i) (R9 j) (x + 1) y < rs (R9 i) (R9 j) x y then 0 else 1 := by unfold stp; rw [hsam]; rfl
                      refine n_aload_n C dX6_diff_146 0 rfl rfl ?_
                      refine n_iload_n C dX6_diff_147 1 rfl rfl ?_
                      refine n_iload C dX6_diff_148 4 rfl ?_
                      refine n_iload C dX6_diff_150 5 rfl ?_
                      refine n_callV (rest := []) C dX6_diff_152 (TX6_deletes l hN k53 m1 (a := i) (b := j) (by omega) (by omega) m5.1 hok hx hy) (cwV 3 C.2.2.2.2.1 gX6_diff_X6_deletes rfl rfl rfl cdX6_deletes ⟨Nat.le_of_ble_eq_true rfl, Nat.le_of_ble_eq_true rfl⟩) (by omega) k53 rfl rfl rfl (Nat.le_of_ble_eq_true rfl) ⟨Nat.le_of_ble_eq_true rfl, Nat.le_of_ble_eq_true rfl⟩ ?_
                      rintro _ _ ⟨rfl, rfl⟩
                      refine n_pc (pc2 := 155) rfl (n_st (st2 := [.int (bI (decide (x < (R9 i).length ∧ rs (R9 i) (R9 j) (x + 1) y < rs (R9 i) (R9 j) x y)))]) rfl ?_)
                      refine n_if_eqB C dX6_diff_155 (by decide) (tgt := 183) (fun c8 => ?_) (fun c8 => ?_)
                      · have hs : stp (R9 i) (R9 j) x y = 1 := by rw [hstp, if_neg (of_decide_eq_false c8)]
                        have hy2 := stp_ins hx hy hxy hs
                        have hg9 := yj y hy2
                        rw [sc_1 hx hy hxy hs hg9] at hpre
                        have hl9 := congrArg List.length hpre
                        simp only [List.length_append, List.length_cons] at hl9
                        refine n_aload_n C dX6_diff_183 0 rfl rfl ?_
                        refine n_iconst C dX6_diff_184 ?_
                        refine n_iload C dX6_diff_185 4 rfl ?_
                        refine n_aload_n C dX6_diff_187 0 rfl rfl ?_
                        refine n_get (k9 := 3) C dX6_diff_188 (by omega) k53 hX6_diff_X6 rfl (by decide) kX6_diff_13 rfl ?_
                        refine n_bipush C dX6_diff_191 (by decide) ?_
                        refine n_iload_n C dX6_diff_193 2 rfl rfl ?_
                        refine n_imul C dX6_diff_194 ?_
                        refine n_iload C dX6_diff_195 5 rfl ?_
                        refine n_iadd C dX6_diff_197 ?_
                        refine n_iald (j := 20 * j + y) C dX6_diff_198 (by omega) m1.2.1 (by omega) (by omega) (by omega) ?_
                        refine n_callV (rest := []) C dX6_diff_199 (TX6_put l hN k53 m2 (by rw [List.length_map]; omega)) (cwV 3 C.2.2.2.2.1 gX6_diff_X6_put rfl rfl rfl cdX6_put ⟨Nat.le_of_ble_eq_true rfl, Nat.le_of_ble_eq_true rfl⟩) (by omega) k53 rfl rfl rfl (Nat.le_of_ble_eq_true rfl) ⟨Nat.le_of_ble_eq_true rfl, Nat.le_of_ble_eq_true rfl⟩ ?_
                        rintro _ e9 ⟨rfl, k53, ⟨fk9, fp9, fs9, m2⟩, hF9⟩
                        refine n_pc (pc2 := 202) rfl (n_st (st2 := []) rfl ?_)
                        have m1 := m1.fr hF9 (by omega) (by omega)
                        have m3 := m3.fr hF9 (by omega) (by omega)
                        have m4 := m4.fr hF9 (by omega)
                        have m5 := m5.fr hF9 (by omega) (by omega) (by omega) (by omega)
                        refine n_iinc (lv' := [(0, .ref (ad 53)), (1, .int (iI (i : Int))), (2, .int (iI (j : Int))), (3, .int (iI 1)), (4, .int (iI (x : Int))), (5, .int (iI ((y : Int) + 1)))]) C dX6_diff_202 5 rfl (by decide) rfl ?_
                        refine n_goto (tgt := 80) C dX6_diff_205 (by decide) ?_
                        refine n_lv (lv2 := [(0, .ref (ad 53)), (1, .int (iI (i : Int))), (2, .int (iI (j : Int))), (3, .int (iI 1)), (4, .int (iI ((x : Nat) : Int))), (5, .int (iI ((y + 1 : Nat) : Int)))]) (by simp) ?_
                        exact ih (x) (y + 1) (pre ++ [(false, x, fy (20 * j + y))]) fk9 fp9 fs9 e9 (by omega) (by omega) (by omega) (by rw [← hpre, List.append_assoc]; rfl) (by rw [k53, List.map_append, List.length_append]; rfl) m1 (by rw [List.map_append]; exact m2) m3 m4 m5 (fun j9 hj9 => (hF9 j9 (by omega)).trans (hF j9 hj9))
                      · have hs : stp (R9 i) (R9 j) x y = 0 := by rw [hstp, if_pos (of_decide_eq_true c8)]
                        have hx2 := stp_del hs
                        have hg9 := yi x hx2
                        rw [sc_0 hx hy hxy hs hg9] at hpre
                        have hl9 := congrArg List.length hpre
                        simp only [List.length_append, List.length_cons] at hl9
                        refine n_aload_n C dX6_diff_158 0 rfl rfl ?_
                        refine n_iconst C dX6_diff_159 ?_
                        refine n_iload C dX6_diff_160 4 rfl ?_
                        refine n_aload_n C dX6_diff_162 0 rfl rfl ?_
                        refine n_get (k9 := 3) C dX6_diff_163 (by omega) k53 hX6_diff_X6 rfl (by decide) kX6_diff_13 rfl ?_
                        refine n_bipush C dX6_diff_166 (by decide) ?_
                        refine n_iload_n C dX6_diff_168 1 rfl rfl ?_
                        refine n_imul C dX6_diff_169 ?_
                        refine n_iload C dX6_diff_170 4 rfl ?_
                        refine n_iadd C dX6_diff_172 ?_
                        refine n_iald (j := 20 * i + x) C dX6_diff_173 (by omega) m1.2.1 (by omega) (by omega) (by omega) ?_
                        refine n_callV (rest := []) C dX6_diff_174 (TX6_put l hN k53 m2 (by rw [List.length_map]; omega)) (cwV 3 C.2.2.2.2.1 gX6_diff_X6_put rfl rfl rfl cdX6_put ⟨Nat.le_of_ble_eq_true rfl, Nat.le_of_ble_eq_true rfl⟩) (by omega) k53 rfl rfl rfl (Nat.le_of_ble_eq_true rfl) ⟨Nat.le_of_ble_eq_true rfl, Nat.le_of_ble_eq_true rfl⟩ ?_
                        rintro _ e9 ⟨rfl, k53, ⟨fk9, fp9, fs9, m2⟩, hF9⟩
                        refine n_pc (pc2 := 177) rfl (n_st (st2 := []) rfl ?_)
                        have m1 := m1.fr hF9 (by omega) (by omega)
                        have m3 := m3.fr hF9 (by omega) (by omega)
                        have m4 := m4.fr hF9 (by omega)
                        have m5 := m5.fr hF9 (by omega) (by omega) (by omega) (by omega)
                        refine n_iinc (lv' := [(0, .ref (ad 53)), (1, .int (iI (i : Int))), (2, .int (iI (j : Int))), (3, .int (iI 1)), (4, .int (iI ((x : Int) + 1))), (5, .int (iI (y : Int)))]) C dX6_diff_177 4 rfl (by decide) rfl ?_
                        refine n_goto (tgt := 80) C dX6_diff_180 (by decide) ?_
                        refine n_lv (lv2 := [(0, .ref (ad 53)), (1, .int (iI (i : Int))), (2, .int (iI (j : Int))), (3, .int (iI 1)), (4, .int (iI ((x + 1 : Nat) : Int))), (5, .int (iI ((y : Nat) : Int)))]) (by simp) ?_
                        exact ih (x + 1) (y) (pre ++ [(true, x, fy (20 * i + x))]) fk9 fp9 fs9 e9 (by omega) (by omega) (by omega) (by rw [← hpre, List.append_assoc]; rfl) (by rw [k53, List.map_append, List.length_append]; rfl) m1 (by rw [List.map_append]; exact m2) m3 m4 m5 (fun j9 hj9 => (hF9 j9 (by omega)).trans (hF j9 hj9))
                    · have hs : stp (R9 i) (R9 j) x y = 2 := by unfold stp; rw [c7]; rfl
                      rw [sc_2 hx hy hxy hs] at hpre
                      refine n_iinc (lv' := [(0, .ref (ad 53)), (1, .int (iI (i : Int))), (2, .int (iI (j : Int))), (3, .int (iI 1)), (4, .int (iI ((x : Int) + 1))), (5, .int (iI (y : Int)))]) C dX6_diff_137 4 rfl (by decide) rfl ?_
                      refine n_iinc (lv' := [(0, .ref (ad 53)), (1, .int (iI (i : Int))), (2, .int (iI (j : Int))), (3, .int (iI 1)), (4, .int (iI ((x : Int) + 1))), (5, .int (iI ((y : Int) + 1)))]) C dX6_diff_140 5 rfl (by decide) rfl ?_
                      refine n_goto (tgt := 80) C dX6_diff_143 (by decide) ?_
                      refine n_lv (lv2 := [(0, .ref (ad 53)), (1, .int (iI (i : Int))), (2, .int (iI (j : Int))), (3, .int (iI 1)), (4, .int (iI ((x + 1 : Nat) : Int))), (5, .int (iI ((y + 1 : Nat) : Int)))]) (by simp) ?_
                      exact ih (x + 1) (y + 1) pre fk fp fs ex (by omega) (by omega) (by omega) hpre k53 m1 m2 m3 m4 m5 hF
        exact loop _ 0 0 [] fk fp fs e13 (Nat.lt_succ_self _) (Nat.zero_le _) (Nat.zero_le _) rfl hs14 m1 m2 m3 m4 m5 hF0
      · have hcc : dfE R9 lim (i : Int) (j : Int) = 2 := by rw [hcv, if_pos (by omega)]
        refine n_iconst C dX6_diff_52 ?_
        refine n_goto (tgt := 57) C dX6_diff_53 (by decide) ?_
        refine n_put (k9 := 1) (fs2 := [.int (iI lim), .int (iI 2), .ref (ad 54), .ref (ad 55), .int (iI (ops.length : Int)), .ref (ad 56), .ref (ad 57), .ref (ad 58), .int (bI cmp), .int (iI (ls.length : Int)), .int (iI (lsz : Int)), .ref (ad 59), .ref (ad 60), .int (iI (rs9.length : Int)), .ref (ad 61), .ref (ad 62), .ref (ad 63), .ref (ad 64), .ref (ad 65)]) C dX6_diff_57 (by omega) k53 hX6_diff_X6 tyX6_ok nmX6 rfl (by decide) kX6_diff_50 rfl rfl rfl (Nat.le_of_ble_eq_true rfl) rfl (fun e43 hs44 ho45 => ?_)
        have hP46 : Fr e43 _ (fun j => j = 53) := fun j hj => ho45 j hj
        have m1 := m1.fr hP46 (by omega) (by omega)
        have m2 := m2.fr hP46 (by omega) (by omega) (by omega)
        have m3 := m3.fr hP46 (by omega) (by omega)
        have m4 := m4.fr hP46 (by omega)
        have m5 := m5.fr hP46 (by omega) (by omega) (by omega) (by omega)
        refine n_aload_n C dX6_diff_60 0 rfl rfl ?_
        refine n_get (k9 := 1) C dX6_diff_61 (by omega) hs44 hX6_diff_X6 rfl (by decide) kX6_diff_50 rfl ?_
        refine n_if_le C dX6_diff_64 (by decide) (by omega) (by omega) (tgt := 69) (fun c9 => absurd c9 (by omega)) (fun _ => ?_)
        refine n_iconst C dX6_diff_67 ?_
        exact n_iret C hr dX6_diff_68 (⟨fun _ => ⟨rfl, by rw [hcc]; exact ⟨cmp, _, _, _, _, _, _, _, _, _, _, _, _, ⟨hli1, hli2, hlsz, hcmp⟩, hs44, m1, m2, m3, m4, m5⟩⟩, fun h => absurd h (by rw [hcc]; decide), fun j hj => (hP46 j (by omega)).trans (hF1 j (by omega))⟩)
