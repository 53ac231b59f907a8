set_option maxRecDepth 100000 in
theorem hX5_checkOperation_nIAa : Cond.classLink RX5 84 nIA ∈ wsX5_checkOperation := List.mem_of_getElem? (i := 1) rfl
set_option maxRecDepth 100000 in
theorem hX5_checkOperation_nIAb : Cond.initialized nIA ∈ wsX5_checkOperation := List.mem_of_getElem? (i := 2) rfl
theorem hX5_checkOperation_nIAc : ∀ w ∈ (vx_atS RX5 88 nIA nSup).filter goodWord, w ∈ wsX5_checkOperation := fun w h => List.mem_cons_of_mem _ (List.mem_append_left _ (List.mem_append_left _ (List.mem_append_right _ h)))
set_option maxRecDepth 100000 in
theorem hX5_checkOperation_nIBa : Cond.classLink RX5 178 nIB ∈ wsX5_checkOperation := List.mem_of_getElem? (i := 3) rfl
set_option maxRecDepth 100000 in
theorem hX5_checkOperation_nIBb : Cond.initialized nIB ∈ wsX5_checkOperation := List.mem_of_getElem? (i := 4) rfl
theorem hX5_checkOperation_nIBc : ∀ w ∈ (vx_atS RX5 182 nIB nSup).filter goodWord, w ∈ wsX5_checkOperation := fun w h => List.mem_cons_of_mem _ (List.mem_append_left _ (List.mem_append_right _ h))
set_option maxRecDepth 100000 in
theorem hX5_checkOperation_nISa : Cond.classLink RX5 99 nIS ∈ wsX5_checkOperation := List.mem_of_getElem? (i := 5) rfl
set_option maxRecDepth 100000 in
theorem hX5_checkOperation_nISb : Cond.initialized nIS ∈ wsX5_checkOperation := List.mem_of_getElem? (i := 6) rfl
theorem hX5_checkOperation_nISc : ∀ w ∈ (vx_atS RX5 103 nIS nSup).filter goodWord, w ∈ wsX5_checkOperation := fun w h => List.mem_cons_of_mem _ (List.mem_append_right _ h)
set_option maxRecDepth 100000 in
theorem hX5_checkRoom_nUOa : Cond.classLink RX5 185 nUO ∈ wsX5_checkRoom := List.mem_of_getElem? (i := 1) rfl
set_option maxRecDepth 100000 in
theorem hX5_checkRoom_nUOb : Cond.initialized nUO ∈ wsX5_checkRoom := List.mem_of_getElem? (i := 2) rfl
theorem hX5_checkRoom_nUOc : ∀ w ∈ (vx_atS RX5 189 nUO nSup).filter goodWord, w ∈ wsX5_checkRoom := fun w h => List.mem_cons_of_mem _ (List.mem_append_right _ h)
set_option maxRecDepth 100000 in
theorem hX5_diff_nIAa : Cond.classLink RX5 84 nIA ∈ wsX5_diff := List.mem_of_getElem? (i := 1) rfl
set_option maxRecDepth 100000 in
theorem hX5_diff_nIAb : Cond.initialized nIA ∈ wsX5_diff := List.mem_of_getElem? (i := 2) rfl
theorem hX5_diff_nIAc : ∀ w ∈ (vx_atS RX5 88 nIA nSup).filter goodWord, w ∈ wsX5_diff := fun w h => List.mem_cons_of_mem _ (List.mem_append_left _ (List.mem_append_right _ h))
set_option maxRecDepth 100000 in
theorem hX5_diff_nISa : Cond.classLink RX5 99 nIS ∈ wsX5_diff := List.mem_of_getElem? (i := 3) rfl
set_option maxRecDepth 100000 in
theorem hX5_diff_nISb : Cond.initialized nIS ∈ wsX5_diff := List.mem_of_getElem? (i := 4) rfl
theorem hX5_diff_nISc : ∀ w ∈ (vx_atS RX5 103 nIS nSup).filter goodWord, w ∈ wsX5_diff := fun w h => List.mem_cons_of_mem _ (List.mem_append_right _ h)
set_option maxRecDepth 100000 in
theorem hX5_patch_nIAa : Cond.classLink RX5 84 nIA ∈ wsX5_patch := List.mem_of_getElem? (i := 1) rfl
set_option maxRecDepth 100000 in
theorem hX5_patch_nIAb : Cond.initialized nIA ∈ wsX5_patch := List.mem_of_getElem? (i := 2) rfl
theorem hX5_patch_nIAc : ∀ w ∈ (vx_atS RX5 88 nIA nSup).filter goodWord, w ∈ wsX5_patch := fun w h => List.mem_cons_of_mem _ (List.mem_append_left _ (List.mem_append_left _ (List.mem_append_left _ (List.mem_append_right _ h))))
set_option maxRecDepth 100000 in
theorem hx2_nIA : ∀ w ∈ (vx_atS RX5 88 nIA nSup).filter (fun w => !goodWord w), w ∈ xW := by decide +kernel
set_option maxRecDepth 100000 in
theorem hx3_nIA : ∀ w ∈ Cond.classLink RX5 84 nIA :: Cond.initialized nIA :: vx_atS RX5 88 nIA nSup, vx_ot w = true := by decide +kernel
theorem hx4_nIA : Bundle.fit nIA = true := by decide +kernel
set_option maxRecDepth 100000 in
theorem hx2_nIB : ∀ w ∈ (vx_atS RX5 182 nIB nSup).filter (fun w => !goodWord w), w ∈ xW := by decide +kernel
set_option maxRecDepth 100000 in
theorem hx3_nIB : ∀ w ∈ Cond.classLink RX5 178 nIB :: Cond.initialized nIB :: vx_atS RX5 182 nIB nSup, vx_ot w = true := by decide +kernel
theorem hx4_nIB : Bundle.fit nIB = true := by decide +kernel
set_option maxRecDepth 100000 in
theorem hx2_nIS : ∀ w ∈ (vx_atS RX5 103 nIS nSup).filter (fun w => !goodWord w), w ∈ xW := by decide +kernel
set_option maxRecDepth 100000 in
theorem hx3_nIS : ∀ w ∈ Cond.classLink RX5 99 nIS :: Cond.initialized nIS :: vx_atS RX5 103 nIS nSup, vx_ot w = true := by decide +kernel
theorem hx4_nIS : Bundle.fit nIS = true := by decide +kernel
set_option maxRecDepth 100000 in
theorem hx2_nUO : ∀ w ∈ (vx_atS RX5 189 nUO nSup).filter (fun w => !goodWord w), w ∈ xW := by decide +kernel
set_option maxRecDepth 100000 in
theorem hx3_nUO : ∀ w ∈ Cond.classLink RX5 185 nUO :: Cond.initialized nUO :: vx_atS RX5 189 nUO nSup, vx_ot w = true := by decide +kernel
theorem hx4_nUO : Bundle.fit nUO = true := by decide +kernel
abbrev rmX5_checkOperation : Room := { frames := 6, cells := 0, slots := 0, locals := 100 }
abbrev rzX5_checkOperation : Room := { frames := 6, cells := 1, slots := 6, locals := 100 }
abbrev rmX5_checkRoom : Room := { frames := 6, cells := 0, slots := 0, locals := 100 }
abbrev rzX5_checkRoom : Room := { frames := 6, cells := 1, slots := 6, locals := 100 }
abbrev rmX5_diff : Room := { frames := 6, cells := 0, slots := 0, locals := 100 }
abbrev rzX5_diff : Room := { frames := 6, cells := 1, slots := 6, locals := 100 }
abbrev rmX5_patch : Room := { frames := 7, cells := 0, slots := 0, locals := 126 }
abbrev rzX5_patch : Room := { frames := 7, cells := 1, slots := 6, locals := 126 }
def exN : Nat → String
  | 1 => nIA
  | 2 => nIB
  | 3 => nIS
  | _ => nUO
theorem chk_a {xs : List Int32} {tk : Nat} {kd p9 s9 : Int32} (h : (kd ≠ iI 0 ∧ kd ≠ iI 1) ∨ isS s9.toInt = false) : chk xs tk (kd, p9, s9) = 1 := by
  unfold chk
  rw [if_pos h]
theorem chk_k0 {xs : List Int32} {tk : Nat} {p9 s9 : Int32} (h : isS s9.toInt = true) : chk xs tk (iI 0, p9, s9) = if p9.toInt < (tk : Int) ∨ (xs.length : Int) - 1 < p9.toInt then 2 else if xs[p9.toInt.toNat]? ≠ some s9 then 3 else 0 := by
  unfold chk
  rw [if_neg (by rintro (⟨h1, -⟩ | h1); exact h1 rfl; rw [h] at h1; cases h1)]
  have e : (if iI 0 = iI 1 then (0 : Int) else 1) = 1 := if_neg (iI_ne (by decide) (by decide) (by decide) (by decide) (by decide))
  simp only [e, true_and]
theorem chk_k1 {xs : List Int32} {tk : Nat} {p9 s9 : Int32} (h : isS s9.toInt = true) : chk xs tk (iI 1, p9, s9) = if p9.toInt < (tk : Int) ∨ (xs.length : Int) < p9.toInt then 2 else 0 := by
  unfold chk
  rw [if_neg (by rintro (⟨-, h1⟩ | h1); exact h1 rfl; rw [h] at h1; cases h1)]
  have e : iI 1 ≠ iI 0 := iI_ne (by decide) (by decide) (by decide) (by decide) (by decide)
  simp only [e, false_and, if_true, if_false, Int.sub_zero]

set_option maxHeartbeats 4000000 in
set_option maxRecDepth 100000 in
theorem TX5_checkOperation (l : Launch) {G : GG} {N : Nat} {ad : Nat → Nat} {ev : Nat → va_E} {lim : Int} {R9 : Nat → List Int32} {ops : List Tr} {ls : List Op} {lsz : Nat} {rs9 : List Int32} {j k tk : Nat} {t : Tr} (hN : 53 ≤ N) (hD : DeskAt G ad ev lim R9 ops ls lsz rs9) (hj : j < 3) (ht : ops[k]? = some t) (htk : 0 < k → bhR ops ((k : Int) - 1) = iI (tk : Int)) (htk0 : k = 0 → tk = 0) (htl : tk ≤ 21) (hchk : chk (R9 j) tk t = 0) : Ct l yX5_checkOperation wsX5_checkOperation rmX5_checkOperation [.ref (ad 0), .ref (ad (2 + 2 * j)), .int (iI (k : Int))] G N ad ev 0 0 (fun v e2 => v = none ∧ ev = e2) := by
  obtain ⟨rc, dc, ds, g, hB⟩ := hD
  obtain ⟨⟨hli1, hli2, hlsz, hsm, hrd⟩, k0, k1, hg, hr9, h8, h12, hwk, hrr, hdd⟩ := id hB
  obtain ⟨fk, fp, fs, g0, g1, g2, g3, hf, hlc⟩ := id h8
  have hk : k < ops.length := (List.getElem?_eq_some_iff.mp ht).1
  have hrj := hr9 j hj
  have hlj := hrj.le
  obtain rfl : t = (fk k, fp k, fs k) := Option.some.inj (ht.symm.trans (hf k hk))
  have hPa := (fp k).le_toInt
  have hPb := (fp k).toInt_lt
  have hSa := (fs k).le_toInt
  have hSb := (fs k).toInt_lt
  refine Ct_of (cc := cX5_checkOperation) (maxL := 7) (ret := none) (lv := [(0, .ref (ad 0)), (1, .ref (ad (2 + 2 * j))), (2, .int (iI (k : Int)))]) (by decide) rfl (Nat.le_of_ble_eq_true rfl) rfl ?_
  intro p E s m args below meth c A C hr hnm
  refine n_aload_n C dX5_checkOperation_0 0 rfl rfl ?_
  refine n_get (k9 := 2) C dX5_checkOperation_1 (by omega) k0 hX5_checkOperation_X5 rfl (by decide) kX5_checkOperation_34 rfl ?_
  refine n_getN (k9 := 0) C dX5_checkOperation_4 (by omega) h8.obj hX5_checkOperation_X3 rfl (by decide) kn_X5_112 rfl ?_
  refine n_iload_n C dX5_checkOperation_7 2 rfl rfl ?_
  refine n_iald (j := k) C dX5_checkOperation_8 (by omega) g1 (by omega) (by omega) (by omega) ?_
  refine n_istore_n (lv' := [(0, .ref (ad 0)), (1, .ref (ad (2 + 2 * j))), (2, .int (iI (k : Int))), (3, .int (fk k))]) C dX5_checkOperation_9 rfl (by decide) rfl ?_
  refine n_aload_n C dX5_checkOperation_10 0 rfl rfl ?_
  refine n_get (k9 := 2) C dX5_checkOperation_11 (by omega) k0 hX5_checkOperation_X5 rfl (by decide) kX5_checkOperation_34 rfl ?_
  refine n_getN (k9 := 1) C dX5_checkOperation_14 (by omega) h8.obj hX5_checkOperation_X3 rfl (by decide) kn_X5_116 rfl ?_
  refine n_iload_n C dX5_checkOperation_17 2 rfl rfl ?_
  refine n_iald (j := k) C dX5_checkOperation_18 (by omega) g2 (by omega) (by omega) (by omega) ?_
  refine n_topI (y := (iI ((fp k).toInt))) ((iI_self (fp k)).symm) ?_
  refine n_istore (lv' := [(0, .ref (ad 0)), (1, .ref (ad (2 + 2 * j))), (2, .int (iI (k : Int))), (3, .int (fk k)), (4, .int (iI ((fp k).toInt)))]) C dX5_checkOperation_19 (by decide) rfl ?_
  refine n_iload_n C dX5_checkOperation_21 3 rfl rfl ?_
  refine n_if_eqR C dX5_checkOperation_22 (by decide) (tgt := 30) (fun c1 => ?_) (fun c1 => ?_)
  · refine n_lv (lv2 := [(0, .ref (ad 0)), (1, .ref (ad (2 + 2 * j))), (2, .int (iI (k : Int))), (3, .int (iI 0)), (4, .int (iI ((fp k).toInt)))]) (by rw [c1]) ?_
    refine n_aload_n C dX5_checkOperation_30 0 rfl rfl ?_
    refine n_get (k9 := 2) C dX5_checkOperation_31 (by omega) k0 hX5_checkOperation_X5 rfl (by decide) kX5_checkOperation_34 rfl ?_
    refine n_getN (k9 := 2) C dX5_checkOperation_34 (by omega) h8.obj hX5_checkOperation_X3 rfl (by decide) kn_X5_119 rfl ?_
    refine n_iload_n C dX5_checkOperation_37 2 rfl rfl ?_
    refine n_iald (j := k) C dX5_checkOperation_38 (by omega) g3 (by omega) (by omega) (by omega) ?_
    refine n_topI (y := (iI ((fs k).toInt))) ((iI_self (fs k)).symm) ?_
    refine n_callS (rest := []) C dX5_checkOperation_39 (TX5_isSymbol l hSa hSb) (cwS 1 C.2.2.2.2.1 gX5_checkOperation_X5_isSymbol rfl rfl rfl cdX5_isSymbol ⟨Nat.le_of_ble_eq_true rfl, Nat.le_of_ble_eq_true rfl⟩) rfl rfl (Nat.le_of_ble_eq_true rfl) ⟨Nat.le_of_ble_eq_true rfl, Nat.le_of_ble_eq_true rfl⟩ ?_
    rintro _ _ ⟨rfl, rfl⟩
    refine n_pc (pc2 := 42) rfl (n_st (st2 := [.int (bI (isS (fs k).toInt))]) rfl ?_)
    refine n_if_neB C dX5_checkOperation_42 (by decide) (tgt := 55) (fun c3 => ?_) (fun c3 => ?_)
    · have hcv : chk (R9 j) tk (fk k, fp k, fs k) = if (fp k).toInt < (tk : Int) ∨ ((R9 j).length : Int) - 1 < (fp k).toInt then 2 else if (R9 j)[(fp k).toInt.toNat]? ≠ some (fs k) then 3 else 0 := by rw [c1]; exact chk_k0 c3
      refine n_iload_n C dX5_checkOperation_55 3 rfl rfl ?_
      refine n_iconst C dX5_checkOperation_56 ?_
      refine n_icmp_ne C dX5_checkOperation_57 (by decide) (by omega) (by omega) (by omega) (by omega) (tgt := 67) (fun _ => ?_) (fun c9 => absurd c9 (by omega))
      refine n_aload_n C dX5_checkOperation_67 1 rfl rfl ?_
      refine n_getN (k9 := 1) C dX5_checkOperation_68 (by omega) hrj.obj hX5_checkOperation_X2 rfl (by decide) kn_X5_78 rfl ?_
      refine n_iconst C dX5_checkOperation_71 ?_
      refine n_isub C dX5_checkOperation_72 ?_
      refine n_istore (lv' := [(0, .ref (ad 0)), (1, .ref (ad (2 + 2 * j))), (2, .int (iI (k : Int))), (3, .int (iI 0)), (4, .int (iI ((fp k).toInt))), (5, .int (iI (((R9 j).length : Int) - 1)))]) C dX5_checkOperation_73 (by decide) rfl ?_
      refine n_iload_n C dX5_checkOperation_75 2 rfl rfl ?_
      refine n_if_le C dX5_checkOperation_76 (by decide) (by omega) (by omega) (tgt := 92) (fun c4 => ?_) (fun c4 => ?_)
      · have htk9 := htk0 (by omega)
        refine n_iconst C dX5_checkOperation_92 ?_
        refine n_istore (lv' := [(0, .ref (ad 0)), (1, .ref (ad (2 + 2 * j))), (2, .int (iI (k : Int))), (3, .int (iI 0)), (4, .int (iI ((fp k).toInt))), (5, .int (iI (((R9 j).length : Int) - 1))), (6, .int (iI 0))]) C dX5_checkOperation_93 (by decide) rfl ?_
        refine n_lv (lv2 := [(0, .ref (ad 0)), (1, .ref (ad (2 + 2 * j))), (2, .int (iI (k : Int))), (3, .int (iI 0)), (4, .int (iI ((fp k).toInt))), (5, .int (iI (((R9 j).length : Int) - 1))), (6, .int (iI (tk : Int)))]) (by rw [htk9]; rfl) ?_
        refine n_iload C dX5_checkOperation_95 4 rfl ?_
        refine n_iload C dX5_checkOperation_97 6 rfl ?_
        refine n_icmp_lt C dX5_checkOperation_99 (by decide) (by omega) (by omega) (by omega) (by omega) (tgt := 109) (fun c5 => ?_) (fun c5 => ?_)
        · have hcc : chk (R9 j) tk (fk k, fp k, fs k) = 2 := by rw [hcv, if_pos (by omega)]
          exact absurd hchk (by rw [hcc]; decide)
        · refine n_iload C dX5_checkOperation_102 4 rfl ?_
          refine n_iload C dX5_checkOperation_104 5 rfl ?_
          refine n_icmp_le C dX5_checkOperation_106 (by decide) (by omega) (by omega) (by omega) (by omega) (tgt := 119) (fun c6 => ?_) (fun c6 => ?_)
          · obtain ⟨x9, hx9⟩ := some_of_lt (show (fp k).toInt.toNat < (R9 j).length by omega)
            refine n_iload_n C dX5_checkOperation_119 3 rfl rfl ?_
            refine n_if_ne C dX5_checkOperation_120 (by decide) (by omega) (by omega) (tgt := 152) (fun c9 => absurd c9 (by omega)) (fun _ => ?_)
            refine n_aload_n C dX5_checkOperation_123 1 rfl rfl ?_
            refine n_iload C dX5_checkOperation_124 4 rfl ?_
            refine n_iconst C dX5_checkOperation_126 ?_
            refine n_callV (rest := []) C dX5_checkOperation_127 (TX2_at l (i := 2 + 2 * j) (by omega) hrj hPa hPb) (cwV 2 C.2.2.2.2.1 gX5_checkOperation_X2_at rfl rfl rfl cdX2_at ⟨Nat.le_of_ble_eq_true rfl, Nat.le_of_ble_eq_true rfl⟩) (by omega) hrj.obj rfl rfl rfl (Nat.le_of_ble_eq_true rfl) ⟨Nat.le_of_ble_eq_true rfl, Nat.le_of_ble_eq_true rfl⟩ ?_
            rintro _ _ ⟨rfl, rfl⟩
            refine n_pc (pc2 := 130) rfl (n_st (st2 := [.int (atD (R9 j) (fp k).toInt (iI (-1)))]) rfl ?_)
            refine n_topI (y := x9) (atD_in (by omega) (by omega) hx9) ?_
            refine n_aload_n C dX5_checkOperation_130 0 rfl rfl ?_
            refine n_get (k9 := 2) C dX5_checkOperation_131 (by omega) k0 hX5_checkOperation_X5 rfl (by decide) kX5_checkOperation_34 rfl ?_
            refine n_getN (k9 := 2) C dX5_checkOperation_134 (by omega) h8.obj hX5_checkOperation_X3 rfl (by decide) kn_X5_119 rfl ?_
            refine n_iload_n C dX5_checkOperation_137 2 rfl rfl ?_
            refine n_iald (j := k) C dX5_checkOperation_138 (by omega) g3 (by omega) (by omega) (by omega) ?_
            refine n_icmp_eqR C dX5_checkOperation_139 (by decide) (tgt := 152) (fun c7 => ?_) (fun c7 => ?_)
            · have hcc : chk (R9 j) tk (fk k, fp k, fs k) = 0 := by rw [hcv, if_neg (by omega), hx9, c7, if_neg (by simp)]
              exact n_vret C hr dX5_checkOperation_152 (⟨rfl, rfl⟩)
            · have hcc : chk (R9 j) tk (fk k, fp k, fs k) = 3 := by rw [hcv, if_neg (by omega), hx9, if_pos (fun q => c7 (Option.some.inj q))]
              exact absurd hchk (by rw [hcc]; decide)
          · have hcc : chk (R9 j) tk (fk k, fp k, fs k) = 2 := by rw [hcv, if_pos (by omega)]
            exact absurd hchk (by rw [hcc]; decide)
      · refine n_aload_n C dX5_checkOperation_79 0 rfl rfl ?_
        refine n_get (k9 := 2) C dX5_checkOperation_80 (by omega) k0 hX5_checkOperation_X5 rfl (by decide) kX5_checkOperation_34 rfl ?_
        refine n_iload_n C dX5_checkOperation_83 2 rfl rfl ?_
        refine n_iconst C dX5_checkOperation_84 ?_
        refine n_isub C dX5_checkOperation_85 ?_
        refine n_callV (rest := []) C dX5_checkOperation_86 (TX3_behind l (i := 8) (by omega) h8 (by omega) (by omega)) (cwV 1 C.2.2.2.2.1 gX5_checkOperation_X3_behind rfl rfl rfl cdX3_behind ⟨Nat.le_of_ble_eq_true rfl, Nat.le_of_ble_eq_true rfl⟩) (by omega) h8.obj rfl rfl rfl (Nat.le_of_ble_eq_true rfl) ⟨Nat.le_of_ble_eq_true rfl, Nat.le_of_ble_eq_true rfl⟩ ?_
        rintro _ _ ⟨rfl, rfl⟩
        refine n_pc (pc2 := 89) rfl (n_st (st2 := [.int (bhR ops ((k : Int) - 1))]) rfl ?_)
        refine n_topI (y := (iI (tk : Int))) (htk (by omega)) ?_
        refine n_goto (tgt := 93) C dX5_checkOperation_89 (by decide) ?_
        refine n_istore (lv' := [(0, .ref (ad 0)), (1, .ref (ad (2 + 2 * j))), (2, .int (iI (k : Int))), (3, .int (iI 0)), (4, .int (iI ((fp k).toInt))), (5, .int (iI (((R9 j).length : Int) - 1))), (6, .int (iI (tk : Int)))]) C dX5_checkOperation_93 (by decide) rfl ?_
        refine n_iload C dX5_checkOperation_95 4 rfl ?_
        refine n_iload C dX5_checkOperation_97 6 rfl ?_
        refine n_icmp_lt C dX5_checkOperation_99 (by decide) (by omega) (by omega) (by omega) (by omega) (tgt := 109) (fun c5 => ?_) (fun c5 => ?_)
        · have hcc : chk (R9 j) tk (fk k, fp k, fs k) = 2 := by rw [hcv, if_pos (by omega)]
          exact absurd hchk (by rw [hcc]; decide)
        · refine n_iload C dX5_checkOperation_102 4 rfl ?_
          refine n_iload C dX5_checkOperation_104 5 rfl ?_
          refine n_icmp_le C dX5_checkOperation_106 (by decide) (by omega) (by omega) (by omega) (by omega) (tgt := 119) (fun c6 => ?_) (fun c6 => ?_)
          · obtain ⟨x9, hx9⟩ := some_of_lt (show (fp k).toInt.toNat < (R9 j).length by omega)
            refine n_iload_n C dX5_checkOperation_119 3 rfl rfl ?_
            refine n_if_ne C dX5_checkOperation_120 (by decide) (by omega) (by omega) (tgt := 152) (fun c9 => absurd c9 (by omega)) (fun _ => ?_)
            refine n_aload_n C dX5_checkOperation_123 1 rfl rfl ?_
            refine n_iload C dX5_checkOperation_124 4 rfl ?_
            refine n_iconst C dX5_checkOperation_126 ?_
            refine n_callV (rest := []) C dX5_checkOperation_127 (TX2_at l (i := 2 + 2 * j) (by omega) hrj hPa hPb) (cwV 2 C.2.2.2.2.1 gX5_checkOperation_X2_at rfl rfl rfl cdX2_at ⟨Nat.le_of_ble_eq_true rfl, Nat.le_of_ble_eq_true rfl⟩) (by omega) hrj.obj rfl rfl rfl (Nat.le_of_ble_eq_true rfl) ⟨Nat.le_of_ble_eq_true rfl, Nat.le_of_ble_eq_true rfl⟩ ?_
            rintro _ _ ⟨rfl, rfl⟩
            refine n_pc (pc2 := 130) rfl (n_st (st2 := [.int (atD (R9 j) (fp k).toInt (iI (-1)))]) rfl ?_)
            refine n_topI (y := x9) (atD_in (by omega) (by omega) hx9) ?_
            refine n_aload_n C dX5_checkOperation_130 0 rfl rfl ?_
            refine n_get (k9 := 2) C dX5_checkOperation_131 (by omega) k0 hX5_checkOperation_X5 rfl (by decide) kX5_checkOperation_34 rfl ?_
            refine n_getN (k9 := 2) C dX5_checkOperation_134 (by omega) h8.obj hX5_checkOperation_X3 rfl (by decide) kn_X5_119 rfl ?_
            refine n_iload_n C dX5_checkOperation_137 2 rfl rfl ?_
            refine n_iald (j := k) C dX5_checkOperation_138 (by omega) g3 (by omega) (by omega) (by omega) ?_
            refine n_icmp_eqR C dX5_checkOperation_139 (by decide) (tgt := 152) (fun c7 => ?_) (fun c7 => ?_)
            · have hcc : chk (R9 j) tk (fk k, fp k, fs k) = 0 := by rw [hcv, if_neg (by omega), hx9, c7, if_neg (by simp)]
              exact n_vret C hr dX5_checkOperation_152 (⟨rfl, rfl⟩)
            · have hcc : chk (R9 j) tk (fk k, fp k, fs k) = 3 := by rw [hcv, if_neg (by omega), hx9, if_pos (fun q => c7 (Option.some.inj q))]
              exact absurd hchk (by rw [hcc]; decide)
          · have hcc : chk (R9 j) tk (fk k, fp k, fs k) = 2 := by rw [hcv, if_pos (by omega)]
            exact absurd hchk (by rw [hcc]; decide)
    · have hcc : chk (R9 j) tk (fk k, fp k, fs k) = 1 := chk_a (Or.inr c3)
      exact absurd hchk (by rw [hcc]; decide)
  · refine n_iload_n C dX5_checkOperation_25 3 rfl rfl ?_
    refine n_iconst C dX5_checkOperation_26 ?_
    refine n_icmp_neR C dX5_checkOperation_27 (by decide) (tgt := 45) (fun c2 => ?_) (fun c2 => ?_)
    · have hcc : chk (R9 j) tk (fk k, fp k, fs k) = 1 := chk_a (Or.inl ⟨c1, c2⟩)
      exact absurd hchk (by rw [hcc]; decide)
    · refine n_lv (lv2 := [(0, .ref (ad 0)), (1, .ref (ad (2 + 2 * j))), (2, .int (iI (k : Int))), (3, .int (iI 1)), (4, .int (iI ((fp k).toInt)))]) (by rw [c2]) ?_
      refine n_aload_n C dX5_checkOperation_30 0 rfl rfl ?_
      refine n_get (k9 := 2) C dX5_checkOperation_31 (by omega) k0 hX5_checkOperation_X5 rfl (by decide) kX5_checkOperation_34 rfl ?_
      refine n_getN (k9 := 2) C dX5_checkOperation_34 (by omega) h8.obj hX5_checkOperation_X3 rfl (by decide) kn_X5_119 rfl ?_
      refine n_iload_n C dX5_checkOperation_37 2 rfl rfl ?_
      refine n_iald (j := k) C dX5_checkOperation_38 (by omega) g3 (by omega) (by omega) (by omega) ?_
      refine n_topI (y := (iI ((fs k).toInt))) ((iI_self (fs k)).symm) ?_
      refine n_callS (rest := []) C dX5_checkOperation_39 (TX5_isSymbol l hSa hSb) (cwS 1 C.2.2.2.2.1 gX5_checkOperation_X5_isSymbol rfl rfl rfl cdX5_isSymbol ⟨Nat.le_of_ble_eq_true rfl, Nat.le_of_ble_eq_true rfl⟩) rfl rfl (Nat.le_of_ble_eq_true rfl) ⟨Nat.le_of_ble_eq_true rfl, Nat.le_of_ble_eq_true rfl⟩ ?_
      rintro _ _ ⟨rfl, rfl⟩
      refine n_pc (pc2 := 42) rfl (n_st (st2 := [.int (bI (isS (fs k).toInt))]) rfl ?_)
      refine n_if_neB C dX5_checkOperation_42 (by decide) (tgt := 55) (fun c3 => ?_) (fun c3 => ?_)
      · have hcv : chk (R9 j) tk (fk k, fp k, fs k) = if (fp k).toInt < (tk : Int) ∨ ((R9 j).length : Int) < (fp k).toInt then 2 else 0 := by rw [c2]; exact chk_k1 c3
        refine n_iload_n C dX5_checkOperation_55 3 rfl rfl ?_
        refine n_iconst C dX5_checkOperation_56 ?_
        refine n_icmp_ne C dX5_checkOperation_57 (by decide) (by omega) (by omega) (by omega) (by omega) (tgt := 67) (fun c9 => absurd c9 (by omega)) (fun _ => ?_)
        refine n_aload_n C dX5_checkOperation_60 1 rfl rfl ?_
        refine n_getN (k9 := 1) C dX5_checkOperation_61 (by omega) hrj.obj hX5_checkOperation_X2 rfl (by decide) kn_X5_78 rfl ?_
        refine n_goto (tgt := 73) C dX5_checkOperation_64 (by decide) ?_
        refine n_istore (lv' := [(0, .ref (ad 0)), (1, .ref (ad (2 + 2 * j))), (2, .int (iI (k : Int))), (3, .int (iI 1)), (4, .int (iI ((fp k).toInt))), (5, .int (iI ((R9 j).length : Int)))]) C dX5_checkOperation_73 (by decide) rfl ?_
        refine n_iload_n C dX5_checkOperation_75 2 rfl rfl ?_
        refine n_if_le C dX5_checkOperation_76 (by decide) (by omega) (by omega) (tgt := 92) (fun c4 => ?_) (fun c4 => ?_)
        · have htk9 := htk0 (by omega)
          refine n_iconst C dX5_checkOperation_92 ?_
          refine n_istore (lv' := [(0, .ref (ad 0)), (1, .ref (ad (2 + 2 * j))), (2, .int (iI (k : Int))), (3, .int (iI 1)), (4, .int (iI ((fp k).toInt))), (5, .int (iI ((R9 j).length : Int))), (6, .int (iI 0))]) C dX5_checkOperation_93 (by decide) rfl ?_
          refine n_lv (lv2 := [(0, .ref (ad 0)), (1, .ref (ad (2 + 2 * j))), (2, .int (iI (k : Int))), (3, .int (iI 1)), (4, .int (iI ((fp k).toInt))), (5, .int (iI ((R9 j).length : Int))), (6, .int (iI (tk : Int)))]) (by rw [htk9]; rfl) ?_
          refine n_iload C dX5_checkOperation_95 4 rfl ?_
          refine n_iload C dX5_checkOperation_97 6 rfl ?_
          refine n_icmp_lt C dX5_checkOperation_99 (by decide) (by omega) (by omega) (by omega) (by omega) (tgt := 109) (fun c5 => ?_) (fun c5 => ?_)
          · have hcc : chk (R9 j) tk (fk k, fp k, fs k) = 2 := by rw [hcv, if_pos (by omega)]
            exact absurd hchk (by rw [hcc]; decide)
          · refine n_iload C dX5_checkOperation_102 4 rfl ?_
            refine n_iload C dX5_checkOperation_104 5 rfl ?_
            refine n_icmp_le C dX5_checkOperation_106 (by decide) (by omega) (by omega) (by omega) (by omega) (tgt := 119) (fun c6 => ?_) (fun c6 => ?_)
            · refine n_iload_n C dX5_checkOperation_119 3 rfl rfl ?_
              refine n_if_ne C dX5_checkOperation_120 (by decide) (by omega) (by omega) (tgt := 152) (fun _ => ?_) (fun c9 => absurd c9 (by omega))
              have hcc : chk (R9 j) tk (fk k, fp k, fs k) = 0 := by rw [hcv, if_neg (by omega)]
              exact n_vret C hr dX5_checkOperation_152 (⟨rfl, rfl⟩)
            · have hcc : chk (R9 j) tk (fk k, fp k, fs k) = 2 := by rw [hcv, if_pos (by omega)]
              exact absurd hchk (by rw [hcc]; decide)
        · refine n_aload_n C dX5_checkOperation_79 0 rfl rfl ?_
          refine n_get (k9 := 2) C dX5_checkOperation_80 (by omega) k0 hX5_checkOperation_X5 rfl (by decide) kX5_checkOperation_34 rfl ?_
          refine n_iload_n C dX5_checkOperation_83 2 rfl rfl ?_
          refine n_iconst C dX5_checkOperation_84 ?_
          refine n_isub C dX5_checkOperation_85 ?_
          refine n_callV (rest := []) C dX5_checkOperation_86 (TX3_behind l (i := 8) (by omega) h8 (by omega) (by omega)) (cwV 1 C.2.2.2.2.1 gX5_checkOperation_X3_behind rfl rfl rfl cdX3_behind ⟨Nat.le_of_ble_eq_true rfl, Nat.le_of_ble_eq_true rfl⟩) (by omega) h8.obj rfl rfl rfl (Nat.le_of_ble_eq_true rfl) ⟨Nat.le_of_ble_eq_true rfl, Nat.le_of_ble_eq_true rfl⟩ ?_
          rintro _ _ ⟨rfl, rfl⟩
          refine n_pc (pc2 := 89) rfl (n_st (st2 := [.int (bhR ops ((k : Int) - 1))]) rfl ?_)
          refine n_topI (y := (iI (tk : Int))) (htk (by omega)) ?_
          refine n_goto (tgt := 93) C dX5_checkOperation_89 (by decide) ?_
          refine n_istore (lv' := [(0, .ref (ad 0)), (1, .ref (ad (2 + 2 * j))), (2, .int (iI (k : Int))), (3, .int (iI 1)), (4, .int (iI ((fp k).toInt))), (5, .int (iI ((R9 j).length : Int))), (6, .int (iI (tk : Int)))]) C dX5_checkOperation_93 (by decide) rfl ?_
          refine n_iload C dX5_checkOperation_95 4 rfl ?_
          refine n_iload C dX5_checkOperation_97 6 rfl ?_
          refine n_icmp_lt C dX5_checkOperation_99 (by decide) (by omega) (by omega) (by omega) (by omega) (tgt := 109) (fun c5 => ?_) (fun c5 => ?_)
          · have hcc : chk (R9 j) tk (fk k, fp k, fs k) = 2 := by rw [hcv, if_pos (by omega)]
            exact absurd hchk (by rw [hcc]; decide)
          · refine n_iload C dX5_checkOperation_102 4 rfl ?_
            refine n_iload C dX5_checkOperation_104 5 rfl ?_
            refine n_icmp_le C dX5_checkOperation_106 (by decide) (by omega) (by omega) (by omega) (by omega) (tgt := 119) (fun c6 => ?_) (fun c6 => ?_)
            · refine n_iload_n C dX5_checkOperation_119 3 rfl rfl ?_
              refine n_if_ne C dX5_checkOperation_120 (by decide) (by omega) (by omega) (tgt := 152) (fun _ => ?_) (fun c9 => absurd c9 (by omega))
              have hcc : chk (R9 j) tk (fk k, fp k, fs k) = 0 := by rw [hcv, if_neg (by omega)]
              exact n_vret C hr dX5_checkOperation_152 (⟨rfl, rfl⟩)
            · have hcc : chk (R9 j) tk (fk k, fp k, fs k) = 2 := by rw [hcv, if_pos (by omega)]
              exact absurd hchk (by rw [hcc]; decide)
      · have hcc : chk (R9 j) tk (fk k, fp k, fs k) = 1 := chk_a (Or.inr c3)
        exact absurd hchk (by rw [hcc]; decide)

set_option maxHeartbeats 4000000 in
set_option maxRecDepth 100000 in
theorem ZX5_checkOperation (l : Launch) (hlt : l.stackTraces = false) {G : GG} {N : Nat} {ad : Nat → Nat} {ev : Nat → va_E} {lim : Int} {R9 : Nat → List Int32} {ops : List Tr} {ls : List Op} {lsz : Nat} {rs9 : List Int32} {j k tk : Nat} {t : Tr} (hN : 53 ≤ N) (hD : DeskAt G ad ev lim R9 ops ls lsz rs9) (hj : j < 3) (ht : ops[k]? = some t) (htk : 0 < k → bhR ops ((k : Int) - 1) = iI (tk : Int)) (htk0 : k = 0 → tk = 0) (htl : tk ≤ 21) (hchk : chk (R9 j) tk t ≠ 0) : Cz l yX5_checkOperation wsX5_checkOperation rzX5_checkOperation [.ref (ad 0), .ref (ad (2 + 2 * j)), .int (iI (k : Int))] G N ad ev 1 6 (fun X e2 => X = exN (chk (R9 j) tk t) ∧ ev = e2) := by
  obtain ⟨rc, dc, ds, g, hB⟩ := hD
  obtain ⟨⟨hli1, hli2, hlsz, hsm, hrd⟩, k0, k1, hg, hr9, h8, h12, hwk, hrr, hdd⟩ := id hB
  obtain ⟨fk, fp, fs, g0, g1, g2, g3, hf, hlc⟩ := id h8
  have hk : k < ops.length := (List.getElem?_eq_some_iff.mp ht).1
  have hrj := hr9 j hj
  have hlj := hrj.le
  obtain rfl : t = (fk k, fp k, fs k) := Option.some.inj (ht.symm.trans (hf k hk))
  have hPa := (fp k).le_toInt
  have hPb := (fp k).toInt_lt
  have hSa := (fs k).le_toInt
  have hSb := (fs k).toInt_lt
  refine Cz_of (cc := cX5_checkOperation) (maxL := 7) (ret := none) (lv := [(0, .ref (ad 0)), (1, .ref (ad (2 + 2 * j))), (2, .int (iI (k : Int)))]) (by decide) rfl (Nat.le_of_ble_eq_true rfl) rfl ?_
  intro p E s m args below meth c A C hr hX hnt
  refine n_aload_n C dX5_checkOperation_0 0 rfl rfl ?_
  refine n_get (k9 := 2) C dX5_checkOperation_1 (by omega) k0 hX5_checkOperation_X5 rfl (by decide) kX5_checkOperation_34 rfl ?_
  refine n_getN (k9 := 0) C dX5_checkOperation_4 (by omega) h8.obj hX5_checkOperation_X3 rfl (by decide) kn_X5_112 rfl ?_
  refine n_iload_n C dX5_checkOperation_7 2 rfl rfl ?_
  refine n_iald (j := k) C dX5_checkOperation_8 (by omega) g1 (by omega) (by omega) (by omega) ?_
  refine n_istore_n (lv' := [(0, .ref (ad 0)), (1, .ref (ad (2 + 2 * j))), (2, .int (iI (k : Int))), (3, .int (fk k))]) C dX5_checkOperation_9 rfl (by decide) rfl ?_
  refine n_aload_n C dX5_checkOperation_10 0 rfl rfl ?_
  refine n_get (k9 := 2) C dX5_checkOperation_11 (by omega) k0 hX5_checkOperation_X5 rfl (by decide) kX5_checkOperation_34 rfl ?_
  refine n_getN (k9 := 1) C dX5_checkOperation_14 (by omega) h8.obj hX5_checkOperation_X3 rfl (by decide) kn_X5_116 rfl ?_
  refine n_iload_n C dX5_checkOperation_17 2 rfl rfl ?_
  refine n_iald (j := k) C dX5_checkOperation_18 (by omega) g2 (by omega) (by omega) (by omega) ?_
  refine n_topI (y := (iI ((fp k).toInt))) ((iI_self (fp k)).symm) ?_
  refine n_istore (lv' := [(0, .ref (ad 0)), (1, .ref (ad (2 + 2 * j))), (2, .int (iI (k : Int))), (3, .int (fk k)), (4, .int (iI ((fp k).toInt)))]) C dX5_checkOperation_19 (by decide) rfl ?_
  refine n_iload_n C dX5_checkOperation_21 3 rfl rfl ?_
  refine n_if_eqR C dX5_checkOperation_22 (by decide) (tgt := 30) (fun c1 => ?_) (fun c1 => ?_)
  · refine n_lv (lv2 := [(0, .ref (ad 0)), (1, .ref (ad (2 + 2 * j))), (2, .int (iI (k : Int))), (3, .int (iI 0)), (4, .int (iI ((fp k).toInt)))]) (by rw [c1]) ?_
    refine n_aload_n C dX5_checkOperation_30 0 rfl rfl ?_
    refine n_get (k9 := 2) C dX5_checkOperation_31 (by omega) k0 hX5_checkOperation_X5 rfl (by decide) kX5_checkOperation_34 rfl ?_
    refine n_getN (k9 := 2) C dX5_checkOperation_34 (by omega) h8.obj hX5_checkOperation_X3 rfl (by decide) kn_X5_119 rfl ?_
    refine n_iload_n C dX5_checkOperation_37 2 rfl rfl ?_
    refine n_iald (j := k) C dX5_checkOperation_38 (by omega) g3 (by omega) (by omega) (by omega) ?_
    refine n_topI (y := (iI ((fs k).toInt))) ((iI_self (fs k)).symm) ?_
    refine n_callS (rest := []) C dX5_checkOperation_39 (TX5_isSymbol l hSa hSb) (cwS 1 C.2.2.2.2.1 gX5_checkOperation_X5_isSymbol rfl rfl rfl cdX5_isSymbol ⟨Nat.le_of_ble_eq_true rfl, Nat.le_of_ble_eq_true rfl⟩) rfl rfl (Nat.le_of_ble_eq_true rfl) ⟨Nat.le_of_ble_eq_true rfl, Nat.le_of_ble_eq_true rfl⟩ ?_
    rintro _ _ ⟨rfl, rfl⟩
    refine n_pc (pc2 := 42) rfl (n_st (st2 := [.int (bI (isS (fs k).toInt))]) rfl ?_)
    refine n_if_neB C dX5_checkOperation_42 (by decide) (tgt := 55) (fun c3 => ?_) (fun c3 => ?_)
    · have hcv : chk (R9 j) tk (fk k, fp k, fs k) = if (fp k).toInt < (tk : Int) ∨ ((R9 j).length : Int) - 1 < (fp k).toInt then 2 else if (R9 j)[(fp k).toInt.toNat]? ≠ some (fs k) then 3 else 0 := by rw [c1]; exact chk_k0 c3
      refine n_iload_n C dX5_checkOperation_55 3 rfl rfl ?_
      refine n_iconst C dX5_checkOperation_56 ?_
      refine n_icmp_ne C dX5_checkOperation_57 (by decide) (by omega) (by omega) (by omega) (by omega) (tgt := 67) (fun _ => ?_) (fun c9 => absurd c9 (by omega))
      refine n_aload_n C dX5_checkOperation_67 1 rfl rfl ?_
      refine n_getN (k9 := 1) C dX5_checkOperation_68 (by omega) hrj.obj hX5_checkOperation_X2 rfl (by decide) kn_X5_78 rfl ?_
      refine n_iconst C dX5_checkOperation_71 ?_
      refine n_isub C dX5_checkOperation_72 ?_
      refine n_istore (lv' := [(0, .ref (ad 0)), (1, .ref (ad (2 + 2 * j))), (2, .int (iI (k : Int))), (3, .int (iI 0)), (4, .int (iI ((fp k).toInt))), (5, .int (iI (((R9 j).length : Int) - 1)))]) C dX5_checkOperation_73 (by decide) rfl ?_
      refine n_iload_n C dX5_checkOperation_75 2 rfl rfl ?_
      refine n_if_le C dX5_checkOperation_76 (by decide) (by omega) (by omega) (tgt := 92) (fun c4 => ?_) (fun c4 => ?_)
      · have htk9 := htk0 (by omega)
        refine n_iconst C dX5_checkOperation_92 ?_
        refine n_istore (lv' := [(0, .ref (ad 0)), (1, .ref (ad (2 + 2 * j))), (2, .int (iI (k : Int))), (3, .int (iI 0)), (4, .int (iI ((fp k).toInt))), (5, .int (iI (((R9 j).length : Int) - 1))), (6, .int (iI 0))]) C dX5_checkOperation_93 (by decide) rfl ?_
        refine n_lv (lv2 := [(0, .ref (ad 0)), (1, .ref (ad (2 + 2 * j))), (2, .int (iI (k : Int))), (3, .int (iI 0)), (4, .int (iI ((fp k).toInt))), (5, .int (iI (((R9 j).length : Int) - 1))), (6, .int (iI (tk : Int)))]) (by rw [htk9]; rfl) ?_
        refine n_iload C dX5_checkOperation_95 4 rfl ?_
        refine n_iload C dX5_checkOperation_97 6 rfl ?_
        refine n_icmp_lt C dX5_checkOperation_99 (by decide) (by omega) (by omega) (by omega) (by omega) (tgt := 109) (fun c5 => ?_) (fun c5 => ?_)
        · have hcc : chk (R9 j) tk (fk k, fp k, fs k) = 2 := by rw [hcv, if_pos (by omega)]
          exact n_throw (text := "no such place, or one passed already") C hlt hX hnt dX5_checkOperation_109 dX5_checkOperation_112 dX5_checkOperation_113 dX5_checkOperation_115 dX5_checkOperation_118 hX5_checkOperation_nIBa hX5_checkOperation_nIBb (by decide) hX5_checkOperation_nIBc hx2_nIB hx3_nIB hx4_nIB (Nat.le_of_ble_eq_true rfl) (Nat.le_of_ble_eq_true rfl) (Nat.le_of_ble_eq_true rfl) (Nat.le_of_ble_eq_true rfl) (Nat.le_of_ble_eq_true rfl) (Nat.le_of_ble_eq_true rfl) (⟨by rw [hcc]; rfl, rfl⟩)
        · refine n_iload C dX5_checkOperation_102 4 rfl ?_
          refine n_iload C dX5_checkOperation_104 5 rfl ?_
          refine n_icmp_le C dX5_checkOperation_106 (by decide) (by omega) (by omega) (by omega) (by omega) (tgt := 119) (fun c6 => ?_) (fun c6 => ?_)
          · obtain ⟨x9, hx9⟩ := some_of_lt (show (fp k).toInt.toNat < (R9 j).length by omega)
            refine n_iload_n C dX5_checkOperation_119 3 rfl rfl ?_
            refine n_if_ne C dX5_checkOperation_120 (by decide) (by omega) (by omega) (tgt := 152) (fun c9 => absurd c9 (by omega)) (fun _ => ?_)
            refine n_aload_n C dX5_checkOperation_123 1 rfl rfl ?_
            refine n_iload C dX5_checkOperation_124 4 rfl ?_
            refine n_iconst C dX5_checkOperation_126 ?_
            refine n_callV (rest := []) C dX5_checkOperation_127 (TX2_at l (i := 2 + 2 * j) (by omega) hrj hPa hPb) (cwV 2 C.2.2.2.2.1 gX5_checkOperation_X2_at rfl rfl rfl cdX2_at ⟨Nat.le_of_ble_eq_true rfl, Nat.le_of_ble_eq_true rfl⟩) (by omega) hrj.obj rfl rfl rfl (Nat.le_of_ble_eq_true rfl) ⟨Nat.le_of_ble_eq_true rfl, Nat.le_of_ble_eq_true rfl⟩ ?_
            rintro _ _ ⟨rfl, rfl⟩
            refine n_pc (pc2 := 130) rfl (n_st (st2 := [.int (atD (R9 j) (fp k).toInt (iI (-1)))]) rfl ?_)
            refine n_topI (y := x9) (atD_in (by omega) (by omega) hx9) ?_
            refine n_aload_n C dX5_checkOperation_130 0 rfl rfl ?_
            refine n_get (k9 := 2) C dX5_checkOperation_131 (by omega) k0 hX5_checkOperation_X5 rfl (by decide) kX5_checkOperation_34 rfl ?_
            refine n_getN (k9 := 2) C dX5_checkOperation_134 (by omega) h8.obj hX5_checkOperation_X3 rfl (by decide) kn_X5_119 rfl ?_
            refine n_iload_n C dX5_checkOperation_137 2 rfl rfl ?_
            refine n_iald (j := k) C dX5_checkOperation_138 (by omega) g3 (by omega) (by omega) (by omega) ?_
            refine n_icmp_eqR C dX5_checkOperation_139 (by decide) (tgt := 152) (fun c7 => ?_) (fun c7 => ?_)
            · have hcc : chk (R9 j) tk (fk k, fp k, fs k) = 0 := by rw [hcv, if_neg (by omega), hx9, c7, if_neg (by simp)]
              exact absurd hcc hchk
            · have hcc : chk (R9 j) tk (fk k, fp k, fs k) = 3 := by rw [hcv, if_neg (by omega), hx9, if_pos (fun q => c7 (Option.some.inj q))]
              exact n_throw (text := "another symbol is there") C hlt hX hnt dX5_checkOperation_142 dX5_checkOperation_145 dX5_checkOperation_146 dX5_checkOperation_148 dX5_checkOperation_151 hX5_checkOperation_nISa hX5_checkOperation_nISb (by decide) hX5_checkOperation_nISc hx2_nIS hx3_nIS hx4_nIS (Nat.le_of_ble_eq_true rfl) (Nat.le_of_ble_eq_true rfl) (Nat.le_of_ble_eq_true rfl) (Nat.le_of_ble_eq_true rfl) (Nat.le_of_ble_eq_true rfl) (Nat.le_of_ble_eq_true rfl) (⟨by rw [hcc]; rfl, rfl⟩)
          · have hcc : chk (R9 j) tk (fk k, fp k, fs k) = 2 := by rw [hcv, if_pos (by omega)]
            exact n_throw (text := "no such place, or one passed already") C hlt hX hnt dX5_checkOperation_109 dX5_checkOperation_112 dX5_checkOperation_113 dX5_checkOperation_115 dX5_checkOperation_118 hX5_checkOperation_nIBa hX5_checkOperation_nIBb (by decide) hX5_checkOperation_nIBc hx2_nIB hx3_nIB hx4_nIB (Nat.le_of_ble_eq_true rfl) (Nat.le_of_ble_eq_true rfl) (Nat.le_of_ble_eq_true rfl) (Nat.le_of_ble_eq_true rfl) (Nat.le_of_ble_eq_true rfl) (Nat.le_of_ble_eq_true rfl) (⟨by rw [hcc]; rfl, rfl⟩)
      · refine n_aload_n C dX5_checkOperation_79 0 rfl rfl ?_
        refine n_get (k9 := 2) C dX5_checkOperation_80 (by omega) k0 hX5_checkOperation_X5 rfl (by decide) kX5_checkOperation_34 rfl ?_
        refine n_iload_n C dX5_checkOperation_83 2 rfl rfl ?_
        refine n_iconst C dX5_checkOperation_84 ?_
        refine n_isub C dX5_checkOperation_85 ?_
        refine n_callV (rest := []) C dX5_checkOperation_86 (TX3_behind l (i := 8) (by omega) h8 (by omega) (by omega)) (cwV 1 C.2.2.2.2.1 gX5_checkOperation_X3_behind rfl rfl rfl cdX3_behind ⟨Nat.le_of_ble_eq_true rfl, Nat.le_of_ble_eq_true rfl⟩) (by omega) h8.obj rfl rfl rfl (Nat.le_of_ble_eq_true rfl) ⟨Nat.le_of_ble_eq_true rfl, Nat.le_of_ble_eq_true rfl⟩ ?_
        rintro _ _ ⟨rfl, rfl⟩
        refine n_pc (pc2 := 89) rfl (n_st (st2 := [.int (bhR ops ((k : Int) - 1))]) rfl ?_)
        refine n_topI (y := (iI (tk : Int))) (htk (by omega)) ?_
        refine n_goto (tgt := 93) C dX5_checkOperation_89 (by decide) ?_
        refine n_istore (lv' := [(0, .ref (ad 0)), (1, .ref (ad (2 + 2 * j))), (2, .int (iI (k : Int))), (3, .int (iI 0)), (4, .int (iI ((fp k).toInt))), (5, .int (iI (((R9 j).length : Int) - 1))), (6, .int (iI (tk : Int)))]) C dX5_checkOperation_93 (by decide) rfl ?_
        refine n_iload C dX5_checkOperation_95 4 rfl ?_
        refine n_iload C dX5_checkOperation_97 6 rfl ?_
        refine n_icmp_lt C dX5_checkOperation_99 (by decide) (by omega) (by omega) (by omega) (by omega) (tgt := 109) (fun c5 => ?_) (fun c5 => ?_)
        · have hcc : chk (R9 j) tk (fk k, fp k, fs k) = 2 := by rw [hcv, if_pos (by omega)]
          exact n_throw (text := "no such place, or one passed already") C hlt hX hnt dX5_checkOperation_109 dX5_checkOperation_112 dX5_checkOperation_113 dX5_checkOperation_115 dX5_checkOperation_118 hX5_checkOperation_nIBa hX5_checkOperation_nIBb (by decide) hX5_checkOperation_nIBc hx2_nIB hx3_nIB hx4_nIB (Nat.le_of_ble_eq_true rfl) (Nat.le_of_ble_eq_true rfl) (Nat.le_of_ble_eq_true rfl) (Nat.le_of_ble_eq_true rfl) (Nat.le_of_ble_eq_true rfl) (Nat.le_of_ble_eq_true rfl) (⟨by rw [hcc]; rfl, rfl⟩)
        · refine n_iload C dX5_checkOperation_102 4 rfl ?_
          refine n_iload C dX5_checkOperation_104 5 rfl ?_
          refine n_icmp_le C dX5_checkOperation_106 (by decide) (by omega) (by omega) (by omega) (by omega) (tgt := 119) (fun c6 => ?_) (fun c6 => ?_)
          · obtain ⟨x9, hx9⟩ := some_of_lt (show (fp k).toInt.toNat < (R9 j).length by omega)
            refine n_iload_n C dX5_checkOperation_119 3 rfl rfl ?_
            refine n_if_ne C dX5_checkOperation_120 (by decide) (by omega) (by omega) (tgt := 152) (fun c9 => absurd c9 (by omega)) (fun _ => ?_)
            refine n_aload_n C dX5_checkOperation_123 1 rfl rfl ?_
            refine n_iload C dX5_checkOperation_124 4 rfl ?_
            refine n_iconst C dX5_checkOperation_126 ?_
            refine n_callV (rest := []) C dX5_checkOperation_127 (TX2_at l (i := 2 + 2 * j) (by omega) hrj hPa hPb) (cwV 2 C.2.2.2.2.1 gX5_checkOperation_X2_at rfl rfl rfl cdX2_at ⟨Nat.le_of_ble_eq_true rfl, Nat.le_of_ble_eq_true rfl⟩) (by omega) hrj.obj rfl rfl rfl (Nat.le_of_ble_eq_true rfl) ⟨Nat.le_of_ble_eq_true rfl, Nat.le_of_ble_eq_true rfl⟩ ?_
            rintro _ _ ⟨rfl, rfl⟩
            refine n_pc (pc2 := 130) rfl (n_st (st2 := [.int (atD (R9 j) (fp k).toInt (iI (-1)))]) rfl ?_)
            refine n_topI (y := x9) (atD_in (by omega) (by omega) hx9) ?_
            refine n_aload_n C dX5_checkOperation_130 0 rfl rfl ?_
            refine n_get (k9 := 2) C dX5_checkOperation_131 (by omega) k0 hX5_checkOperation_X5 rfl (by decide) kX5_checkOperation_34 rfl ?_
            refine n_getN (k9 := 2) C dX5_checkOperation_134 (by omega) h8.obj hX5_checkOperation_X3 rfl (by decide) kn_X5_119 rfl ?_
            refine n_iload_n C dX5_checkOperation_137 2 rfl rfl ?_
            refine n_iald (j := k) C dX5_checkOperation_138 (by omega) g3 (by omega) (by omega) (by omega) ?_
            refine n_icmp_eqR C dX5_checkOperation_139 (by decide) (tgt := 152) (fun c7 => ?_) (fun c7 => ?_)
            · have hcc : chk (R9 j) tk (fk k, fp k, fs k) = 0 := by rw [hcv, if_neg (by omega), hx9, c7, if_neg (by simp)]
              exact absurd hcc hchk
            · have hcc : chk (R9 j) tk (fk k, fp k, fs k) = 3 := by rw [hcv, if_neg (by omega), hx9, if_pos (fun q => c7 (Option.some.inj q))]
              exact n_throw (text := "another symbol is there") C hlt hX hnt dX5_checkOperation_142 dX5_checkOperation_145 dX5_checkOperation_146 dX5_checkOperation_148 dX5_checkOperation_151 hX5_checkOperation_nISa hX5_checkOperation_nISb (by decide) hX5_checkOperation_nISc hx2_nIS hx3_nIS hx4_nIS (Nat.le_of_ble_eq_true rfl) (Nat.le_of_ble_eq_true rfl) (Nat.le_of_ble_eq_true rfl) (Nat.le_of_ble_eq_true rfl) (Nat.le_of_ble_eq_true rfl) (Nat.le_of_ble_eq_true rfl) (⟨by rw [hcc]; rfl, rfl⟩)
          · have hcc : chk (R9 j) tk (fk k, fp k, fs k) = 2 := by rw [hcv, if_pos (by omega)]
            exact n_throw (text := "no such place, or one passed already") C hlt hX hnt dX5_checkOperation_109 dX5_checkOperation_112 dX5_checkOperation_113 dX5_checkOperation_115 dX5_checkOperation_118 hX5_checkOperation_nIBa hX5_checkOperation_nIBb (by decide) hX5_checkOperation_nIBc hx2_nIB hx3_nIB hx4_nIB (Nat.le_of_ble_eq_true rfl) (Nat.le_of_ble_eq_true rfl) (Nat.le_of_ble_eq_true rfl) (Nat.le_of_ble_eq_true rfl) (Nat.le_of_ble_eq_true rfl) (Nat.le_of_ble_eq_true rfl) (⟨by rw [hcc]; rfl, rfl⟩)
    · have hcc : chk (R9 j) tk (fk k, fp k, fs k) = 1 := chk_a (Or.inr c3)
      exact n_throw (text := "no such kind or symbol") C hlt hX hnt dX5_checkOperation_45 dX5_checkOperation_48 dX5_checkOperation_49 dX5_checkOperation_51 dX5_checkOperation_54 hX5_checkOperation_nIAa hX5_checkOperation_nIAb (by decide) hX5_checkOperation_nIAc hx2_nIA hx3_nIA hx4_nIA (Nat.le_of_ble_eq_true rfl) (Nat.le_of_ble_eq_true rfl) (Nat.le_of_ble_eq_true rfl) (Nat.le_of_ble_eq_true rfl) (Nat.le_of_ble_eq_true rfl) (Nat.le_of_ble_eq_true rfl) (⟨by rw [hcc]; rfl, rfl⟩)
  · refine n_iload_n C dX5_checkOperation_25 3 rfl rfl ?_
    refine n_iconst C dX5_checkOperation_26 ?_
    refine n_icmp_neR C dX5_checkOperation_27 (by decide) (tgt := 45) (fun c2 => ?_) (fun c2 => ?_)
    · have hcc : chk (R9 j) tk (fk k, fp k, fs k) = 1 := chk_a (Or.inl ⟨c1, c2⟩)
      exact n_throw (text := "no such kind or symbol") C hlt hX hnt dX5_checkOperation_45 dX5_checkOperation_48 dX5_checkOperation_49 dX5_checkOperation_51 dX5_checkOperation_54 hX5_checkOperation_nIAa hX5_checkOperation_nIAb (by decide) hX5_checkOperation_nIAc hx2_nIA hx3_nIA hx4_nIA (Nat.le_of_ble_eq_true rfl) (Nat.le_of_ble_eq_true rfl) (Nat.le_of_ble_eq_true rfl) (Nat.le_of_ble_eq_true rfl) (Nat.le_of_ble_eq_true rfl) (Nat.le_of_ble_eq_true rfl) (⟨by rw [hcc]; rfl, rfl⟩)
    · refine n_lv (lv2 := [(0, .ref (ad 0)), (1, .ref (ad (2 + 2 * j))), (2, .int (iI (k : Int))), (3, .int (iI 1)), (4, .int (iI ((fp k).toInt)))]) (by rw [c2]) ?_
      refine n_aload_n C dX5_checkOperation_30 0 rfl rfl ?_
      refine n_get (k9 := 2) C dX5_checkOperation_31 (by omega) k0 hX5_checkOperation_X5 rfl (by decide) kX5_checkOperation_34 rfl ?_
      refine n_getN (k9 := 2) C dX5_checkOperation_34 (by omega) h8.obj hX5_checkOperation_X3 rfl (by decide) kn_X5_119 rfl ?_
      refine n_iload_n C dX5_checkOperation_37 2 rfl rfl ?_
      refine n_iald (j := k) C dX5_checkOperation_38 (by omega) g3 (by omega) (by omega) (by omega) ?_
      refine n_topI (y := (iI ((fs k).toInt))) ((iI_self (fs k)).symm) ?_
      refine n_callS (rest := []) C dX5_checkOperation_39 (TX5_isSymbol l hSa hSb) (cwS 1 C.2.2.2.2.1 gX5_checkOperation_X5_isSymbol rfl rfl rfl cdX5_isSymbol ⟨Nat.le_of_ble_eq_true rfl, Nat.le_of_ble_eq_true rfl⟩) rfl rfl (Nat.le_of_ble_eq_true rfl) ⟨Nat.le_of_ble_eq_true rfl, Nat.le_of_ble_eq_true rfl⟩ ?_
      rintro _ _ ⟨rfl, rfl⟩
      refine n_pc (pc2 := 42) rfl (n_st (st2 := [.int (bI (isS (fs k).toInt))]) rfl ?_)
      refine n_if_neB C dX5_checkOperation_42 (by decide) (tgt := 55) (fun c3 => ?_) (fun c3 => ?_)
      · have hcv : chk (R9 j) tk (fk k, fp k, fs k) = if (fp k).toInt < (tk : Int) ∨ ((R9 j).length : Int) < (fp k).toInt then 2 else 0 := by rw [c2]; exact chk_k1 c3
        refine n_iload_n C dX5_checkOperation_55 3 rfl rfl ?_
        refine n_iconst C dX5_checkOperation_56 ?_
        refine n_icmp_ne C dX5_checkOperation_57 (by decide) (by omega) (by omega) (by omega) (by omega) (tgt := 67) (fun c9 => absurd c9 (by omega)) (fun _ => ?_)
        refine n_aload_n C dX5_checkOperation_60 1 rfl rfl ?_
        refine n_getN (k9 := 1) C dX5_checkOperation_61 (by omega) hrj.obj hX5_checkOperation_X2 rfl (by decide) kn_X5_78 rfl ?_
        refine n_goto (tgt := 73) C dX5_checkOperation_64 (by decide) ?_
        refine n_istore (lv' := [(0, .ref (ad 0)), (1, .ref (ad (2 + 2 * j))), (2, .int (iI (k : Int))), (3, .int (iI 1)), (4, .int (iI ((fp k).toInt))), (5, .int (iI ((R9 j).length : Int)))]) C dX5_checkOperation_73 (by decide) rfl ?_
        refine n_iload_n C dX5_checkOperation_75 2 rfl rfl ?_
        refine n_if_le C dX5_checkOperation_76 (by decide) (by omega) (by omega) (tgt := 92) (fun c4 => ?_) (fun c4 => ?_)
        · have htk9 := htk0 (by omega)
          refine n_iconst C dX5_checkOperation_92 ?_
          refine n_istore (lv' := [(0, .ref (ad 0)), (1, .ref (ad (2 + 2 * j))), (2, .int (iI (k : Int))), (3, .int (iI 1)), (4, .int (iI ((fp k).toInt))), (5, .int (iI ((R9 j).length : Int))), (6, .int (iI 0))]) C dX5_checkOperation_93 (by decide) rfl ?_
          refine n_lv (lv2 := [(0, .ref (ad 0)), (1, .ref (ad (2 + 2 * j))), (2, .int (iI (k : Int))), (3, .int (iI 1)), (4, .int (iI ((fp k).toInt))), (5, .int (iI ((R9 j).length : Int))), (6, .int (iI (tk : Int)))]) (by rw [htk9]; rfl) ?_
          refine n_iload C dX5_checkOperation_95 4 rfl ?_
          refine n_iload C dX5_checkOperation_97 6 rfl ?_
          refine n_icmp_lt C dX5_checkOperation_99 (by decide) (by omega) (by omega) (by omega) (by omega) (tgt := 109) (fun c5 => ?_) (fun c5 => ?_)
          · have hcc : chk (R9 j) tk (fk k, fp k, fs k) = 2 := by rw [hcv, if_pos (by omega)]
            exact n_throw (text := "no such place, or one passed already") C hlt hX hnt dX5_checkOperation_109 dX5_checkOperation_112 dX5_checkOperation_113 dX5_checkOperation_115 dX5_checkOperation_118 hX5_checkOperation_nIBa hX5_checkOperation_nIBb (by decide) hX5_checkOperation_nIBc hx2_nIB hx3_nIB hx4_nIB (Nat.le_of_ble_eq_true rfl) (Nat.le_of_ble_eq_true rfl) (Nat.le_of_ble_eq_true rfl) (Nat.le_of_ble_eq_true rfl) (Nat.le_of_ble_eq_true rfl) (Nat.le_of_ble_eq_true rfl) (⟨by rw [hcc]; rfl, rfl⟩)
          · refine n_iload C dX5_checkOperation_102 4 rfl ?_
            refine n_iload C dX5_checkOperation_104 5 rfl ?_
            refine n_icmp_le C dX5_checkOperation_106 (by decide) (by omega) (by omega) (by omega) (by omega) (tgt := 119) (fun c6 => ?_) (fun c6 => ?_)
            · refine n_iload_n C dX5_checkOperation_119 3 rfl rfl ?_
              refine n_if_ne C dX5_checkOperation_120 (by decide) (by omega) (by omega) (tgt := 152) (fun _ => ?_) (fun c9 => absurd c9 (by omega))
              have hcc : chk (R9 j) tk (fk k, fp k, fs k) = 0 := by rw [hcv, if_neg (by omega)]
              exact absurd hcc hchk
            · have hcc : chk (R9 j) tk (fk k, fp k, fs k) = 2 := by rw [hcv, if_pos (by omega)]
              exact n_throw (text := "no such place, or one passed already") C hlt hX hnt dX5_checkOperation_109 dX5_checkOperation_112 dX5_checkOperation_113 dX5_checkOperation_115 dX5_checkOperation_118 hX5_checkOperation_nIBa hX5_checkOperation_nIBb (by decide) hX5_checkOperation_nIBc hx2_nIB hx3_nIB hx4_nIB (Nat.le_of_ble_eq_true rfl) (Nat.le_of_ble_eq_true rfl) (Nat.le_of_ble_eq_true rfl) (Nat.le_of_ble_eq_true rfl) (Nat.le_of_ble_eq_true rfl) (Nat.le_of_ble_eq_true rfl) (⟨by rw [hcc]; rfl, rfl⟩)
        · refine n_aload_n C dX5_checkOperation_79 0 rfl rfl ?_
          refine n_get (k9 := 2) C dX5_checkOperation_80 (by omega) k0 hX5_checkOperation_X5 rfl (by decide) kX5_checkOperation_34 rfl ?_
          refine n_iload_n C dX5_checkOperation_83 2 rfl rfl ?_
          refine n_iconst C dX5_checkOperation_84 ?_
          refine n_isub C dX5_checkOperation_85 ?_
          refine n_callV (rest := []) C dX5_checkOperation_86 (TX3_behind l (i := 8) (by omega) h8 (by omega) (by omega)) (cwV 1 C.2.2.2.2.1 gX5_checkOperation_X3_behind rfl rfl rfl cdX3_behind ⟨Nat.le_of_ble_eq_true rfl, Nat.le_of_ble_eq_true rfl⟩) (by omega) h8.obj rfl rfl rfl (Nat.le_of_ble_eq_true rfl) ⟨Nat.le_of_ble_eq_true rfl, Nat.le_of_ble_eq_true rfl⟩ ?_
          rintro _ _ ⟨rfl, rfl⟩
          refine n_pc (pc2 := 89) rfl (n_st (st2 := [.int (bhR ops ((k : Int) - 1))]) rfl ?_)
          refine n_topI (y := (iI (tk : Int))) (htk (by omega)) ?_
          refine n_goto (tgt := 93) C dX5_checkOperation_89 (by decide) ?_
          refine n_istore (lv' := [(0, .ref (ad 0)), (1, .ref (ad (2 + 2 * j))), (2, .int (iI (k : Int))), (3, .int (iI 1)), (4, .int (iI ((fp k).toInt))), (5, .int (iI ((R9 j).length : Int))), (6, .int (iI (tk : Int)))]) C dX5_checkOperation_93 (by decide) rfl ?_
          refine n_iload C dX5_checkOperation_95 4 rfl ?_
          refine n_iload C dX5_checkOperation_97 6 rfl ?_
          refine n_icmp_lt C dX5_checkOperation_99 (by decide) (by omega) (by omega) (by omega) (by omega) (tgt := 109) (fun c5 => ?_) (fun c5 => ?_)
          · have hcc : chk (R9 j) tk (fk k, fp k, fs k) = 2 := by rw [hcv, if_pos (by omega)]
            exact n_throw (text := "no such place, or one passed already") C hlt hX hnt dX5_checkOperation_109 dX5_checkOperation_112 dX5_checkOperation_113 dX5_checkOperation_115 dX5_checkOperation_118 hX5_checkOperation_nIBa hX5_checkOperation_nIBb (by decide) hX5_checkOperation_nIBc hx2_nIB hx3_nIB hx4_nIB (Nat.le_of_ble_eq_true rfl) (Nat.le_of_ble_eq_true rfl) (Nat.le_of_ble_eq_true rfl) (Nat.le_of_ble_eq_true rfl) (Nat.le_of_ble_eq_true rfl) (Nat.le_of_ble_eq_true rfl) (⟨by rw [hcc]; rfl, rfl⟩)
          · refine n_iload C dX5_checkOperation_102 4 rfl ?_
            refine n_iload C dX5_checkOperation_104 5 rfl ?_
            refine n_icmp_le C dX5_checkOperation_106 (by decide) (by omega) (by omega) (by omega) (by omega) (tgt := 119) (fun c6 => ?_) (fun c6 => ?_)
            · refine n_iload_n C dX5_checkOperation_119 3 rfl rfl ?_
              refine n_if_ne C dX5_checkOperation_120 (by decide) (by omega) (by omega) (tgt := 152) (fun _ => ?_) (fun c9 => absurd c9 (by omega))
              have hcc : chk (R9 j) tk (fk k, fp k, fs k) = 0 := by rw [hcv, if_neg (by omega)]
              exact absurd hcc hchk
            · have hcc : chk (R9 j) tk (fk k, fp k, fs k) = 2 := by rw [hcv, if_pos (by omega)]
              exact n_throw (text := "no such place, or one passed already") C hlt hX hnt dX5_checkOperation_109 dX5_checkOperation_112 dX5_checkOperation_113 dX5_checkOperation_115 dX5_checkOperation_118 hX5_checkOperation_nIBa hX5_checkOperation_nIBb (by decide) hX5_checkOperation_nIBc hx2_nIB hx3_nIB hx4_nIB (Nat.le_of_ble_eq_true rfl) (Nat.le_of_ble_eq_true rfl) (Nat.le_of_ble_eq_true rfl) (Nat.le_of_ble_eq_true rfl) (Nat.le_of_ble_eq_true rfl) (Nat.le_of_ble_eq_true rfl) (⟨by rw [hcc]; rfl, rfl⟩)
      · have hcc : chk (R9 j) tk (fk k, fp k, fs k) = 1 := chk_a (Or.inr c3)
        exact n_throw (text := "no such kind or symbol") C hlt hX hnt dX5_checkOperation_45 dX5_checkOperation_48 dX5_checkOperation_49 dX5_checkOperation_51 dX5_checkOperation_54 hX5_checkOperation_nIAa hX5_checkOperation_nIAb (by decide) hX5_checkOperation_nIAc hx2_nIA hx3_nIA hx4_nIA (Nat.le_of_ble_eq_true rfl) (Nat.le_of_ble_eq_true rfl) (Nat.le_of_ble_eq_true rfl) (Nat.le_of_ble_eq_true rfl) (Nat.le_of_ble_eq_true rfl) (Nat.le_of_ble_eq_true rfl) (⟨by rw [hcc]; rfl, rfl⟩)

set_option maxHeartbeats 4000000 in
set_option maxRecDepth 100000 in
theorem TX5_checkRoom (l : Launch) {G : GG} {N : Nat} {ad : Nat → Nat} {ev : Nat → va_E} {z : Int} (hN : 53 ≤ N) {rc dc lsz : Nat} {lim : Int} {ds : List Int32} (k0 : ev 0 = .inr (5, [.int (iI lim), .ref (ad 1), .ref (ad 8), .ref (ad 12), .int (iI (lsz : Int)), .ref (ad 16), .ref (ad 41), .ref (ad rc), .ref (ad dc)])) (hdc : dc = 49 ∨ dc = 51) (hdd : RowAt G ad ev dc ds 123) (hza : 0 ≤ z) (hzb : z ≤ 1000) (hz : (ds.length : Int) + z ≤ 60) : Ct l yX5_checkRoom wsX5_checkRoom rmX5_checkRoom [.ref (ad 0), .int (iI z)] G N ad ev 0 0 (fun v e2 => v = none ∧ ev = e2) := by
  have hl := hdd.le
  refine Ct_of (cc := cX5_checkRoom) (maxL := 2) (ret := none) (lv := [(0, .ref (ad 0)), (1, .int (iI z))]) (by decide) rfl (Nat.le_of_ble_eq_true rfl) rfl ?_
  intro p E s m args below meth c A C hr hnm
  refine n_aload_n C dX5_checkRoom_0 0 rfl rfl ?_
  refine n_get (k9 := 8) C dX5_checkRoom_1 (by omega) k0 hX5_checkRoom_X5 rfl (by decide) kX5_checkRoom_62 rfl ?_
  refine n_getN (k9 := 1) C dX5_checkRoom_4 (by omega) hdd.obj hX5_checkRoom_X2 rfl (by decide) kn_X5_78 rfl ?_
  refine n_iload_n C dX5_checkRoom_7 1 rfl rfl ?_
  refine n_iadd C dX5_checkRoom_8 ?_
  refine n_bipush C dX5_checkRoom_9 (by decide) ?_
  refine n_icmp_le C dX5_checkRoom_11 (by decide) (by omega) (by omega) (by omega) (by omega) (tgt := 24) (fun _ => ?_) (fun c9 => absurd c9 (by omega))
  exact n_vret C hr dX5_checkRoom_24 (⟨rfl, rfl⟩)

set_option maxHeartbeats 4000000 in
set_option maxRecDepth 100000 in
theorem ZX5_checkRoom (l : Launch) (hlt : l.stackTraces = false) {G : GG} {N : Nat} {ad : Nat → Nat} {ev : Nat → va_E} {z : Int} (hN : 53 ≤ N) {rc dc lsz : Nat} {lim : Int} {ds : List Int32} (k0 : ev 0 = .inr (5, [.int (iI lim), .ref (ad 1), .ref (ad 8), .ref (ad 12), .int (iI (lsz : Int)), .ref (ad 16), .ref (ad 41), .ref (ad rc), .ref (ad dc)])) (hdc : dc = 49 ∨ dc = 51) (hdd : RowAt G ad ev dc ds 123) (hza : 0 ≤ z) (hzb : z ≤ 1000) (hz : 60 < (ds.length : Int) + z) : Cz l yX5_checkRoom wsX5_checkRoom rzX5_checkRoom [.ref (ad 0), .int (iI z)] G N ad ev 1 6 (fun X e2 => X = nUO ∧ ev = e2) := by
  have hl := hdd.le
  refine Cz_of (cc := cX5_checkRoom) (maxL := 2) (ret := none) (lv := [(0, .ref (ad 0)), (1, .int (iI z))]) (by decide) rfl (Nat.le_of_ble_eq_true rfl) rfl ?_
  intro p E s m args below meth c A C hr hX hnt
  refine n_aload_n C dX5_checkRoom_0 0 rfl rfl ?_
  refine n_get (k9 := 8) C dX5_checkRoom_1 (by omega) k0 hX5_checkRoom_X5 rfl (by decide) kX5_checkRoom_62 rfl ?_
  refine n_getN (k9 := 1) C dX5_checkRoom_4 (by omega) hdd.obj hX5_checkRoom_X2 rfl (by decide) kn_X5_78 rfl ?_
  refine n_iload_n C dX5_checkRoom_7 1 rfl rfl ?_
  refine n_iadd C dX5_checkRoom_8 ?_
  refine n_bipush C dX5_checkRoom_9 (by decide) ?_
  refine n_icmp_le C dX5_checkRoom_11 (by decide) (by omega) (by omega) (by omega) (by omega) (tgt := 24) (fun c9 => absurd c9 (by omega)) (fun _ => ?_)
  exact n_throw (text := "the result is too long") C hlt hX hnt dX5_checkRoom_14 dX5_checkRoom_17 dX5_checkRoom_18 dX5_checkRoom_20 dX5_checkRoom_23 hX5_checkRoom_nUOa hX5_checkRoom_nUOb (by decide) hX5_checkRoom_nUOc hx2_nUO hx3_nUO hx4_nUO (Nat.le_of_ble_eq_true rfl) (Nat.le_of_ble_eq_true rfl) (Nat.le_of_ble_eq_true rfl) (Nat.le_of_ble_eq_true rfl) (Nat.le_of_ble_eq_true rfl) (Nat.le_of_ble_eq_true rfl) (⟨rfl, rfl⟩)

set_option maxHeartbeats 4000000 in
set_option maxRecDepth 100000 in
theorem TX5_swapResultAndDraft (l : Launch) {G : GG} {N : Nat} {ad : Nat → Nat} {ev : Nat → va_E} {rc dc lsz : Nat} {lim : Int} (hN : 53 ≤ N) (k0 : ev 0 = .inr (5, [.int (iI lim), .ref (ad 1), .ref (ad 8), .ref (ad 12), .int (iI (lsz : Int)), .ref (ad 16), .ref (ad 41), .ref (ad rc), .ref (ad dc)])) : Ct l yX5_swapResultAndDraft wsX5_swapResultAndDraft rmX5_swapResultAndDraft [.ref (ad 0)] G N ad ev 0 0 (fun v e2 => v = none ∧ e2 0 = .inr (5, [.int (iI lim), .ref (ad 1), .ref (ad 8), .ref (ad 12), .int (iI (lsz : Int)), .ref (ad 16), .ref (ad 41), .ref (ad dc), .ref (ad rc)]) ∧ Fr e2 ev (fun j => j = 0)) := by
  refine Ct_of (cc := cX5_swapResultAndDraft) (maxL := 2) (ret := none) (lv := [(0, .ref (ad 0))]) (by decide) rfl (Nat.le_of_ble_eq_true rfl) rfl ?_
  intro p E s m args below meth c A C hr hnm
  refine n_aload_n C dX5_swapResultAndDraft_0 0 rfl rfl ?_
  refine n_get (k9 := 7) C dX5_swapResultAndDraft_1 (by omega) k0 hX5_swapResultAndDraft_X5 rfl (by decide) kX5_swapResultAndDraft_58 rfl ?_
  refine n_astore_n (lv' := [(0, .ref (ad 0)), (1, .ref (ad rc))]) C dX5_swapResultAndDraft_4 rfl (by decide) rfl ?_
  refine n_aload_n C dX5_swapResultAndDraft_5 0 rfl rfl ?_
  refine n_aload_n C dX5_swapResultAndDraft_6 0 rfl rfl ?_
  refine n_get (k9 := 8) C dX5_swapResultAndDraft_7 (by omega) k0 hX5_swapResultAndDraft_X5 rfl (by decide) kX5_swapResultAndDraft_62 rfl ?_
  refine n_put (k9 := 7) (fs2 := [.int (iI lim), .ref (ad 1), .ref (ad 8), .ref (ad 12), .int (iI (lsz : Int)), .ref (ad 16), .ref (ad 41), .ref (ad dc), .ref (ad dc)]) C dX5_swapResultAndDraft_10 (by omega) k0 hX5_swapResultAndDraft_X5 tyX5_ok nmX5 rfl (by decide) kX5_swapResultAndDraft_58 rfl rfl rfl (Nat.le_of_ble_eq_true rfl) rfl (fun e1 hs2 ho3 => ?_)
  refine n_aload_n C dX5_swapResultAndDraft_13 0 rfl rfl ?_
  refine n_aload_n C dX5_swapResultAndDraft_14 1 rfl rfl ?_
  refine n_put (k9 := 8) (fs2 := [.int (iI lim), .ref (ad 1), .ref (ad 8), .ref (ad 12), .int (iI (lsz : Int)), .ref (ad 16), .ref (ad 41), .ref (ad dc), .ref (ad rc)]) C dX5_swapResultAndDraft_15 (by omega) hs2 hX5_swapResultAndDraft_X5 tyX5_ok nmX5 rfl (by decide) kX5_swapResultAndDraft_62 rfl rfl rfl (Nat.le_of_ble_eq_true rfl) rfl (fun e4 hs5 ho6 => ?_)
  exact n_vret C hr dX5_swapResultAndDraft_18 (⟨rfl, hs5, fun j hj => (ho6 j (by omega)).trans (ho3 j (by omega))⟩)
