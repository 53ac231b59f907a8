/-- what diff throws: 1 no such row, 2 more than the limit; 0 nothing -/
def dfE (R : Nat → List Int32) (lim a b : Int) : Nat := if isR a && isR b then (if lim < (rs (R a.toNat) (R b.toNat) 0 0 : Int) then 2 else 0) else 1
def exD : Nat → String
  | 1 => nIA
  | _ => nIS
def dfS (R : Nat → List Int32) (a b : Int) : List Op := sc (R a.toNat) (R b.toNat) 0 0
theorem DeskB.cmp2 {G : GG} {ad : Nat → Nat} {e2 : Nat → va_E} {lim : Int} {R : Nat → List Int32} {ops : List Tr} {ls : List Op} {lsz rc dc : Nat} {rs ds : List Int32} {g : Nat → Option Nat} (h : DeskB G ad e2 lim R ops ls lsz rc dc rs ds g) : DeskAt G ad e2 lim R ops ls lsz rs := ⟨rc, dc, ds, g, h⟩
theorem Sm_sc (xs ys : List Int32) (h : xs.length ≤ 20) : Sm (sc xs ys 0 0) := fun j t ht => by
  have := (sc_facts xs ys _ 0 0 (Nat.zero_le _) (Nat.zero_le _) (Nat.le_refl _)).2 j t ht
  omega

set_option maxHeartbeats 4000000 in
set_option maxRecDepth 100000 in
theorem TX5_diff (l : Launch) {G : GG} {N : Nat} {ad : Nat → Nat} {ev : Nat → va_E} {lim : Int} {R9 : Nat → List Int32} {ops : List Tr} {ls : List Op} {lsz : Nat} {rs9 : List Int32} {a b : Int} (hN : 53 ≤ N) (hD : DeskAt G ad ev lim R9 ops ls lsz rs9) (haa : -2147483648 ≤ a) (hab : a < 2147483648) (hba : -2147483648 ≤ b) (hbb : b < 2147483648) (hE : dfE R9 lim a b = 0) : Ct l yX5_diff wsX5_diff rmX5_diff [.ref (ad 0), .int (iI a), .int (iI b)] G N ad ev 0 0 (fun v e2 => v = some (.int (iI ((dfS R9 a b).length : Int))) ∧ DeskAt G ad e2 lim R9 ((dfS R9 a b).map encO) (dfS R9 a b) (R9 a.toNat).length rs9 ∧ Fr e2 ev (fun j => j < 53)) := by
  obtain ⟨rc, dc, ds, g, hB⟩ := hD
  obtain ⟨⟨hli1, hli2, hlsz, hsm, hrd⟩, k0, k1, hg, hr9, h8, h12, hwk, hrr, hdd⟩ := id hB
  obtain ⟨⟨qa0, qb0, M0, hc0⟩, -⟩ := id hwk
  refine Ct_of (cc := cX5_diff) (maxL := 3) (ret := some .int) (lv := [(0, .ref (ad 0)), (1, .int (iI a)), (2, .int (iI b))]) (by decide) rfl (Nat.le_of_ble_eq_true rfl) rfl ?_
  intro p E s m args below meth c A C hr hnm
  refine n_iload_n C dX5_diff_0 1 rfl rfl ?_
  refine n_callS (rest := []) C dX5_diff_1 (TX5_isRow l haa hab) (cwS 1 C.2.2.2.2.1 gX5_diff_X5_isRow rfl rfl rfl cdX5_isRow ⟨Nat.le_of_ble_eq_true rfl, Nat.le_of_ble_eq_true rfl⟩) rfl rfl (Nat.le_of_ble_eq_true rfl) ⟨Nat.le_of_ble_eq_true rfl, Nat.le_of_ble_eq_true rfl⟩ ?_
  rintro _ _ ⟨rfl, rfl⟩
  refine n_pc (pc2 := 4) rfl (n_st (st2 := [.int (bI (isR a))]) rfl ?_)
  refine n_if_eqB C dX5_diff_4 (by decide) (tgt := 14) (fun c1 => ?_) (fun c1 => ?_)
  · have hcc : dfE R9 lim a b = 1 := by unfold dfE; rw [c1]; rfl
    exact absurd hE (by rw [hcc]; decide)
  · refine n_iload_n C dX5_diff_7 2 rfl rfl ?_
    refine n_callS (rest := []) C dX5_diff_8 (TX5_isRow l hba hbb) (cwS 1 C.2.2.2.2.1 gX5_diff_X5_isRow rfl rfl rfl cdX5_isRow ⟨Nat.le_of_ble_eq_true rfl, Nat.le_of_ble_eq_true rfl⟩) rfl rfl (Nat.le_of_ble_eq_true rfl) ⟨Nat.le_of_ble_eq_true rfl, Nat.le_of_ble_eq_true rfl⟩ ?_
    rintro _ _ ⟨rfl, rfl⟩
    refine n_pc (pc2 := 11) rfl (n_st (st2 := [.int (bI (isR b))]) rfl ?_)
    refine n_if_neB C dX5_diff_11 (by decide) (tgt := 24) (fun c2 => ?_) (fun c2 => ?_)
    · have c1w := of_decide_eq_true c1
      obtain ⟨i, rfl⟩ : ∃ i : Nat, a = (i : Int) := ⟨a.toNat, by omega⟩
      have hri := hr9 i (by omega)
      have c2w := of_decide_eq_true c2
      obtain ⟨j, rfl⟩ : ∃ j : Nat, b = (j : Int) := ⟨b.toNat, by omega⟩
      have hrj := hr9 j (by omega)
      have hli := hri.le
      have hlj := hrj.le
      have hrs := rs_le (R9 i) (R9 j) 0 0
      have hcv : dfE R9 lim (i : Int) (j : Int) = if lim < (rs (R9 i) (R9 j) 0 0 : Int) then 2 else 0 := by unfold dfE; rw [c1, c2, Int.toNat_natCast, Int.toNat_natCast]; rfl
      refine n_aload_n C dX5_diff_24 0 rfl rfl ?_
      refine n_get (k9 := 5) C dX5_diff_25 (by omega) k0 hX5_diff_X5 rfl (by decide) kX5_diff_47 rfl ?_
      refine n_aload_n C dX5_diff_28 0 rfl rfl ?_
      refine n_get (k9 := 1) C dX5_diff_29 (by omega) k0 hX5_diff_X5 rfl (by decide) kX5_diff_24 rfl ?_
      refine n_iload_n C dX5_diff_32 1 rfl rfl ?_
      refine n_aald (j := i) (q := ad (2 + 2 * i)) C dX5_diff_33 (by omega) k1 (by omega) (by omega) (by omega) (hg i (by omega)) ?_
      refine n_aload_n C dX5_diff_34 0 rfl rfl ?_
      refine n_get (k9 := 1) C dX5_diff_35 (by omega) k0 hX5_diff_X5 rfl (by decide) kX5_diff_24 rfl ?_
      refine n_iload_n C dX5_diff_38 2 rfl rfl ?_
      refine n_aald (j := j) (q := ad (2 + 2 * j)) C dX5_diff_39 (by omega) k1 (by omega) (by omega) (by omega) (hg j (by omega)) ?_
      refine n_callV (rest := []) C dX5_diff_40 (TX0_compare l hN hc0 hri hrj (by omega) (by omega)) (cwV 2 C.2.2.2.2.1 gX5_diff_X0_compare rfl rfl rfl cdX0_compare ⟨Nat.le_of_ble_eq_true rfl, Nat.le_of_ble_eq_true rfl⟩) (by omega) hc0.1 rfl rfl rfl (Nat.le_of_ble_eq_true rfl) ⟨Nat.le_of_ble_eq_true rfl, Nat.le_of_ble_eq_true rfl⟩ ?_
      rintro _ e1 ⟨rfl, ⟨M, hc, hok⟩, hF⟩
      refine n_pc (pc2 := 43) rfl (n_st (st2 := []) rfl ?_)
      have hB := hB.cmp hc hF
      obtain ⟨-, k0, k1, -, hr9, h8, h12, hwk, hrr, hdd⟩ := id hB
      have hri := hr9 i (by omega)
      have hrj := hr9 j (by omega)
      refine n_aload_n C dX5_diff_43 0 rfl rfl ?_
      refine n_get (k9 := 5) C dX5_diff_44 (by omega) k0 hX5_diff_X5 rfl (by decide) kX5_diff_47 rfl ?_
      refine n_callV (rest := []) C dX5_diff_47 (TX0_operations l hN hc hok) (cwV 0 C.2.2.2.2.1 gX5_diff_X0_operations rfl rfl rfl cdX0_operations ⟨Nat.le_of_ble_eq_true rfl, Nat.le_of_ble_eq_true rfl⟩) (by omega) hc.1 rfl rfl rfl (Nat.le_of_ble_eq_true rfl) ⟨Nat.le_of_ble_eq_true rfl, Nat.le_of_ble_eq_true rfl⟩ ?_
      rintro _ _ ⟨rfl, rfl⟩
      refine n_pc (pc2 := 50) rfl (n_st (st2 := [.int (iI (rs (R9 i) (R9 j) 0 0 : Int))]) rfl ?_)
      refine n_aload_n C dX5_diff_50 0 rfl rfl ?_
      refine n_get (k9 := 0) C dX5_diff_51 (by omega) k0 hX5_diff_X5 rfl (by decide) kX5_diff_18 rfl ?_
      refine n_icmp_le C dX5_diff_54 (by decide) (by omega) (by omega) (by omega) (by omega) (tgt := 67) (fun c3 => ?_) (fun c3 => ?_)
      · refine n_aload_n C dX5_diff_67 0 rfl rfl ?_
        refine n_get (k9 := 5) C dX5_diff_68 (by omega) k0 hX5_diff_X5 rfl (by decide) kX5_diff_47 rfl ?_
        refine n_aload_n C dX5_diff_71 0 rfl rfl ?_
        refine n_get (k9 := 2) C dX5_diff_72 (by omega) k0 hX5_diff_X5 rfl (by decide) kX5_diff_34 rfl ?_
        refine n_callV (rest := []) C dX5_diff_75 (TX0_writeTo l hN hc hri hrj (by omega) (by omega) hok (k := 8) (by omega) (by omega) h8) (cwV 1 C.2.2.2.2.1 gX5_diff_X0_writeTo rfl rfl rfl cdX0_writeTo ⟨Nat.le_of_ble_eq_true rfl, Nat.le_of_ble_eq_true rfl⟩) (by omega) hc.1 rfl rfl rfl (Nat.le_of_ble_eq_true rfl) ⟨Nat.le_of_ble_eq_true rfl, Nat.le_of_ble_eq_true rfl⟩ ?_
        rintro _ e2 ⟨rfl, h8, hF2⟩
        refine n_pc (pc2 := 78) rfl (n_st (st2 := []) rfl ?_)
        have hri := hri.fr hF2 (by omega) (by omega)
        have hrj := hrj.fr hF2 (by omega) (by omega)
        have hrr := hrr.fr hF2 (by omega) (by omega)
        have hdd := hdd.fr hF2 (by omega) (by omega)
        have k0 := (hF2 _ (by omega)).trans k0
        have k1 := (hF2 _ (by omega)).trans k1
        have h12 := h12.fr hF2 (by omega) (by omega) (by omega) (by omega)
        have hc := hc.fr hF2 (fun j h1 h2 => by omega)
        refine n_aload_n C dX5_diff_78 0 rfl rfl ?_
        refine n_get (k9 := 5) C dX5_diff_79 (by omega) k0 hX5_diff_X5 rfl (by decide) kX5_diff_47 rfl ?_
        refine n_aload_n C dX5_diff_82 0 rfl rfl ?_
        refine n_get (k9 := 3) C dX5_diff_83 (by omega) k0 hX5_diff_X5 rfl (by decide) kX5_diff_38 rfl ?_
        refine n_callV (rest := []) C dX5_diff_86 (TX0_writeTo l hN hc hri hrj (by omega) (by omega) hok (k := 12) (by omega) (by omega) h12) (cwV 1 C.2.2.2.2.1 gX5_diff_X0_writeTo rfl rfl rfl cdX0_writeTo ⟨Nat.le_of_ble_eq_true rfl, Nat.le_of_ble_eq_true rfl⟩) (by omega) hc.1 rfl rfl rfl (Nat.le_of_ble_eq_true rfl) ⟨Nat.le_of_ble_eq_true rfl, Nat.le_of_ble_eq_true rfl⟩ ?_
        rintro _ e3 ⟨rfl, h12, hF3⟩
        refine n_pc (pc2 := 89) rfl (n_st (st2 := []) rfl ?_)
        have hri := hri.fr hF3 (by omega) (by omega)
        have hrj := hrj.fr hF3 (by omega) (by omega)
        have hrr := hrr.fr hF3 (by omega) (by omega)
        have hdd := hdd.fr hF3 (by omega) (by omega)
        have k0 := (hF3 _ (by omega)).trans k0
        have k1 := (hF3 _ (by omega)).trans k1
        have h8 := h8.fr hF3 (by omega) (by omega) (by omega) (by omega)
        have hc := hc.fr hF3 (fun j h1 h2 => by omega)
        have hwk := (hwk.fr hF2 (fun j q => by omega)).fr hF3 (fun j q => by omega)
        refine n_aload_n C dX5_diff_89 0 rfl rfl ?_
        refine n_aload_n C dX5_diff_90 0 rfl rfl ?_
        refine n_get (k9 := 1) C dX5_diff_91 (by omega) k0 hX5_diff_X5 rfl (by decide) kX5_diff_24 rfl ?_
        refine n_iload_n C dX5_diff_94 1 rfl rfl ?_
        refine n_aald (j := i) (q := ad (2 + 2 * i)) C dX5_diff_95 (by omega) k1 (by omega) (by omega) (by omega) (hg i (by omega)) ?_
        refine n_getN (k9 := 1) C dX5_diff_96 (by omega) hri.obj hX5_diff_X2 rfl (by decide) kn_X5_78 rfl ?_
        refine n_put (k9 := 4) (fs2 := [.int (iI lim), .ref (ad 1), .ref (ad 8), .ref (ad 12), .int (iI ((R9 i).length : Int)), .ref (ad 16), .ref (ad 41), .ref (ad rc), .ref (ad dc)]) C dX5_diff_99 (by omega) k0 hX5_diff_X5 tyX5_ok nmX5 rfl (by decide) kX5_diff_41 rfl rfl rfl (Nat.le_of_ble_eq_true rfl) rfl (fun e1 hs2 ho3 => ?_)
        have hFp : Fr e1 e3 (fun j => j = 0) := fun j hj => ho3 j hj
        have hri := hri.fr hFp (by omega) (by omega)
        have hrj := hrj.fr hFp (by omega) (by omega)
        have hrr := hrr.fr hFp (by omega) (by omega)
        have hdd := hdd.fr hFp (by omega) (by omega)
        have k1 := (hFp _ (by omega)).trans k1
        have h8 := h8.fr hFp (by omega) (by omega) (by omega) (by omega)
        have h12 := h12.fr hFp (by omega) (by omega) (by omega) (by omega)
        refine n_aload_n C dX5_diff_102 0 rfl rfl ?_
        refine n_get (k9 := 2) C dX5_diff_103 (by omega) hs2 hX5_diff_X5 rfl (by decide) kX5_diff_34 rfl ?_
        refine n_getN (k9 := 3) C dX5_diff_106 (by omega) h8.obj hX5_diff_X3 rfl (by decide) kn_X5_108 rfl ?_
        have hsc : dfS R9 (i : Int) (j : Int) = sc (R9 i) (R9 j) 0 0 := by unfold dfS; rw [Int.toNat_natCast, Int.toNat_natCast]
        have hrows : ∀ n, n < 3 → RowAt G ad e1 (2 + 2 * n) (R9 n) 20 := fun n hn => (((hr9 n hn).fr hF2 (by omega) (by omega)).fr hF3 (by omega) (by omega)).fr hFp (by omega) (by omega)
        exact n_iret C hr dX5_diff_109 (by
          rw [hsc, Int.toNat_natCast]
          refine ⟨by rw [List.length_map], ⟨rc, dc, ds, g, ⟨hli1, hli2, by omega, Sm_sc _ _ (by omega), hrd⟩, hs2, k1, hg, hrows, h8, h12, hwk.fr hFp (fun j q => by omega), hrr, hdd⟩, fun j hj => (hFp j (by omega)).trans ((hF3 j (by omega)).trans ((hF2 j (by omega)).trans (hF j (by omega))))⟩)
      · have hcc : dfE R9 lim (i : Int) (j : Int) = 2 := by rw [hcv, if_pos (by omega)]
        exact absurd hE (by rw [hcc]; decide)
    · have hcc : dfE R9 lim a b = 1 := by unfold dfE; rw [c1, c2]; rfl
      exact absurd hE (by rw [hcc]; decide)

set_option maxHeartbeats 4000000 in
set_option maxRecDepth 100000 in
theorem ZX5_diff (l : Launch) (hlt : l.stackTraces = false) {G : GG} {N : Nat} {ad : Nat → Nat} {ev : Nat → va_E} {lim : Int} {R9 : Nat → List Int32} {ops : List Tr} {ls : List Op} {lsz : Nat} {rs9 : List Int32} {a b : Int} (hN : 53 ≤ N) (hD : DeskAt G ad ev lim R9 ops ls lsz rs9) (haa : -2147483648 ≤ a) (hab : a < 2147483648) (hba : -2147483648 ≤ b) (hbb : b < 2147483648) (hE : dfE R9 lim a b ≠ 0) : Cz l yX5_diff wsX5_diff rzX5_diff [.ref (ad 0), .int (iI a), .int (iI b)] G N ad ev 1 6 (fun X e2 => X = exD (dfE R9 lim a b) ∧ DeskAt G ad e2 lim R9 ops ls lsz rs9 ∧ Fr e2 ev (fun j => j < 53)) := by
  obtain ⟨rc, dc, ds, g, hB⟩ := hD
  obtain ⟨⟨hli1, hli2, hlsz, hsm, hrd⟩, k0, k1, hg, hr9, h8, h12, hwk, hrr, hdd⟩ := id hB
  obtain ⟨⟨qa0, qb0, M0, hc0⟩, -⟩ := id hwk
  refine Cz_of (cc := cX5_diff) (maxL := 3) (ret := some .int) (lv := [(0, .ref (ad 0)), (1, .int (iI a)), (2, .int (iI b))]) (by decide) rfl (Nat.le_of_ble_eq_true rfl) rfl ?_
  intro p E s m args below meth c A C hr hX hnt
  refine n_iload_n C dX5_diff_0 1 rfl rfl ?_
  refine n_callS (rest := []) C dX5_diff_1 (TX5_isRow l haa hab) (cwS 1 C.2.2.2.2.1 gX5_diff_X5_isRow rfl rfl rfl cdX5_isRow ⟨Nat.le_of_ble_eq_true rfl, Nat.le_of_ble_eq_true rfl⟩) rfl rfl (Nat.le_of_ble_eq_true rfl) ⟨Nat.le_of_ble_eq_true rfl, Nat.le_of_ble_eq_true rfl⟩ ?_
  rintro _ _ ⟨rfl, rfl⟩
  refine n_pc (pc2 := 4) rfl (n_st (st2 := [.int (bI (isR a))]) rfl ?_)
  refine n_if_eqB C dX5_diff_4 (by decide) (tgt := 14) (fun c1 => ?_) (fun c1 => ?_)
  · have hcc : dfE R9 lim a b = 1 := by unfold dfE; rw [c1]; rfl
    exact n_throw (text := "no such row") C hlt hX hnt dX5_diff_14 dX5_diff_17 dX5_diff_18 dX5_diff_20 dX5_diff_23 hX5_diff_nIAa hX5_diff_nIAb (by decide) hX5_diff_nIAc hx2_nIA hx3_nIA hx4_nIA (Nat.le_of_ble_eq_true rfl) (Nat.le_of_ble_eq_true rfl) (Nat.le_of_ble_eq_true rfl) (Nat.le_of_ble_eq_true rfl) (Nat.le_of_ble_eq_true rfl) (Nat.le_of_ble_eq_true rfl) (⟨by rw [hcc]; rfl, hB.cmp2, Fr.rf⟩)
  · refine n_iload_n C dX5_diff_7 2 rfl rfl ?_
    refine n_callS (rest := []) C dX5_diff_8 (TX5_isRow l hba hbb) (cwS 1 C.2.2.2.2.1 gX5_diff_X5_isRow rfl rfl rfl cdX5_isRow ⟨Nat.le_of_ble_eq_true rfl, Nat.le_of_ble_eq_true rfl⟩) rfl rfl (Nat.le_of_ble_eq_true rfl) ⟨Nat.le_of_ble_eq_true rfl, Nat.le_of_ble_eq_true rfl⟩ ?_
    rintro _ _ ⟨rfl, rfl⟩
    refine n_pc (pc2 := 11) rfl (n_st (st2 := [.int (bI (isR b))]) rfl ?_)
    refine n_if_neB C dX5_diff_11 (by decide) (tgt := 24) (fun c2 => ?_) (fun c2 => ?_)
    · have c1w := of_decide_eq_true c1
      obtain ⟨i, rfl⟩ : ∃ i : Nat, a = (i : Int) := ⟨a.toNat, by omega⟩
      have hri := hr9 i (by omega)
      have c2w := of_decide_eq_true c2
      obtain ⟨j, rfl⟩ : ∃ j : Nat, b = (j : Int) := ⟨b.toNat, by omega⟩
      have hrj := hr9 j (by omega)
      have hli := hri.le
      have hlj := hrj.le
      have hrs := rs_le (R9 i) (R9 j) 0 0
      have hcv : dfE R9 lim (i : Int) (j : Int) = if lim < (rs (R9 i) (R9 j) 0 0 : Int) then 2 else 0 := by unfold dfE; rw [c1, c2, Int.toNat_natCast, Int.toNat_natCast]; rfl
      refine n_aload_n C dX5_diff_24 0 rfl rfl ?_
      refine n_get (k9 := 5) C dX5_diff_25 (by omega) k0 hX5_diff_X5 rfl (by decide) kX5_diff_47 rfl ?_
      refine n_aload_n C dX5_diff_28 0 rfl rfl ?_
      refine n_get (k9 := 1) C dX5_diff_29 (by omega) k0 hX5_diff_X5 rfl (by decide) kX5_diff_24 rfl ?_
      refine n_iload_n C dX5_diff_32 1 rfl rfl ?_
      refine n_aald (j := i) (q := ad (2 + 2 * i)) C dX5_diff_33 (by omega) k1 (by omega) (by omega) (by omega) (hg i (by omega)) ?_
      refine n_aload_n C dX5_diff_34 0 rfl rfl ?_
      refine n_get (k9 := 1) C dX5_diff_35 (by omega) k0 hX5_diff_X5 rfl (by decide) kX5_diff_24 rfl ?_
      refine n_iload_n C dX5_diff_38 2 rfl rfl ?_
      refine n_aald (j := j) (q := ad (2 + 2 * j)) C dX5_diff_39 (by omega) k1 (by omega) (by omega) (by omega) (hg j (by omega)) ?_
      refine n_callV (rest := []) C dX5_diff_40 (TX0_compare l hN hc0 hri hrj (by omega) (by omega)) (cwV 2 C.2.2.2.2.1 gX5_diff_X0_compare rfl rfl rfl cdX0_compare ⟨Nat.le_of_ble_eq_true rfl, Nat.le_of_ble_eq_true rfl⟩) (by omega) hc0.1 rfl rfl rfl (Nat.le_of_ble_eq_true rfl) ⟨Nat.le_of_ble_eq_true rfl, Nat.le_of_ble_eq_true rfl⟩ ?_
      rintro _ e1 ⟨rfl, ⟨M, hc, hok⟩, hF⟩
      refine n_pc (pc2 := 43) rfl (n_st (st2 := []) rfl ?_)
      have hB := hB.cmp hc hF
      obtain ⟨-, k0, k1, -, hr9, h8, h12, hwk, hrr, hdd⟩ := id hB
      have hri := hr9 i (by omega)
      have hrj := hr9 j (by omega)
      refine n_aload_n C dX5_diff_43 0 rfl rfl ?_
      refine n_get (k9 := 5) C dX5_diff_44 (by omega) k0 hX5_diff_X5 rfl (by decide) kX5_diff_47 rfl ?_
      refine n_callV (rest := []) C dX5_diff_47 (TX0_operations l hN hc hok) (cwV 0 C.2.2.2.2.1 gX5_diff_X0_operations rfl rfl rfl cdX0_operations ⟨Nat.le_of_ble_eq_true rfl, Nat.le_of_ble_eq_true rfl⟩) (by omega) hc.1 rfl rfl rfl (Nat.le_of_ble_eq_true rfl) ⟨Nat.le_of_ble_eq_true rfl, Nat.le_of_ble_eq_true rfl⟩ ?_
      rintro _ _ ⟨rfl, rfl⟩
      refine n_pc (pc2 := 50) rfl (n_st (st2 := [.int (iI (rs (R9 i) (R9 j) 0 0 : Int))]) rfl ?_)
      refine n_aload_n C dX5_diff_50 0 rfl rfl ?_
      refine n_get (k9 := 0) C dX5_diff_51 (by omega) k0 hX5_diff_X5 rfl (by decide) kX5_diff_18 rfl ?_
      refine n_icmp_le C dX5_diff_54 (by decide) (by omega) (by omega) (by omega) (by omega) (tgt := 67) (fun c3 => ?_) (fun c3 => ?_)
      · exact absurd (by rw [hcv, if_neg (by omega)]) hE
      · have hcc : dfE R9 lim (i : Int) (j : Int) = 2 := by rw [hcv, if_pos (by omega)]
        exact n_throw (text := "more operations than the limit") C hlt hX hnt dX5_diff_57 dX5_diff_60 dX5_diff_61 dX5_diff_63 dX5_diff_66 hX5_diff_nISa hX5_diff_nISb (by decide) hX5_diff_nISc hx2_nIS hx3_nIS hx4_nIS (Nat.le_of_ble_eq_true rfl) (Nat.le_of_ble_eq_true rfl) (Nat.le_of_ble_eq_true rfl) (Nat.le_of_ble_eq_true rfl) (Nat.le_of_ble_eq_true rfl) (Nat.le_of_ble_eq_true rfl) (⟨by rw [hcc]; rfl, hB.cmp2, hF.mono (fun k hk => by omega)⟩)
    · have hcc : dfE R9 lim a b = 1 := by unfold dfE; rw [c1, c2]; rfl
      exact n_throw (text := "no such row") C hlt hX hnt dX5_diff_14 dX5_diff_17 dX5_diff_18 dX5_diff_20 dX5_diff_23 hX5_diff_nIAa hX5_diff_nIAb (by decide) hX5_diff_nIAc hx2_nIA hx3_nIA hx4_nIA (Nat.le_of_ble_eq_true rfl) (Nat.le_of_ble_eq_true rfl) (Nat.le_of_ble_eq_true rfl) (Nat.le_of_ble_eq_true rfl) (Nat.le_of_ble_eq_true rfl) (Nat.le_of_ble_eq_true rfl) (⟨by rw [hcc]; rfl, hB.cmp2, Fr.rf⟩)

/-- what patch throws; 0 nothing -/
def ptE (R : Nat → List Int32) (ops : List Tr) (z : Int) : Nat := if isR z then wr (R z.toNat) ops 0 else 1
theorem DeskB.dft {G : GG} {ad : Nat → Nat} {ev e2 : Nat → va_E} {lim : Int} {R : Nat → List Int32} {ops : List Tr} {ls : List Op} {lsz rc dc : Nat} {rs ds ds2 : List Int32} {g : Nat → Option Nat} (h : DeskB G ad ev lim R ops ls lsz rc dc rs ds g) (hd : RowAt G ad e2 dc ds2 123) (hF : Fr e2 ev (fun k => k = dc ∨ k = dc + 1)) : DeskB G ad e2 lim R ops ls lsz rc dc rs ds2 g := by
  obtain ⟨hb, k0, k1, hg, hr9, h8, h12, hw, hrr, hdd⟩ := h
  exact ⟨hb, (hF _ (by omega)).trans k0, (hF _ (by omega)).trans k1, hg, fun i hi => (hr9 i hi).fr hF (by omega) (by omega), h8.fr hF (by omega) (by omega) (by omega) (by omega), h12.fr hF (by omega) (by omega) (by omega) (by omega), hw.fr hF (fun i q => by omega), hrr.fr hF (by omega) (by omega), hd⟩
theorem trb_chk {xs : List Int32} {a : Nat × List Int32} {t : Tr} (h : chk xs a.1 t ≠ 0) : trb xs a t = chk xs a.1 t := by
  unfold trb
  rw [if_pos h]
theorem trb_room {xs : List Int32} {a : Nat × List Int32} {t : Tr} (h : chk xs a.1 t = 0) : trb xs a t = if 60 < a.2.length + (plN t - a.1) + insN t then 4 else 0 := by
  unfold trb
  rw [if_neg (by omega)]

set_option maxHeartbeats 4000000 in
set_option maxRecDepth 100000 in
theorem TX5_patch (l : Launch) {G : GG} {N : Nat} {ad : Nat → Nat} {ev : Nat → va_E} {lim : Int} {R9 : Nat → List Int32} {ops : List Tr} {ls : List Op} {lsz : Nat} {rs9 : List Int32} {z : Int} (hN : 53 ≤ N) (hD : DeskAt G ad ev lim R9 ops ls lsz rs9) (hza : -2147483648 ≤ z) (hzb : z < 2147483648) (hE : ptE R9 ops z = 0) : Ct l yX5_patch wsX5_patch rmX5_patch [.ref (ad 0), .int (iI z)] G N ad ev 0 0 (fun v e2 => v = some (.int (iI ((pres (R9 z.toNat) ops).length : Int))) ∧ DeskAt G ad e2 lim R9 ops ls lsz (pres (R9 z.toNat) ops) ∧ Fr e2 ev (fun j => j < 53)) := by
  obtain ⟨rc, dc, ds, g, hB⟩ := hD
  obtain ⟨⟨hli1, hli2, hlsz, hsm, hrd⟩, k0, k1, hg, hr9, h8, h12, hwk, hrr, hdd⟩ := id hB
  refine Ct_of (cc := cX5_patch) (maxL := 7) (ret := some .int) (lv := [(0, .ref (ad 0)), (1, .int (iI z))]) (by decide) rfl (Nat.le_of_ble_eq_true rfl) rfl ?_
  intro p E s m args below meth c A C hr hnm
  refine n_iload_n C dX5_patch_0 1 rfl rfl ?_
  refine n_callS (rest := []) C dX5_patch_1 (TX5_isRow l hza hzb) (cwS 1 C.2.2.2.2.1 gX5_patch_X5_isRow rfl rfl rfl cdX5_isRow ⟨Nat.le_of_ble_eq_true rfl, Nat.le_of_ble_eq_true rfl⟩) rfl rfl (Nat.le_of_ble_eq_true rfl) ⟨Nat.le_of_ble_eq_true rfl, Nat.le_of_ble_eq_true rfl⟩ ?_
  rintro _ _ ⟨rfl, rfl⟩
  refine n_pc (pc2 := 4) rfl (n_st (st2 := [.int (bI (isR z))]) rfl ?_)
  refine n_if_neB C dX5_patch_4 (by decide) (tgt := 17) (fun c1 => ?_) (fun c1 => ?_)
  · have c1w := of_decide_eq_true c1
    obtain ⟨j, rfl⟩ : ∃ j : Nat, z = (j : Int) := ⟨z.toNat, by omega⟩
    have hrj := hr9 j (by omega)
    have hlj := hrj.le
    have hlo := h8.le
    have hcv : ptE R9 ops (j : Int) = wr (R9 j) ops 0 := by unfold ptE; rw [c1, Int.toNat_natCast]; rfl
    rw [hcv] at hE
    refine n_aload_n C dX5_patch_17 0 rfl rfl ?_
    refine n_get (k9 := 1) C dX5_patch_18 (by omega) k0 hX5_patch_X5 rfl (by decide) kX5_patch_24 rfl ?_
    refine n_iload_n C dX5_patch_21 1 rfl rfl ?_
    refine n_aald (j := j) (q := ad (2 + 2 * j)) C dX5_patch_22 (by omega) k1 (by omega) (by omega) (by omega) (hg j (by omega)) ?_
    refine n_astore_n (lv' := [(0, .ref (ad 0)), (1, .int (iI (j : Int))), (2, .ref (ad (2 + 2 * j)))]) C dX5_patch_23 rfl (by decide) rfl ?_
    refine n_aload_n C dX5_patch_24 0 rfl rfl ?_
    refine n_get (k9 := 8) C dX5_patch_25 (by omega) k0 hX5_patch_X5 rfl (by decide) kX5_patch_62 rfl ?_
    refine n_callV (rest := []) C dX5_patch_28 (TX2_empty l (i := dc) (by omega) hdd) (cwV 0 C.2.2.2.2.1 gX5_patch_X2_empty rfl rfl rfl cdX2_empty ⟨Nat.le_of_ble_eq_true rfl, Nat.le_of_ble_eq_true rfl⟩) (by omega) hdd.obj rfl rfl rfl (Nat.le_of_ble_eq_true rfl) ⟨Nat.le_of_ble_eq_true rfl, Nat.le_of_ble_eq_true rfl⟩ ?_
    rintro _ ea ⟨rfl, ha1, hFa⟩
    refine n_pc (pc2 := 31) rfl (n_st (st2 := []) rfl ?_)
    refine n_iconst C dX5_patch_31 ?_
    refine n_istore_n (lv' := [(0, .ref (ad 0)), (1, .int (iI (j : Int))), (2, .ref (ad (2 + 2 * j))), (3, .int (iI 0))]) C dX5_patch_32 rfl (by decide) rfl ?_
    refine n_iconst C dX5_patch_33 ?_
    refine n_istore (lv' := [(0, .ref (ad 0)), (1, .int (iI (j : Int))), (2, .ref (ad (2 + 2 * j))), (3, .int (iI 0)), (4, .int (iI 0))]) C dX5_patch_34 (by decide) rfl ?_
    have loop : ∀ (n9 : Nat) (k : Nat) (ex : Nat → va_E), ops.length + 1 - k < n9 → (k ≤ ops.length) → (wr (R9 j) ops 0 = wr (R9 j) ops k) → ((pst (R9 j) ops k).1 ≤ (R9 j).length) → ((pst (R9 j) ops k).2.length ≤ 60) → (0 < k → bhR ops ((k : Int) - 1) = iI ((pst (R9 j) ops k).1 : Int)) → (RowAt G ad ex dc (pst (R9 j) ops k).2 123) → (Fr ex ev (fun i => i = dc ∨ i = dc + 1)) → V p l E rmX5_patch s m args below meth c G A 7 (MQ below (Qg G N ad A (fun v e2 => v = some (.int (iI ((pres (R9 (j : Int).toNat) ops).length : Int))) ∧ DeskAt G ad e2 lim R9 ops ls lsz (pres (R9 (j : Int).toNat) ops) ∧ Fr e2 ev (fun j => j < 53))) args s 0 0 A) N ad ex 0 0 36 [(0, .ref (ad 0)), (1, .int (iI (j : Int))), (2, .ref (ad (2 + 2 * j))), (3, .int (iI ((pst (R9 j) ops k).1 : Int))), (4, .int (iI (k : Int)))] [] := by
      intro n9
      induction n9 with
      | zero =>
        intro k ex hm9
        exact absurd hm9 (Nat.not_lt_zero _)
      | succ n9 ih =>
        intro k ex hm9 hk hwk9 hp1 hp2 htk hd9 hFx
        have hBx := hB.dft hd9 hFx
        obtain ⟨-, k0, k1, -, hr9, h8, h12, hwk, hrr, hdd⟩ := id hBx
        have hrj := hr9 j (by omega)
        obtain ⟨fk, fp, fs, g0, g1, g2, g3, hf, hlc⟩ := id h8
        refine n_iload C dX5_patch_36 4 rfl ?_
        refine n_aload_n C dX5_patch_38 0 rfl rfl ?_
        refine n_get (k9 := 2) C dX5_patch_39 (by omega) k0 hX5_patch_X5 rfl (by decide) kX5_patch_34 rfl ?_
        refine n_getN (k9 := 3) C dX5_patch_42 (by omega) h8.obj hX5_patch_X3 rfl (by decide) kn_X5_108 rfl ?_
        refine n_icmp_ge C dX5_patch_45 (by decide) (by omega) (by omega) (by omega) (by omega) (tgt := 157) (fun c2 => ?_) (fun c2 => ?_)
        · have hke : k = ops.length := by omega
          subst hke
          rw [hwk9, wr_end (Nat.le_refl _)] at hE
          refine n_aload_n C dX5_patch_157 0 rfl rfl ?_
          refine n_aload_n C dX5_patch_158 2 rfl rfl ?_
          refine n_getN (k9 := 1) C dX5_patch_159 (by omega) hrj.obj hX5_patch_X2 rfl (by decide) kn_X5_78 rfl ?_
          refine n_iload_n C dX5_patch_162 3 rfl rfl ?_
          refine n_isub C dX5_patch_163 ?_
          have hroom : (pst (R9 j) ops ops.length).2.length + ((R9 j).length - (pst (R9 j) ops ops.length).1) ≤ 60 := by
            by_cases h9 : 60 < (pst (R9 j) ops ops.length).2.length + ((R9 j).length - (pst (R9 j) ops ops.length).1)
            · rw [if_pos h9] at hE; omega
            · omega
          refine n_callV (rest := []) C dX5_patch_164 (TX5_checkRoom l hN k0 (by omega) hdd (by omega) (by omega) (by omega)) (cwV 1 C.2.2.2.2.1 gX5_patch_X5_checkRoom rfl rfl rfl cdX5_checkRoom ⟨Nat.le_of_ble_eq_true rfl, Nat.le_of_ble_eq_true rfl⟩) (by omega) k0 rfl rfl rfl (Nat.le_of_ble_eq_true rfl) ⟨Nat.le_of_ble_eq_true rfl, Nat.le_of_ble_eq_true rfl⟩ ?_
          rintro _ _ ⟨rfl, rfl⟩
          refine n_pc (pc2 := 167) rfl (n_st (st2 := []) rfl ?_)
          refine n_aload_n C dX5_patch_167 0 rfl rfl ?_
          refine n_get (k9 := 8) C dX5_patch_168 (by omega) k0 hX5_patch_X5 rfl (by decide) kX5_patch_62 rfl ?_
          refine n_aload_n C dX5_patch_171 2 rfl rfl ?_
          refine n_iload_n C dX5_patch_172 3 rfl rfl ?_
          refine n_aload_n C dX5_patch_173 2 rfl rfl ?_
          refine n_getN (k9 := 1) C dX5_patch_174 (by omega) hrj.obj hX5_patch_X2 rfl (by decide) kn_X5_78 rfl ?_
          refine n_callV (rest := []) C dX5_patch_177 (TX2_addAll l (i := dc) (by omega) hdd (q := 2 + 2 * j) (by omega) hrj (by omega) (by omega) (by omega) (Nat.le_refl _) (by omega) (by omega)) (cwV 3 C.2.2.2.2.1 gX5_patch_X2_addAll rfl rfl rfl cdX2_addAll ⟨Nat.le_of_ble_eq_true rfl, Nat.le_of_ble_eq_true rfl⟩) (by omega) hdd.obj rfl rfl rfl (Nat.le_of_ble_eq_true rfl) ⟨Nat.le_of_ble_eq_true rfl, Nat.le_of_ble_eq_true rfl⟩ ?_
          rintro _ e2 ⟨rfl, hd2, hF2⟩
          refine n_pc (pc2 := 180) rfl (n_st (st2 := []) rfl ?_)
          have hB2 := hBx.dft hd2 hF2
          obtain ⟨-, k0, k1, -, hr9, h8, h12, hwk, hrr, hdd⟩ := id hB2
          refine n_aload_n C dX5_patch_180 0 rfl rfl ?_
          refine n_callV (rest := []) C dX5_patch_181 (TX5_swapResultAndDraft l hN k0) (cwV 0 C.2.2.2.2.1 gX5_patch_X5_swapResultAndDraft rfl rfl rfl cdX5_swapResultAndDraft ⟨Nat.le_of_ble_eq_true rfl, Nat.le_of_ble_eq_true rfl⟩) (by omega) k0 rfl rfl rfl (Nat.le_of_ble_eq_true rfl) ⟨Nat.le_of_ble_eq_true rfl, Nat.le_of_ble_eq_true rfl⟩ ?_
          rintro _ e3 ⟨rfl, k0, hF3⟩
          refine n_pc (pc2 := 184) rfl (n_st (st2 := []) rfl ?_)
          have hrr := hrr.fr hF3 (by omega) (by omega)
          have hdd := hdd.fr hF3 (by omega) (by omega)
          have k1 := (hF3 _ (by omega)).trans k1
          have h8 := h8.fr hF3 (by omega) (by omega) (by omega) (by omega)
          have h12 := h12.fr hF3 (by omega) (by omega) (by omega) (by omega)
          refine n_aload_n C dX5_patch_184 0 rfl rfl ?_
          refine n_get (k9 := 7) C dX5_patch_185 (by omega) k0 hX5_patch_X5 rfl (by decide) kX5_patch_58 rfl ?_
          refine n_getN (k9 := 1) C dX5_patch_188 (by omega) hdd.obj hX5_patch_X2 rfl (by decide) kn_X5_78 rfl ?_
          exact n_iret C hr dX5_patch_191 (by
            rw [Int.toNat_natCast]
            exact ⟨rfl, ⟨dc, rc, _, g, ⟨hli1, hli2, hlsz, hsm, by omega⟩, k0, k1, hg, fun i hi => (hr9 i hi).fr hF3 (by omega) (by omega), h8, h12, hwk.fr hF3 (fun i q => by omega), hdd, hrr⟩, fun i hi => (hF3 i (by omega)).trans ((hF2 i (by omega)).trans (hFx i (by omega)))⟩)
        · have ht := hf k (by omega)
          have htk0 : k = 0 → (pst (R9 j) ops k).1 = 0 := fun h => by subst h; rfl
          refine n_aload_n C dX5_patch_48 0 rfl rfl ?_
          refine n_aload_n C dX5_patch_49 2 rfl rfl ?_
          refine n_iload C dX5_patch_50 4 rfl ?_
          have htr : trb (R9 j) (pst (R9 j) ops k) (fk k, fp k, fs k) = 0 := by
            by_cases h9 : trb (R9 j) (pst (R9 j) ops k) (fk k, fp k, fs k) = 0
            · exact h9
            · exact absurd (hE.symm.trans (hwk9.trans (wr_bad ht h9))) (fun q => h9 q.symm)
          obtain ⟨hck, hrm9⟩ := trb_0 htr
          obtain ⟨hkd, hSy, hpl, hge, hle, hdl⟩ := chk_0 hck
          dsimp only at hkd hSy hpl hdl
          refine n_callV (rest := []) C dX5_patch_52 (TX5_checkOperation l hN hBx.cmp2 (by omega) ht htk htk0 (by omega) hck) (cwV 2 C.2.2.2.2.1 gX5_patch_X5_checkOperation rfl rfl rfl cdX5_checkOperation ⟨Nat.le_of_ble_eq_true rfl, Nat.le_of_ble_eq_true rfl⟩) (by omega) k0 rfl rfl rfl (Nat.le_of_ble_eq_true rfl) ⟨Nat.le_of_ble_eq_true rfl, Nat.le_of_ble_eq_true rfl⟩ ?_
          rintro _ _ ⟨rfl, rfl⟩
          refine n_pc (pc2 := 55) rfl (n_st (st2 := []) rfl ?_)
          refine n_aload_n C dX5_patch_55 0 rfl rfl ?_
          refine n_get (k9 := 2) C dX5_patch_56 (by omega) k0 hX5_patch_X5 rfl (by decide) kX5_patch_34 rfl ?_
          refine n_getN (k9 := 1) C dX5_patch_59 (by omega) h8.obj hX5_patch_X3 rfl (by decide) kn_X5_116 rfl ?_
          refine n_iload C dX5_patch_62 4 rfl ?_
          refine n_iald (j := k) C dX5_patch_64 (by omega) g2 (by omega) (by omega) (by omega) ?_
          refine n_topI (y := (iI (plN (fk k, fp k, fs k) : Int))) (hpl) ?_
          refine n_istore (lv' := [(0, .ref (ad 0)), (1, .int (iI (j : Int))), (2, .ref (ad (2 + 2 * j))), (3, .int (iI ((pst (R9 j) ops k).1 : Int))), (4, .int (iI (k : Int))), (5, .int (iI (plN (fk k, fp k, fs k) : Int)))]) C dX5_patch_65 (by decide) rfl ?_
          refine n_aload_n C dX5_patch_67 0 rfl rfl ?_
          refine n_get (k9 := 2) C dX5_patch_68 (by omega) k0 hX5_patch_X5 rfl (by decide) kX5_patch_34 rfl ?_
          refine n_getN (k9 := 0) C dX5_patch_71 (by omega) h8.obj hX5_patch_X3 rfl (by decide) kn_X5_112 rfl ?_
          refine n_iload C dX5_patch_74 4 rfl ?_
          refine n_iald (j := k) C dX5_patch_76 (by omega) g1 (by omega) (by omega) (by omega) ?_
          refine n_iconst C dX5_patch_77 ?_
          refine n_icmp_neR C dX5_patch_78 (by decide) (tgt := 85) (fun c3 => ?_) (fun c3 => ?_)
          · have c4 : fk k = iI 0 := hkd.resolve_right c3
            have hin : insN (fk k, fp k, fs k) = 0 := insN_0 c4
            refine n_iconst C dX5_patch_85 ?_
            refine n_istore (lv' := [(0, .ref (ad 0)), (1, .int (iI (j : Int))), (2, .ref (ad (2 + 2 * j))), (3, .int (iI ((pst (R9 j) ops k).1 : Int))), (4, .int (iI (k : Int))), (5, .int (iI (plN (fk k, fp k, fs k) : Int))), (6, .int (iI 0))]) C dX5_patch_86 (by decide) rfl ?_
            refine n_aload_n C dX5_patch_88 0 rfl rfl ?_
            refine n_iload C dX5_patch_89 5 rfl ?_
            refine n_iload_n C dX5_patch_91 3 rfl rfl ?_
            refine n_isub C dX5_patch_92 ?_
            refine n_iload C dX5_patch_93 6 rfl ?_
            refine n_if_eq C dX5_patch_95 (by decide) (by omega) (by omega) (tgt := 102) (fun _ => ?_) (fun c9 => absurd c9 (by omega))
            refine n_iconst C dX5_patch_102 ?_
            refine n_iadd C dX5_patch_103 ?_
            refine n_callV (rest := []) C dX5_patch_104 (TX5_checkRoom l hN k0 (by omega) hdd (by omega) (by omega) (by omega)) (cwV 1 C.2.2.2.2.1 gX5_patch_X5_checkRoom rfl rfl rfl cdX5_checkRoom ⟨Nat.le_of_ble_eq_true rfl, Nat.le_of_ble_eq_true rfl⟩) (by omega) k0 rfl rfl rfl (Nat.le_of_ble_eq_true rfl) ⟨Nat.le_of_ble_eq_true rfl, Nat.le_of_ble_eq_true rfl⟩ ?_
            rintro _ _ ⟨rfl, rfl⟩
            refine n_pc (pc2 := 107) rfl (n_st (st2 := []) rfl ?_)
            have hsl : (sl (R9 j) (pst (R9 j) ops k).1 (plN (fk k, fp k, fs k))).length = plN (fk k, fp k, fs k) - (pst (R9 j) ops k).1 := sl_len (by omega)
            refine n_aload_n C dX5_patch_107 0 rfl rfl ?_
            refine n_get (k9 := 8) C dX5_patch_108 (by omega) k0 hX5_patch_X5 rfl (by decide) kX5_patch_62 rfl ?_
            refine n_aload_n C dX5_patch_111 2 rfl rfl ?_
            refine n_iload_n C dX5_patch_112 3 rfl rfl ?_
            refine n_iload C dX5_patch_113 5 rfl ?_
            refine n_callV (rest := []) C dX5_patch_115 (TX2_addAll l (i := dc) (by omega) hdd (q := 2 + 2 * j) (by omega) hrj (by omega) (by omega) (by omega) (by omega) (by omega) (by omega)) (cwV 3 C.2.2.2.2.1 gX5_patch_X2_addAll rfl rfl rfl cdX2_addAll ⟨Nat.le_of_ble_eq_true rfl, Nat.le_of_ble_eq_true rfl⟩) (by omega) hdd.obj rfl rfl rfl (Nat.le_of_ble_eq_true rfl) ⟨Nat.le_of_ble_eq_true rfl, Nat.le_of_ble_eq_true rfl⟩ ?_
            rintro _ e2 ⟨rfl, hd2, hF2⟩
            refine n_pc (pc2 := 118) rfl (n_st (st2 := []) rfl ?_)
            have hB2 := hBx.dft hd2 hF2
            obtain ⟨-, k0, k1, -, hr9, h8, h12, hwk, hrr, hdd⟩ := id hB2
            have g3 := (hF2 11 (by omega)).trans g3
            have hFy := hF2.tr hFx
            refine n_aload_n C dX5_patch_118 0 rfl rfl ?_
            refine n_get (k9 := 2) C dX5_patch_119 (by omega) k0 hX5_patch_X5 rfl (by decide) kX5_patch_34 rfl ?_
            refine n_iload C dX5_patch_122 4 rfl ?_
            refine n_callV (rest := []) C dX5_patch_124 (TX3_behind l (i := 8) (by omega) h8 (by omega) (by omega)) (cwV 1 C.2.2.2.2.1 gX5_patch_X3_behind rfl rfl rfl cdX3_behind ⟨Nat.le_of_ble_eq_true rfl, Nat.le_of_ble_eq_true rfl⟩) (by omega) h8.obj rfl rfl rfl (Nat.le_of_ble_eq_true rfl) ⟨Nat.le_of_ble_eq_true rfl, Nat.le_of_ble_eq_true rfl⟩ ?_
            rintro _ _ ⟨rfl, rfl⟩
            refine n_pc (pc2 := 127) rfl (n_st (st2 := [.int (bhR ops (k : Int))]) rfl ?_)
            have hbh : bhR ops (k : Int) = iI ((pst (R9 j) ops (k + 1)).1 : Int) := by
              rw [bhR_in (by omega) ht, pst_s ht]
              dsimp only
              rw [if_pos c4, pstep_0 c4]
              have h5 : fp k + iI 1 = iI (plN (fk k, fp k, fs k) : Int) + iI 1 := congrArg (· + iI 1) hpl
              exact h5.trans (iI_add _ _)
            refine n_topI (y := (iI ((pst (R9 j) ops (k + 1)).1 : Int))) (hbh) ?_
            refine n_istore_n (lv' := [(0, .ref (ad 0)), (1, .int (iI (j : Int))), (2, .ref (ad (2 + 2 * j))), (3, .int (iI ((pst (R9 j) ops (k + 1)).1 : Int))), (4, .int (iI (k : Int))), (5, .int (iI (plN (fk k, fp k, fs k) : Int))), (6, .int (iI 0))]) C dX5_patch_127 rfl (by decide) rfl ?_
            refine n_iload C dX5_patch_128 6 rfl ?_
            refine n_if_eq C dX5_patch_130 (by decide) (by omega) (by omega) (tgt := 151) (fun _ => ?_) (fun c9 => absurd c9 (by omega))
            refine n_iinc (lv' := [(0, .ref (ad 0)), (1, .int (iI (j : Int))), (2, .ref (ad (2 + 2 * j))), (3, .int (iI ((pst (R9 j) ops (k + 1)).1 : Int))), (4, .int (iI ((k : Int) + 1))), (5, .int (iI (plN (fk k, fp k, fs k) : Int))), (6, .int (iI 0))]) C dX5_patch_151 4 rfl (by decide) rfl ?_
            refine n_goto (tgt := 36) C dX5_patch_154 (by decide) ?_
            have hst : (pst (R9 j) ops (k + 1)).2 = (pst (R9 j) ops k).2 ++ sl (R9 j) (pst (R9 j) ops k).1 (plN (fk k, fp k, fs k)) := by rw [pst_s ht, pstep_0 c4]
            have hok9 := pstep_ok hck
            rw [← pst_s ht] at hok9
            refine n_sub (lv2 := [(0, .ref (ad 0)), (1, .int (iI (j : Int))), (2, .ref (ad (2 + 2 * j))), (3, .int (iI ((pst (R9 j) ops (k + 1)).1 : Int))), (4, .int (iI ((k : Int) + 1)))]) [0, 1, 2, 3, 4] rfl ?_
            refine n_lv (lv2 := [(0, .ref (ad 0)), (1, .int (iI (j : Int))), (2, .ref (ad (2 + 2 * j))), (3, .int (iI ((pst (R9 j) ops (k + 1)).1 : Int))), (4, .int (iI ((k + 1 : Nat) : Int)))]) (by simp) ?_
            exact ih (k + 1) e2 (by omega) (by omega) (hwk9.trans (wr_ok ht htr)) hok9.1 (by omega) (fun _ => by rw [show ((k + 1 : Nat) : Int) - 1 = (k : Int) by omega]; exact hbh) (by rw [hst]; exact hd2) hFy
          · have hin : insN (fk k, fp k, fs k) = 1 := insN_1 c3
            refine n_iconst C dX5_patch_81 ?_
            refine n_goto (tgt := 86) C dX5_patch_82 (by decide) ?_
            refine n_istore (lv' := [(0, .ref (ad 0)), (1, .int (iI (j : Int))), (2, .ref (ad (2 + 2 * j))), (3, .int (iI ((pst (R9 j) ops k).1 : Int))), (4, .int (iI (k : Int))), (5, .int (iI (plN (fk k, fp k, fs k) : Int))), (6, .int (iI 1))]) C dX5_patch_86 (by decide) rfl ?_
            refine n_aload_n C dX5_patch_88 0 rfl rfl ?_
            refine n_iload C dX5_patch_89 5 rfl ?_
            refine n_iload_n C dX5_patch_91 3 rfl rfl ?_
            refine n_isub C dX5_patch_92 ?_
            refine n_iload C dX5_patch_93 6 rfl ?_
            refine n_if_eq C dX5_patch_95 (by decide) (by omega) (by omega) (tgt := 102) (fun c9 => absurd c9 (by omega)) (fun _ => ?_)
            refine n_iconst C dX5_patch_98 ?_
            refine n_goto (tgt := 103) C dX5_patch_99 (by decide) ?_
            refine n_iadd C dX5_patch_103 ?_
            refine n_callV (rest := []) C dX5_patch_104 (TX5_checkRoom l hN k0 (by omega) hdd (by omega) (by omega) (by omega)) (cwV 1 C.2.2.2.2.1 gX5_patch_X5_checkRoom rfl rfl rfl cdX5_checkRoom ⟨Nat.le_of_ble_eq_true rfl, Nat.le_of_ble_eq_true rfl⟩) (by omega) k0 rfl rfl rfl (Nat.le_of_ble_eq_true rfl) ⟨Nat.le_of_ble_eq_true rfl, Nat.le_of_ble_eq_true rfl⟩ ?_
            rintro _ _ ⟨rfl, rfl⟩
            refine n_pc (pc2 := 107) rfl (n_st (st2 := []) rfl ?_)
            have hsl : (sl (R9 j) (pst (R9 j) ops k).1 (plN (fk k, fp k, fs k))).length = plN (fk k, fp k, fs k) - (pst (R9 j) ops k).1 := sl_len (by omega)
            refine n_aload_n C dX5_patch_107 0 rfl rfl ?_
            refine n_get (k9 := 8) C dX5_patch_108 (by omega) k0 hX5_patch_X5 rfl (by decide) kX5_patch_62 rfl ?_
            refine n_aload_n C dX5_patch_111 2 rfl rfl ?_
            refine n_iload_n C dX5_patch_112 3 rfl rfl ?_
            refine n_iload C dX5_patch_113 5 rfl ?_
            refine n_callV (rest := []) C dX5_patch_115 (TX2_addAll l (i := dc) (by omega) hdd (q := 2 + 2 * j) (by omega) hrj (by omega) (by omega) (by omega) (by omega) (by omega) (by omega)) (cwV 3 C.2.2.2.2.1 gX5_patch_X2_addAll rfl rfl rfl cdX2_addAll ⟨Nat.le_of_ble_eq_true rfl, Nat.le_of_ble_eq_true rfl⟩) (by omega) hdd.obj rfl rfl rfl (Nat.le_of_ble_eq_true rfl) ⟨Nat.le_of_ble_eq_true rfl, Nat.le_of_ble_eq_true rfl⟩ ?_
            rintro _ e2 ⟨rfl, hd2, hF2⟩
            refine n_pc (pc2 := 118) rfl (n_st (st2 := []) rfl ?_)
            have hB2 := hBx.dft hd2 hF2
            obtain ⟨-, k0, k1, -, hr9, h8, h12, hwk, hrr, hdd⟩ := id hB2
            have g3 := (hF2 11 (by omega)).trans g3
            have hFy := hF2.tr hFx
            refine n_aload_n C dX5_patch_118 0 rfl rfl ?_
            refine n_get (k9 := 2) C dX5_patch_119 (by omega) k0 hX5_patch_X5 rfl (by decide) kX5_patch_34 rfl ?_
            refine n_iload C dX5_patch_122 4 rfl ?_
            refine n_callV (rest := []) C dX5_patch_124 (TX3_behind l (i := 8) (by omega) h8 (by omega) (by omega)) (cwV 1 C.2.2.2.2.1 gX5_patch_X3_behind rfl rfl rfl cdX3_behind ⟨Nat.le_of_ble_eq_true rfl, Nat.le_of_ble_eq_true rfl⟩) (by omega) h8.obj rfl rfl rfl (Nat.le_of_ble_eq_true rfl) ⟨Nat.le_of_ble_eq_true rfl, Nat.le_of_ble_eq_true rfl⟩ ?_
            rintro _ _ ⟨rfl, rfl⟩
            refine n_pc (pc2 := 127) rfl (n_st (st2 := [.int (bhR ops (k : Int))]) rfl ?_)
            have hbh : bhR ops (k : Int) = iI ((pst (R9 j) ops (k + 1)).1 : Int) := by
              rw [bhR_in (by omega) ht, pst_s ht]
              dsimp only
              rw [if_neg (fun q => iI_ne (show (0 : Int) ≠ 1 by decide) (by decide) (by decide) (by decide) (by decide) (q.symm.trans c3)), pstep_1 c3]
              exact hpl
            refine n_topI (y := (iI ((pst (R9 j) ops (k + 1)).1 : Int))) (hbh) ?_
            refine n_istore_n (lv' := [(0, .ref (ad 0)), (1, .int (iI (j : Int))), (2, .ref (ad (2 + 2 * j))), (3, .int (iI ((pst (R9 j) ops (k + 1)).1 : Int))), (4, .int (iI (k : Int))), (5, .int (iI (plN (fk k, fp k, fs k) : Int))), (6, .int (iI 1))]) C dX5_patch_127 rfl (by decide) rfl ?_
            refine n_iload C dX5_patch_128 6 rfl ?_
            refine n_if_eq C dX5_patch_130 (by decide) (by omega) (by omega) (tgt := 151) (fun c9 => absurd c9 (by omega)) (fun _ => ?_)
            refine n_aload_n C dX5_patch_133 0 rfl rfl ?_
            refine n_get (k9 := 8) C dX5_patch_134 (by omega) k0 hX5_patch_X5 rfl (by decide) kX5_patch_62 rfl ?_
            refine n_aload_n C dX5_patch_137 0 rfl rfl ?_
            refine n_get (k9 := 2) C dX5_patch_138 (by omega) k0 hX5_patch_X5 rfl (by decide) kX5_patch_34 rfl ?_
            refine n_getN (k9 := 2) C dX5_patch_141 (by omega) h8.obj hX5_patch_X3 rfl (by decide) kn_X5_119 rfl ?_
            refine n_iload C dX5_patch_144 4 rfl ?_
            refine n_iald (j := k) C dX5_patch_146 (by omega) g3 (by omega) (by omega) (by omega) ?_
            refine n_callV (rest := []) C dX5_patch_147 (TX2_add l (i := dc) (by omega) hdd (x := fs k)) (cwV 1 C.2.2.2.2.1 gX5_patch_X2_add rfl rfl rfl cdX2_add ⟨Nat.le_of_ble_eq_true rfl, Nat.le_of_ble_eq_true rfl⟩) (by omega) hdd.obj rfl rfl rfl (Nat.le_of_ble_eq_true rfl) ⟨Nat.le_of_ble_eq_true rfl, Nat.le_of_ble_eq_true rfl⟩ ?_
            rintro _ e3 ⟨rfl, hd3, hF3⟩
            refine n_pc (pc2 := 150) rfl (n_st (st2 := [.int (bI (decide (((pst (R9 j) ops k).2 ++ sl (R9 j) (pst (R9 j) ops k).1 (plN (fk k, fp k, fs k))).length < 123)))]) rfl ?_)
            rw [if_pos (by rw [List.length_append]; omega)] at hd3
            have hFy := hF3.tr hFy
            refine n_pop C dX5_patch_150 rfl ?_
            refine n_iinc (lv' := [(0, .ref (ad 0)), (1, .int (iI (j : Int))), (2, .ref (ad (2 + 2 * j))), (3, .int (iI ((pst (R9 j) ops (k + 1)).1 : Int))), (4, .int (iI ((k : Int) + 1))), (5, .int (iI (plN (fk k, fp k, fs k) : Int))), (6, .int (iI 1))]) C dX5_patch_151 4 rfl (by decide) rfl ?_
            refine n_goto (tgt := 36) C dX5_patch_154 (by decide) ?_
            have hst : (pst (R9 j) ops (k + 1)).2 = (pst (R9 j) ops k).2 ++ sl (R9 j) (pst (R9 j) ops k).1 (plN (fk k, fp k, fs k)) ++ [fs k] := by rw [pst_s ht, pstep_1 c3]
            have hok9 := pstep_ok hck
            rw [← pst_s ht] at hok9
            refine n_sub (lv2 := [(0, .ref (ad 0)), (1, .int (iI (j : Int))), (2, .ref (ad (2 + 2 * j))), (3, .int (iI ((pst (R9 j) ops (k + 1)).1 : Int))), (4, .int (iI ((k : Int) + 1)))]) [0, 1, 2, 3, 4] rfl ?_
            refine n_lv (lv2 := [(0, .ref (ad 0)), (1, .int (iI (j : Int))), (2, .ref (ad (2 + 2 * j))), (3, .int (iI ((pst (R9 j) ops (k + 1)).1 : Int))), (4, .int (iI ((k + 1 : Nat) : Int)))]) (by simp) ?_
            exact ih (k + 1) e3 (by omega) (by omega) (hwk9.trans (wr_ok ht htr)) hok9.1 (by omega) (fun _ => by rw [show ((k + 1 : Nat) : Int) - 1 = (k : Int) by omega]; exact hbh) (by rw [hst]; exact hd3) hFy
    refine n_lv (lv2 := [(0, .ref (ad 0)), (1, .int (iI (j : Int))), (2, .ref (ad (2 + 2 * j))), (3, .int (iI ((pst (R9 j) ops 0).1 : Int))), (4, .int (iI ((0 : Nat) : Int)))]) rfl ?_
    exact loop _ 0 ea (Nat.lt_succ_self _) (Nat.zero_le _) rfl (Nat.zero_le _) (Nat.zero_le _) (fun h => absurd h (by omega)) ha1 hFa
  · exact absurd hE (by unfold ptE; rw [c1]; simp)

set_option maxHeartbeats 4000000 in
set_option maxRecDepth 100000 in
theorem ZX5_patch (l : Launch) (hlt : l.stackTraces = false) {G : GG} {N : Nat} {ad : Nat → Nat} {ev : Nat → va_E} {lim : Int} {R9 : Nat → List Int32} {ops : List Tr} {ls : List Op} {lsz : Nat} {rs9 : List Int32} {z : Int} (hN : 53 ≤ N) (hD : DeskAt G ad ev lim R9 ops ls lsz rs9) (hza : -2147483648 ≤ z) (hzb : z < 2147483648) (hE : ptE R9 ops z ≠ 0) : Cz l yX5_patch wsX5_patch rzX5_patch [.ref (ad 0), .int (iI z)] G N ad ev 1 6 (fun X e2 => X = exN (ptE R9 ops z) ∧ DeskAt G ad e2 lim R9 ops ls lsz rs9 ∧ Fr e2 ev (fun j => j < 53)) := by
  obtain ⟨rc, dc, ds, g, hB⟩ := hD
  obtain ⟨⟨hli1, hli2, hlsz, hsm, hrd⟩, k0, k1, hg, hr9, h8, h12, hwk, hrr, hdd⟩ := id hB
  refine Cz_of (cc := cX5_patch) (maxL := 7) (ret := some .int) (lv := [(0, .ref (ad 0)), (1, .int (iI z))]) (by decide) rfl (Nat.le_of_ble_eq_true rfl) rfl ?_
  intro p E s m args below meth c A C hr hX hnt
  refine n_iload_n C dX5_patch_0 1 rfl rfl ?_
  refine n_callS (rest := []) C dX5_patch_1 (TX5_isRow l hza hzb) (cwS 1 C.2.2.2.2.1 gX5_patch_X5_isRow rfl rfl rfl cdX5_isRow ⟨Nat.le_of_ble_eq_true rfl, Nat.le_of_ble_eq_true rfl⟩) rfl rfl (Nat.le_of_ble_eq_true rfl) ⟨Nat.le_of_ble_eq_true rfl, Nat.le_of_ble_eq_true rfl⟩ ?_
  rintro _ _ ⟨rfl, rfl⟩
  refine n_pc (pc2 := 4) rfl (n_st (st2 := [.int (bI (isR z))]) rfl ?_)
  refine n_if_neB C dX5_patch_4 (by decide) (tgt := 17) (fun c1 => ?_) (fun c1 => ?_)
  · have c1w := of_decide_eq_true c1
    obtain ⟨j, rfl⟩ : ∃ j : Nat, z = (j : Int) := ⟨z.toNat, by omega⟩
    have hrj := hr9 j (by omega)
    have hlj := hrj.le
    have hlo := h8.le
    have hcv : ptE R9 ops (j : Int) = wr (R9 j) ops 0 := by unfold ptE; rw [c1, Int.toNat_natCast]; rfl
    rw [hcv] at hE
    refine n_aload_n C dX5_patch_17 0 rfl rfl ?_
    refine n_get (k9 := 1) C dX5_patch_18 (by omega) k0 hX5_patch_X5 rfl (by decide) kX5_patch_24 rfl ?_
    refine n_iload_n C dX5_patch_21 1 rfl rfl ?_
    refine n_aald (j := j) (q := ad (2 + 2 * j)) C dX5_patch_22 (by omega) k1 (by omega) (by omega) (by omega) (hg j (by omega)) ?_
    refine n_astore_n (lv' := [(0, .ref (ad 0)), (1, .int (iI (j : Int))), (2, .ref (ad (2 + 2 * j)))]) C dX5_patch_23 rfl (by decide) rfl ?_
    refine n_aload_n C dX5_patch_24 0 rfl rfl ?_
    refine n_get (k9 := 8) C dX5_patch_25 (by omega) k0 hX5_patch_X5 rfl (by decide) kX5_patch_62 rfl ?_
    refine n_callV (rest := []) C dX5_patch_28 (TX2_empty l (i := dc) (by omega) hdd) (cwV 0 C.2.2.2.2.1 gX5_patch_X2_empty rfl rfl rfl cdX2_empty ⟨Nat.le_of_ble_eq_true rfl, Nat.le_of_ble_eq_true rfl⟩) (by omega) hdd.obj rfl rfl rfl (Nat.le_of_ble_eq_true rfl) ⟨Nat.le_of_ble_eq_true rfl, Nat.le_of_ble_eq_true rfl⟩ ?_
    rintro _ ea ⟨rfl, ha1, hFa⟩
    refine n_pc (pc2 := 31) rfl (n_st (st2 := []) rfl ?_)
    refine n_iconst C dX5_patch_31 ?_
    refine n_istore_n (lv' := [(0, .ref (ad 0)), (1, .int (iI (j : Int))), (2, .ref (ad (2 + 2 * j))), (3, .int (iI 0))]) C dX5_patch_32 rfl (by decide) rfl ?_
    refine n_iconst C dX5_patch_33 ?_
    refine n_istore (lv' := [(0, .ref (ad 0)), (1, .int (iI (j : Int))), (2, .ref (ad (2 + 2 * j))), (3, .int (iI 0)), (4, .int (iI 0))]) C dX5_patch_34 (by decide) rfl ?_
    have loop : ∀ (n9 : Nat) (k : Nat) (ex : Nat → va_E), ops.length + 1 - k < n9 → (k ≤ ops.length) → (wr (R9 j) ops 0 = wr (R9 j) ops k) → ((pst (R9 j) ops k).1 ≤ (R9 j).length) → ((pst (R9 j) ops k).2.length ≤ 60) → (0 < k → bhR ops ((k : Int) - 1) = iI ((pst (R9 j) ops k).1 : Int)) → (RowAt G ad ex dc (pst (R9 j) ops k).2 123) → (Fr ex ev (fun i => i = dc ∨ i = dc + 1)) → V p l E rzX5_patch s m args below meth c G A 7 (vx_MQ below (fun _ _ _ _ => False) (Xg G N ad A (fun X e2 => X = exN (ptE R9 ops (j : Int)) ∧ DeskAt G ad e2 lim R9 ops ls lsz rs9 ∧ Fr e2 ev (fun j => j < 53))) args s 1 6 A) N ad ex 0 0 36 [(0, .ref (ad 0)), (1, .int (iI (j : Int))), (2, .ref (ad (2 + 2 * j))), (3, .int (iI ((pst (R9 j) ops k).1 : Int))), (4, .int (iI (k : Int)))] [] := by
      intro n9
      induction n9 with
      | zero =>
        intro k ex hm9
        exact absurd hm9 (Nat.not_lt_zero _)
      | succ n9 ih =>
        intro k ex hm9 hk hwk9 hp1 hp2 htk hd9 hFx
        have hBx := hB.dft hd9 hFx
        obtain ⟨-, k0, k1, -, hr9, h8, h12, hwk, hrr, hdd⟩ := id hBx
        have hrj := hr9 j (by omega)
        obtain ⟨fk, fp, fs, g0, g1, g2, g3, hf, hlc⟩ := id h8
        refine n_iload C dX5_patch_36 4 rfl ?_
        refine n_aload_n C dX5_patch_38 0 rfl rfl ?_
        refine n_get (k9 := 2) C dX5_patch_39 (by omega) k0 hX5_patch_X5 rfl (by decide) kX5_patch_34 rfl ?_
        refine n_getN (k9 := 3) C dX5_patch_42 (by omega) h8.obj hX5_patch_X3 rfl (by decide) kn_X5_108 rfl ?_
        refine n_icmp_ge C dX5_patch_45 (by decide) (by omega) (by omega) (by omega) (by omega) (tgt := 157) (fun c2 => ?_) (fun c2 => ?_)
        · have hke : k = ops.length := by omega
          subst hke
          rw [hwk9, wr_end (Nat.le_refl _)] at hE
          refine n_aload_n C dX5_patch_157 0 rfl rfl ?_
          refine n_aload_n C dX5_patch_158 2 rfl rfl ?_
          refine n_getN (k9 := 1) C dX5_patch_159 (by omega) hrj.obj hX5_patch_X2 rfl (by decide) kn_X5_78 rfl ?_
          refine n_iload_n C dX5_patch_162 3 rfl rfl ?_
          refine n_isub C dX5_patch_163 ?_
          have hroom : 60 < (pst (R9 j) ops ops.length).2.length + ((R9 j).length - (pst (R9 j) ops ops.length).1) := by
            by_cases h9 : 60 < (pst (R9 j) ops ops.length).2.length + ((R9 j).length - (pst (R9 j) ops ops.length).1)
            · exact h9
            · rw [if_neg h9] at hE; omega
          have hcc : ptE R9 ops (j : Int) = 4 := by rw [hcv, hwk9, wr_end (Nat.le_refl _), if_pos hroom]
          exact n_callVZ (rest := []) C hX hnt dX5_patch_164 (ZX5_checkRoom l hlt hN k0 (by omega) hdd (by omega) (by omega) (by omega)) (cwV 1 C.2.2.2.2.1 gX5_patch_X5_checkRoom rfl rfl rfl cdX5_checkRoom ⟨Nat.le_of_ble_eq_true rfl, Nat.le_of_ble_eq_true rfl⟩) (by omega) k0 rfl rfl rfl (Nat.le_of_ble_eq_true rfl) ⟨Nat.le_of_ble_eq_true rfl, Nat.le_of_ble_eq_true rfl⟩ (fun X e2 h => ⟨by rw [hcc, h.1]; rfl, by rw [← h.2]; exact hBx.cmp2, by rw [← h.2]; exact hFx.mono (fun i q => by omega)⟩) (Nat.le_of_ble_eq_true rfl) (Nat.le_of_ble_eq_true rfl)
        · have ht := hf k (by omega)
          have htk0 : k = 0 → (pst (R9 j) ops k).1 = 0 := fun h => by subst h; rfl
          refine n_aload_n C dX5_patch_48 0 rfl rfl ?_
          refine n_aload_n C dX5_patch_49 2 rfl rfl ?_
          refine n_iload C dX5_patch_50 4 rfl ?_
          by_cases hck : chk (R9 j) (pst (R9 j) ops k).1 (fk k, fp k, fs k) = 0
          · obtain ⟨hkd, hSy, hpl, hge, hle, hdl⟩ := chk_0 hck
            dsimp only at hkd hSy hpl hdl
            refine n_callV (rest := []) C dX5_patch_52 (TX5_checkOperation l hN hBx.cmp2 (by omega) ht htk htk0 (by omega) hck) (cwV 2 C.2.2.2.2.1 gX5_patch_X5_checkOperation rfl rfl rfl cdX5_checkOperation ⟨Nat.le_of_ble_eq_true rfl, Nat.le_of_ble_eq_true rfl⟩) (by omega) k0 rfl rfl rfl (Nat.le_of_ble_eq_true rfl) ⟨Nat.le_of_ble_eq_true rfl, Nat.le_of_ble_eq_true rfl⟩ ?_
            rintro _ _ ⟨rfl, rfl⟩
            refine n_pc (pc2 := 55) rfl (n_st (st2 := []) rfl ?_)
            refine n_aload_n C dX5_patch_55 0 rfl rfl ?_
            refine n_get (k9 := 2) C dX5_patch_56 (by omega) k0 hX5_patch_X5 rfl (by decide) kX5_patch_34 rfl ?_
            refine n_getN (k9 := 1) C dX5_patch_59 (by omega) h8.obj hX5_patch_X3 rfl (by decide) kn_X5_116 rfl ?_
            refine n_iload C dX5_patch_62 4 rfl ?_
            refine n_iald (j := k) C dX5_patch_64 (by omega) g2 (by omega) (by omega) (by omega) ?_
            refine n_topI (y := (iI (plN (fk k, fp k, fs k) : Int))) (hpl) ?_
            refine n_istore (lv' := [(0, .ref (ad 0)), (1, .int (iI (j : Int))), (2, .ref (ad (2 + 2 * j))), (3, .int (iI ((pst (R9 j) ops k).1 : Int))), (4, .int (iI (k : Int))), (5, .int (iI (plN (fk k, fp k, fs k) : Int)))]) C dX5_patch_65 (by decide) rfl ?_
            refine n_aload_n C dX5_patch_67 0 rfl rfl ?_
            refine n_get (k9 := 2) C dX5_patch_68 (by omega) k0 hX5_patch_X5 rfl (by decide) kX5_patch_34 rfl ?_
            refine n_getN (k9 := 0) C dX5_patch_71 (by omega) h8.obj hX5_patch_X3 rfl (by decide) kn_X5_112 rfl ?_
            refine n_iload C dX5_patch_74 4 rfl ?_
            refine n_iald (j := k) C dX5_patch_76 (by omega) g1 (by omega) (by omega) (by omega) ?_
            refine n_iconst C dX5_patch_77 ?_
            refine n_icmp_neR C dX5_patch_78 (by decide) (tgt := 85) (fun c3 => ?_) (fun c3 => ?_)
            · have c4 : fk k = iI 0 := hkd.resolve_right c3
              have hin : insN (fk k, fp k, fs k) = 0 := insN_0 c4
              refine n_iconst C dX5_patch_85 ?_
              refine n_istore (lv' := [(0, .ref (ad 0)), (1, .int (iI (j : Int))), (2, .ref (ad (2 + 2 * j))), (3, .int (iI ((pst (R9 j) ops k).1 : Int))), (4, .int (iI (k : Int))), (5, .int (iI (plN (fk k, fp k, fs k) : Int))), (6, .int (iI 0))]) C dX5_patch_86 (by decide) rfl ?_
              refine n_aload_n C dX5_patch_88 0 rfl rfl ?_
              refine n_iload C dX5_patch_89 5 rfl ?_
              refine n_iload_n C dX5_patch_91 3 rfl rfl ?_
              refine n_isub C dX5_patch_92 ?_
              refine n_iload C dX5_patch_93 6 rfl ?_
              refine n_if_eq C dX5_patch_95 (by decide) (by omega) (by omega) (tgt := 102) (fun _ => ?_) (fun c9 => absurd c9 (by omega))
              refine n_iconst C dX5_patch_102 ?_
              refine n_iadd C dX5_patch_103 ?_
              by_cases hrm9 : (pst (R9 j) ops k).2.length + (plN (fk k, fp k, fs k) - (pst (R9 j) ops k).1) + insN (fk k, fp k, fs k) ≤ 60
              · have htr : trb (R9 j) (pst (R9 j) ops k) (fk k, fp k, fs k) = 0 := by rw [trb_room hck, if_neg (by omega)]
                refine n_callV (rest := []) C dX5_patch_104 (TX5_checkRoom l hN k0 (by omega) hdd (by omega) (by omega) (by omega)) (cwV 1 C.2.2.2.2.1 gX5_patch_X5_checkRoom rfl rfl rfl cdX5_checkRoom ⟨Nat.le_of_ble_eq_true rfl, Nat.le_of_ble_eq_true rfl⟩) (by omega) k0 rfl rfl rfl (Nat.le_of_ble_eq_true rfl) ⟨Nat.le_of_ble_eq_true rfl, Nat.le_of_ble_eq_true rfl⟩ ?_
                rintro _ _ ⟨rfl, rfl⟩
                refine n_pc (pc2 := 107) rfl (n_st (st2 := []) rfl ?_)
                have hsl : (sl (R9 j) (pst (R9 j) ops k).1 (plN (fk k, fp k, fs k))).length = plN (fk k, fp k, fs k) - (pst (R9 j) ops k).1 := sl_len (by omega)
                refine n_aload_n C dX5_patch_107 0 rfl rfl ?_
                refine n_get (k9 := 8) C dX5_patch_108 (by omega) k0 hX5_patch_X5 rfl (by decide) kX5_patch_62 rfl ?_
                refine n_aload_n C dX5_patch_111 2 rfl rfl ?_
                refine n_iload_n C dX5_patch_112 3 rfl rfl ?_
                refine n_iload C dX5_patch_113 5 rfl ?_
                refine n_callV (rest := []) C dX5_patch_115 (TX2_addAll l (i := dc) (by omega) hdd (q := 2 + 2 * j) (by omega) hrj (by omega) (by omega) (by omega) (by omega) (by omega) (by omega)) (cwV 3 C.2.2.2.2.1 gX5_patch_X2_addAll rfl rfl rfl cdX2_addAll ⟨Nat.le_of_ble_eq_true rfl, Nat.le_of_ble_eq_true rfl⟩) (by omega) hdd.obj rfl rfl rfl (Nat.le_of_ble_eq_true rfl) ⟨Nat.le_of_ble_eq_true rfl, Nat.le_of_ble_eq_true rfl⟩ ?_
                rintro _ e2 ⟨rfl, hd2, hF2⟩
                refine n_pc (pc2 := 118) rfl (n_st (st2 := []) rfl ?_)
                have hB2 := hBx.dft hd2 hF2
                obtain ⟨-, k0, k1, -, hr9, h8, h12, hwk, hrr, hdd⟩ := id hB2
                have g3 := (hF2 11 (by omega)).trans g3
                have hFy := hF2.tr hFx
                refine n_aload_n C dX5_patch_118 0 rfl rfl ?_
                refine n_get (k9 := 2) C dX5_patch_119 (by omega) k0 hX5_patch_X5 rfl (by decide) kX5_patch_34 rfl ?_
                refine n_iload C dX5_patch_122 4 rfl ?_
                refine n_callV (rest := []) C dX5_patch_124 (TX3_behind l (i := 8) (by omega) h8 (by omega) (by omega)) (cwV 1 C.2.2.2.2.1 gX5_patch_X3_behind rfl rfl rfl cdX3_behind ⟨Nat.le_of_ble_eq_true rfl, Nat.le_of_ble_eq_true rfl⟩) (by omega) h8.obj rfl rfl rfl (Nat.le_of_ble_eq_true rfl) ⟨Nat.le_of_ble_eq_true rfl, Nat.le_of_ble_eq_true rfl⟩ ?_
                rintro _ _ ⟨rfl, rfl⟩
                refine n_pc (pc2 := 127) rfl (n_st (st2 := [.int (bhR ops (k : Int))]) rfl ?_)
                have hbh : bhR ops (k : Int) = iI ((pst (R9 j) ops (k + 1)).1 : Int) := by
                  rw [bhR_in (by omega) ht, pst_s ht]
                  dsimp only
                  rw [if_pos c4, pstep_0 c4]
                  have h5 : fp k + iI 1 = iI (plN (fk k, fp k, fs k) : Int) + iI 1 := congrArg (· + iI 1) hpl
                  exact h5.trans (iI_add _ _)
                refine n_topI (y := (iI ((pst (R9 j) ops (k + 1)).1 : Int))) (hbh) ?_
                refine n_istore_n (lv' := [(0, .ref (ad 0)), (1, .int (iI (j : Int))), (2, .ref (ad (2 + 2 * j))), (3, .int (iI ((pst (R9 j) ops (k + 1)).1 : Int))), (4, .int (iI (k : Int))), (5, .int (iI (plN (fk k, fp k, fs k) : Int))), (6, .int (iI 0))]) C dX5_patch_127 rfl (by decide) rfl ?_
                refine n_iload C dX5_patch_128 6 rfl ?_
                refine n_if_eq C dX5_patch_130 (by decide) (by omega) (by omega) (tgt := 151) (fun _ => ?_) (fun c9 => absurd c9 (by omega))
                refine n_iinc (lv' := [(0, .ref (ad 0)), (1, .int (iI (j : Int))), (2, .ref (ad (2 + 2 * j))), (3, .int (iI ((pst (R9 j) ops (k + 1)).1 : Int))), (4, .int (iI ((k : Int) + 1))), (5, .int (iI (plN (fk k, fp k, fs k) : Int))), (6, .int (iI 0))]) C dX5_patch_151 4 rfl (by decide) rfl ?_
                refine n_goto (tgt := 36) C dX5_patch_154 (by decide) ?_
                have hst : (pst (R9 j) ops (k + 1)).2 = (pst (R9 j) ops k).2 ++ sl (R9 j) (pst (R9 j) ops k).1 (plN (fk k, fp k, fs k)) := by rw [pst_s ht, pstep_0 c4]
                have hok9 := pstep_ok hck
                rw [← pst_s ht] at hok9
                refine n_sub (lv2 := [(0, .ref (ad 0)), (1, .int (iI (j : Int))), (2, .ref (ad (2 + 2 * j))), (3, .int (iI ((pst (R9 j) ops (k + 1)).1 : Int))), (4, .int (iI ((k : Int) + 1)))]) [0, 1, 2, 3, 4] rfl ?_
                refine n_lv (lv2 := [(0, .ref (ad 0)), (1, .int (iI (j : Int))), (2, .ref (ad (2 + 2 * j))), (3, .int (iI ((pst (R9 j) ops (k + 1)).1 : Int))), (4, .int (iI ((k + 1 : Nat) : Int)))]) (by simp) ?_
                exact ih (k + 1) e2 (by omega) (by omega) (hwk9.trans (wr_ok ht htr)) hok9.1 (by omega) (fun _ => by rw [show ((k + 1 : Nat) : Int) - 1 = (k : Int) by omega]; exact hbh) (by rw [hst]; exact hd2) hFy
              · have htr : trb (R9 j) (pst (R9 j) ops k) (fk k, fp k, fs k) = 4 := by rw [trb_room hck, if_pos (by omega)]
                have hcc : ptE R9 ops (j : Int) = 4 := by rw [hcv, hwk9, wr_bad ht (by rw [htr]; decide), htr]
                exact n_callVZ (rest := []) C hX hnt dX5_patch_104 (ZX5_checkRoom l hlt hN k0 (by omega) hdd (by omega) (by omega) (by omega)) (cwV 1 C.2.2.2.2.1 gX5_patch_X5_checkRoom rfl rfl rfl cdX5_checkRoom ⟨Nat.le_of_ble_eq_true rfl, Nat.le_of_ble_eq_true rfl⟩) (by omega) k0 rfl rfl rfl (Nat.le_of_ble_eq_true rfl) ⟨Nat.le_of_ble_eq_true rfl, Nat.le_of_ble_eq_true rfl⟩ (fun X e2 h => ⟨by rw [hcc, h.1]; rfl, by rw [← h.2]; exact hBx.cmp2, by rw [← h.2]; exact hFx.mono (fun i q => by omega)⟩) (Nat.le_of_ble_eq_true rfl) (Nat.le_of_ble_eq_true rfl)
            · have hin : insN (fk k, fp k, fs k) = 1 := insN_1 c3
              refine n_iconst C dX5_patch_81 ?_
              refine n_goto (tgt := 86) C dX5_patch_82 (by decide) ?_
              refine n_istore (lv' := [(0, .ref (ad 0)), (1, .int (iI (j : Int))), (2, .ref (ad (2 + 2 * j))), (3, .int (iI ((pst (R9 j) ops k).1 : Int))), (4, .int (iI (k : Int))), (5, .int (iI (plN (fk k, fp k, fs k) : Int))), (6, .int (iI 1))]) C dX5_patch_86 (by decide) rfl ?_
              refine n_aload_n C dX5_patch_88 0 rfl rfl ?_
              refine n_iload C dX5_patch_89 5 rfl ?_
              refine n_iload_n C dX5_patch_91 3 rfl rfl ?_
              refine n_isub C dX5_patch_92 ?_
              refine n_iload C dX5_patch_93 6 rfl ?_
              refine n_if_eq C dX5_patch_95 (by decide) (by omega) (by omega) (tgt := 102) (fun c9 => absurd c9 (by omega)) (fun _ => ?_)
              refine n_iconst C dX5_patch_98 ?_
              refine n_goto (tgt := 103) C dX5_patch_99 (by decide) ?_
              refine n_iadd C dX5_patch_103 ?_
              by_cases hrm9 : (pst (R9 j) ops k).2.length + (plN (fk k, fp k, fs k) - (pst (R9 j) ops k).1) + insN (fk k, fp k, fs k) ≤ 60
              · have htr : trb (R9 j) (pst (R9 j) ops k) (fk k, fp k, fs k) = 0 := by rw [trb_room hck, if_neg (by omega)]
                refine n_callV (rest := []) C dX5_patch_104 (TX5_checkRoom l hN k0 (by omega) hdd (by omega) (by omega) (by omega)) (cwV 1 C.2.2.2.2.1 gX5_patch_X5_checkRoom rfl rfl rfl cdX5_checkRoom ⟨Nat.le_of_ble_eq_true rfl, Nat.le_of_ble_eq_true rfl⟩) (by omega) k0 rfl rfl rfl (Nat.le_of_ble_eq_true rfl) ⟨Nat.le_of_ble_eq_true rfl, Nat.le_of_ble_eq_true rfl⟩ ?_
                rintro _ _ ⟨rfl, rfl⟩
                refine n_pc (pc2 := 107) rfl (n_st (st2 := []) rfl ?_)
                have hsl : (sl (R9 j) (pst (R9 j) ops k).1 (plN (fk k, fp k, fs k))).length = plN (fk k, fp k, fs k) - (pst (R9 j) ops k).1 := sl_len (by omega)
                refine n_aload_n C dX5_patch_107 0 rfl rfl ?_
                refine n_get (k9 := 8) C dX5_patch_108 (by omega) k0 hX5_patch_X5 rfl (by decide) kX5_patch_62 rfl ?_
                refine n_aload_n C dX5_patch_111 2 rfl rfl ?_
                refine n_iload_n C dX5_patch_112 3 rfl rfl ?_
                refine n_iload C dX5_patch_113 5 rfl ?_
                refine n_callV (rest := []) C dX5_patch_115 (TX2_addAll l (i := dc) (by omega) hdd (q := 2 + 2 * j) (by omega) hrj (by omega) (by omega) (by omega) (by omega) (by omega) (by omega)) (cwV 3 C.2.2.2.2.1 gX5_patch_X2_addAll rfl rfl rfl cdX2_addAll ⟨Nat.le_of_ble_eq_true rfl, Nat.le_of_ble_eq_true rfl⟩) (by omega) hdd.obj rfl rfl rfl (Nat.le_of_ble_eq_true rfl) ⟨Nat.le_of_ble_eq_true rfl, Nat.le_of_ble_eq_true rfl⟩ ?_
                rintro _ e2 ⟨rfl, hd2, hF2⟩
                refine n_pc (pc2 := 118) rfl (n_st (st2 := []) rfl ?_)
                have hB2 := hBx.dft hd2 hF2
                obtain ⟨-, k0, k1, -, hr9, h8, h12, hwk, hrr, hdd⟩ := id hB2
                have g3 := (hF2 11 (by omega)).trans g3
                have hFy := hF2.tr hFx
                refine n_aload_n C dX5_patch_118 0 rfl rfl ?_
                refine n_get (k9 := 2) C dX5_patch_119 (by omega) k0 hX5_patch_X5 rfl (by decide) kX5_patch_34 rfl ?_
                refine n_iload C dX5_patch_122 4 rfl ?_
                refine n_callV (rest := []) C dX5_patch_124 (TX3_behind l (i := 8) (by omega) h8 (by omega) (by omega)) (cwV 1 C.2.2.2.2.1 gX5_patch_X3_behind rfl rfl rfl cdX3_behind ⟨Nat.le_of_ble_eq_true rfl, Nat.le_of_ble_eq_true rfl⟩) (by omega) h8.obj rfl rfl rfl (Nat.le_of_ble_eq_true rfl) ⟨Nat.le_of_ble_eq_true rfl, Nat.le_of_ble_eq_true rfl⟩ ?_
                rintro _ _ ⟨rfl, rfl⟩
                refine n_pc (pc2 := 127) rfl (n_st (st2 := [.int (bhR ops (k : Int))]) rfl ?_)
                have hbh : bhR ops (k : Int) = iI ((pst (R9 j) ops (k + 1)).1 : Int) := by
                  rw [bhR_in (by omega) ht, pst_s ht]
                  dsimp only
                  rw [if_neg (fun q => iI_ne (show (0 : Int) ≠ 1 by decide) (by decide) (by decide) (by decide) (by decide) (q.symm.trans c3)), pstep_1 c3]
                  exact hpl
                refine n_topI (y := (iI ((pst (R9 j) ops (k + 1)).1 : Int))) (hbh) ?_
                refine n_istore_n (lv' := [(0, .ref (ad 0)), (1, .int (iI (j : Int))), (2, .ref (ad (2 + 2 * j))), (3, .int (iI ((pst (R9 j) ops (k + 1)).1 : Int))), (4, .int (iI (k : Int))), (5, .int (iI (plN (fk k, fp k, fs k) : Int))), (6, .int (iI 1))]) C dX5_patch_127 rfl (by decide) rfl ?_
                refine n_iload C dX5_patch_128 6 rfl ?_
                refine n_if_eq C dX5_patch_130 (by decide) (by omega) (by omega) (tgt := 151) (fun c9 => absurd c9 (by omega)) (fun _ => ?_)
                refine n_aload_n C dX5_patch_133 0 rfl rfl ?_
                refine n_get (k9 := 8) C dX5_patch_134 (by omega) k0 hX5_patch_X5 rfl (by decide) kX5_patch_62 rfl ?_
                refine n_aload_n C dX5_patch_137 0 rfl rfl ?_
                refine n_get (k9 := 2) C dX5_patch_138 (by omega) k0 hX5_patch_X5 rfl (by decide) kX5_patch_34 rfl ?_
                refine n_getN (k9 := 2) C dX5_patch_141 (by omega) h8.obj hX5_patch_X3 rfl (by decide) kn_X5_119 rfl ?_
                refine n_iload C dX5_patch_144 4 rfl ?_
                refine n_iald (j := k) C dX5_patch_146 (by omega) g3 (by omega) (by omega) (by omega) ?_
                refine n_callV (rest := []) C dX5_patch_147 (TX2_add l (i := dc) (by omega) hdd (x := fs k)) (cwV 1 C.2.2.2.2.1 gX5_patch_X2_add rfl rfl rfl cdX2_add ⟨Nat.le_of_ble_eq_true rfl, Nat.le_of_ble_eq_true rfl⟩) (by omega) hdd.obj rfl rfl rfl (Nat.le_of_ble_eq_true rfl) ⟨Nat.le_of_ble_eq_true rfl, Nat.le_of_ble_eq_true rfl⟩ ?_
                rintro _ e3 ⟨rfl, hd3, hF3⟩
                refine n_pc (pc2 := 150) rfl (n_st (st2 := [.int (bI (decide (((pst (R9 j) ops k).2 ++ sl (R9 j) (pst (R9 j) ops k).1 (plN (fk k, fp k, fs k))).length < 123)))]) rfl ?_)
                rw [if_pos (by rw [List.length_append]; omega)] at hd3
                have hFy := hF3.tr hFy
                refine n_pop C dX5_patch_150 rfl ?_
                refine n_iinc (lv' := [(0, .ref (ad 0)), (1, .int (iI (j : Int))), (2, .ref (ad (2 + 2 * j))), (3, .int (iI ((pst (R9 j) ops (k + 1)).1 : Int))), (4, .int (iI ((k : Int) + 1))), (5, .int (iI (plN (fk k, fp k, fs k) : Int))), (6, .int (iI 1))]) C dX5_patch_151 4 rfl (by decide) rfl ?_
                refine n_goto (tgt := 36) C dX5_patch_154 (by decide) ?_
                have hst : (pst (R9 j) ops (k + 1)).2 = (pst (R9 j) ops k).2 ++ sl (R9 j) (pst (R9 j) ops k).1 (plN (fk k, fp k, fs k)) ++ [fs k] := by rw [pst_s ht, pstep_1 c3]
                have hok9 := pstep_ok hck
                rw [← pst_s ht] at hok9
                refine n_sub (lv2 := [(0, .ref (ad 0)), (1, .int (iI (j : Int))), (2, .ref (ad (2 + 2 * j))), (3, .int (iI ((pst (R9 j) ops (k + 1)).1 : Int))), (4, .int (iI ((k : Int) + 1)))]) [0, 1, 2, 3, 4] rfl ?_
                refine n_lv (lv2 := [(0, .ref (ad 0)), (1, .int (iI (j : Int))), (2, .ref (ad (2 + 2 * j))), (3, .int (iI ((pst (R9 j) ops (k + 1)).1 : Int))), (4, .int (iI ((k + 1 : Nat) : Int)))]) (by simp) ?_
                exact ih (k + 1) e3 (by omega) (by omega) (hwk9.trans (wr_ok ht htr)) hok9.1 (by omega) (fun _ => by rw [show ((k + 1 : Nat) : Int) - 1 = (k : Int) by omega]; exact hbh) (by rw [hst]; exact hd3) hFy
              · have htr : trb (R9 j) (pst (R9 j) ops k) (fk k, fp k, fs k) = 4 := by rw [trb_room hck, if_pos (by omega)]
                have hcc : ptE R9 ops (j : Int) = 4 := by rw [hcv, hwk9, wr_bad ht (by rw [htr]; decide), htr]
                exact n_callVZ (rest := []) C hX hnt dX5_patch_104 (ZX5_checkRoom l hlt hN k0 (by omega) hdd (by omega) (by omega) (by omega)) (cwV 1 C.2.2.2.2.1 gX5_patch_X5_checkRoom rfl rfl rfl cdX5_checkRoom ⟨Nat.le_of_ble_eq_true rfl, Nat.le_of_ble_eq_true rfl⟩) (by omega) k0 rfl rfl rfl (Nat.le_of_ble_eq_true rfl) ⟨Nat.le_of_ble_eq_true rfl, Nat.le_of_ble_eq_true rfl⟩ (fun X e2 h => ⟨by rw [hcc, h.1]; rfl, by rw [← h.2]; exact hBx.cmp2, by rw [← h.2]; exact hFx.mono (fun i q => by omega)⟩) (Nat.le_of_ble_eq_true rfl) (Nat.le_of_ble_eq_true rfl)
          · have hcc : ptE R9 ops (j : Int) = chk (R9 j) (pst (R9 j) ops k).1 (fk k, fp k, fs k) := by rw [hcv, hwk9, wr_bad ht (by rw [trb_chk hck]; exact hck), trb_chk hck]
            exact n_callVZ (rest := []) C hX hnt dX5_patch_52 (ZX5_checkOperation l hlt hN hBx.cmp2 (by omega) ht htk htk0 (by omega) hck) (cwV 2 C.2.2.2.2.1 gX5_patch_X5_checkOperation rfl rfl rfl cdX5_checkOperation ⟨Nat.le_of_ble_eq_true rfl, Nat.le_of_ble_eq_true rfl⟩) (by omega) k0 rfl rfl rfl (Nat.le_of_ble_eq_true rfl) ⟨Nat.le_of_ble_eq_true rfl, Nat.le_of_ble_eq_true rfl⟩ (fun X e2 h => ⟨by rw [hcc]; exact h.1, by rw [← h.2]; exact hBx.cmp2, by rw [← h.2]; exact hFx.mono (fun i q => by omega)⟩) (Nat.le_of_ble_eq_true rfl) (Nat.le_of_ble_eq_true rfl)
    refine n_lv (lv2 := [(0, .ref (ad 0)), (1, .int (iI (j : Int))), (2, .ref (ad (2 + 2 * j))), (3, .int (iI ((pst (R9 j) ops 0).1 : Int))), (4, .int (iI ((0 : Nat) : Int)))]) rfl ?_
    exact loop _ 0 ea (Nat.lt_succ_self _) (Nat.zero_le _) rfl (Nat.zero_le _) (Nat.zero_le _) (fun h => absurd h (by omega)) ha1 hFa
  · exact n_throw (text := "no such row") C hlt hX hnt dX5_patch_7 dX5_patch_10 dX5_patch_11 dX5_patch_13 dX5_patch_16 hX5_patch_nIAa hX5_patch_nIAb (by decide) hX5_patch_nIAc hx2_nIA hx3_nIA hx4_nIA (Nat.le_of_ble_eq_true rfl) (Nat.le_of_ble_eq_true rfl) (Nat.le_of_ble_eq_true rfl) (Nat.le_of_ble_eq_true rfl) (Nat.le_of_ble_eq_true rfl) (Nat.le_of_ble_eq_true rfl) (⟨by unfold ptE; rw [c1]; rfl, hB.cmp2, Fr.rf⟩)
