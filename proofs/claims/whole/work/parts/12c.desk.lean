set_option maxHeartbeats 4000000 in
set_option maxRecDepth 100000 in
theorem TX5_init (l : Launch) {G : GG} {ad : Nat → Nat} {ev : Nat → va_E} {q : Nat} {z : Int} (hq : ad 0 = q) (he : ev 0 = .inr (5, [.int (iI 0), .null, .null, .null, .int (iI 0), .null, .null, .null, .null])) (hza : -2147483648 ≤ z) (hzb : z < 2147483648) : Ca l yX5_init wsX5_init rmX5_init [.ref q, .int (iI z)] G (1) (61) ad ev 60 1220 (fun ad2 e2 => DeskAt G (fun k => ad2 (sg k)) (fun k => e2 (sg k)) (max 0 (min 40 z)) (fun _ => []) [] [] 0 [] ∧ CmpAt G (fun k => ad2 (sg k)) (fun k => e2 (sg k)) 39 40 (fun _ _ => 0)) := by
  refine Ca_of (cc := cX5_init) (maxL := 3) (ret := none) (lv := [(0, .ref q), (1, .int (iI z))]) (by decide) rfl (Nat.le_of_ble_eq_true rfl) rfl ?_
  intro p E s m args below meth c A C hr hnm hX
  have hG00 : Gr (1) ad ad := fun j hj => rfl
  have hE00 : ∀ j, j < 1 → j ≠ 0 → j ≠ 1 → ev j = ev j := fun j hj h1 h2 => rfl
  refine n_aload_n C dX5_init_0 0 rfl rfl ?_
  refine n_objI C dX5_init_1 (List.mem_of_getElem? (i := 1) rfl) (List.mem_of_getElem? (i := 2) rfl) (List.mem_of_getElem? (i := 3) rfl) (Nat.le_of_ble_eq_true rfl) (Nat.le_of_ble_eq_true rfl) ?_
  refine n_st (st2 := []) rfl ?_
  refine n_aload_n C dX5_init_4 0 rfl rfl ?_
  refine n_iconst C dX5_init_5 ?_
  refine n_bipush C dX5_init_6 (by decide) ?_
  refine n_iload_n C dX5_init_8 1 rfl rfl ?_
  refine n_mmin C dX5_init_9 (List.mem_of_getElem? (i := 4) rfl) (List.mem_of_getElem? (i := 5) rfl) (List.mem_of_getElem? (i := 6) rfl) (List.mem_of_getElem? (i := 7) rfl) (Nat.le_of_ble_eq_true rfl) (Nat.le_of_ble_eq_true rfl) (Nat.le_of_ble_eq_true rfl) (Nat.le_of_ble_eq_true rfl) (by omega) (by omega) (by omega) (by omega) ?_
  refine n_mmax C dX5_init_12 (List.mem_of_getElem? (i := 8) rfl) (List.mem_of_getElem? (i := 9) rfl) (List.mem_of_getElem? (i := 6) rfl) (List.mem_of_getElem? (i := 10) rfl) (Nat.le_of_ble_eq_true rfl) (Nat.le_of_ble_eq_true rfl) (Nat.le_of_ble_eq_true rfl) (Nat.le_of_ble_eq_true rfl) (by omega) (by omega) (by omega) (by omega) ?_
  refine n_rf1 hq ?_
  refine n_putF (k9 := 0) (fs2 := [.int (iI (max 0 (min 40 z))), .null, .null, .null, .int (iI 0), .null, .null, .null, .null]) C dX5_init_15 (by omega) he hX5_init_X5 tyX5_ok nmX5 rfl (by decide) kX5_init_18 rfl hnm rfl rfl rfl (Nat.le_of_ble_eq_true rfl) rfl (fun e1 hs2 ho3 => ?_)
  have hE00 : ∀ j, j < 1 → j ≠ 0 → j ≠ 1 → e1 j = ev j := fun j hj h1 h2 => (ho3 j (by omega)).trans (hE00 j hj h1 h2)
  refine n_aload_n C dX5_init_18 0 rfl rfl ?_
  refine n_iconst C dX5_init_19 ?_
  refine n_newQ (n := 3) C hX dX5_init_20 (List.mem_of_getElem? (i := 12) rfl) (Nat.le_of_ble_eq_true rfl) (Nat.le_of_ble_eq_true rfl) (Nat.le_of_ble_eq_true rfl) (fun ad4 e5 hg6 hE7 hn8 => ?_)
  refine n_nm (N2 := 2) (c2 := 1) (s2 := 3) rfl rfl rfl ?_
  have hq := (hg6 0 (by omega)).trans hq
  have qh9 := (hE7 0 (by omega)).trans hs2
  have hG00 : Gr 1 ad ad4 := fun j hj => (hg6 j (by omega)).trans (hG00 j hj)
  have hE00 : ∀ j, j < 1 → j ≠ 0 → j ≠ 1 → e5 j = ev j := fun j hj h1 h2 => (hE7 j (by omega)).trans (hE00 j hj h1 h2)
  have hGv10 : Gr 2 ad4 ad4 := fun j hj => rfl
  refine n_st (st2 := [.ref (ad4 1), .ref q]) rfl ?_
  refine n_rf1 hq ?_
  refine n_putF (k9 := 1) (fs2 := [.int (iI (max 0 (min 40 z))), .ref (ad4 1), .null, .null, .int (iI 0), .null, .null, .null, .null]) C dX5_init_23 (by omega) qh9 hX5_init_X5 tyX5_ok nmX5 rfl (by decide) kX5_init_24 rfl hnm rfl rfl rfl (Nat.le_of_ble_eq_true rfl) rfl (fun e11 hs12 ho13 => ?_)
  have qh14 := (ho13 1 (by decide)).trans hn8
  have hE00 : ∀ j, j < 1 → j ≠ 0 → j ≠ 1 → e11 j = ev j := fun j hj h1 h2 => (ho13 j (by omega)).trans (hE00 j hj h1 h2)
  refine n_iconst C dX5_init_26 ?_
  refine n_istore_n (lv' := [(0, .ref q), (1, .int (iI z)), (2, .int (iI 0))]) C dX5_init_27 rfl (by decide) rfl ?_
  refine n_iload_n C dX5_init_28 2 rfl rfl ?_
  refine n_iconst C dX5_init_29 ?_
  refine n_lv (lv2 := [(0, .ref q), (1, .int (iI z)), (2, .int (iI 0))]) rfl ?_
  refine n_icmp_ge C dX5_init_30 (by decide) (by omega) (by omega) (by omega) (by omega) (tgt := 54) (fun c9 => absurd c9 (by omega)) (fun _ => ?_)
  refine n_aload_n C dX5_init_33 0 rfl rfl ?_
  refine n_rf hq ?_
  refine n_get (k9 := 1) C dX5_init_34 (by omega) hs12 hX5_init_X5 rfl (by decide) kX5_init_24 rfl ?_
  refine n_iload_n C dX5_init_37 2 rfl rfl ?_
  refine n_new (ci := 2) (fs := [.null, .int (iI 0)]) C dX5_init_38 hX5_init_X2 tyX2_ok (List.mem_of_getElem? (i := 12) rfl) (List.mem_of_getElem? (i := 14) rfl) (List.mem_of_getElem? (i := 15) rfl) rfl (by intro j hj; rcases (show j = 0 ∨ j = 1 by omega) with rfl | rfl <;> rfl) (Nat.le_of_ble_eq_true rfl) (Nat.le_of_ble_eq_true rfl) (fun ad15 e16 hg17 hE18 hn19 => ?_)
  refine n_nm (N2 := 3) (c2 := 2) (s2 := 5) rfl rfl rfl ?_
  have hq := (hg17 0 (by omega)).trans hq
  have qh20 := (hE18 0 (by omega)).trans hs12
  have qh21 := (hE18 1 (by omega)).trans qh14
  have hG00 : Gr 1 ad ad15 := fun j hj => (hg17 j (by omega)).trans (hG00 j hj)
  have hE00 : ∀ j, j < 1 → j ≠ 0 → j ≠ 1 → e16 j = ev j := fun j hj h1 h2 => (hE18 j (by omega)).trans (hE00 j hj h1 h2)
  have hGv10 : Gr 2 ad4 ad15 := fun j hj => (hg17 j (by omega)).trans (hGv10 j hj)
  refine n_st (st2 := [.ref (ad15 2), .int (iI 0), .ref (ad4 1)]) rfl ?_
  refine n_dup C dX5_init_41 rfl ?_
  refine n_bipush C dX5_init_42 (by decide) ?_
  refine n_st (st2 := [.int (iI ((20 : Nat) : Int)), .ref (ad15 2), .ref (ad15 2), .int (iI 0), .ref (ad4 1)]) rfl ?_
  refine n_callI (As := [.int (iI ((20 : Nat) : Int))]) (rest := [.ref (ad15 2), .int (iI 0), .ref (ad4 1)]) C hX dX5_init_44 (TX2_init l (i := 2) (cap := 20) rfl hn19 (by omega)) (cwI 1 C.2.2.2.2.1 gX5_init_X2_init rfl rfl rfl (C.2.2.2.2.1 _ (List.mem_of_getElem? (i := 15) rfl)) (C.2.2.2.2.1 _ (List.mem_of_getElem? (i := 32) rfl)) (C.2.2.2.2.1 _ (List.mem_of_getElem? (i := 33) rfl)) rfl cdX2_init.2 ⟨(Nat.le_of_ble_eq_true rfl), (Nat.le_of_ble_eq_true rfl)⟩) rfl rfl (Nat.le_of_ble_eq_true rfl) ⟨(Nat.le_of_ble_eq_true rfl), (Nat.le_of_ble_eq_true rfl)⟩ ?_
  rintro ad22 e23 hg24 ⟨hw2, hE25⟩
  refine n_pc (pc2 := 47) rfl ?_
  refine n_nm (N2 := 4) (c2 := 3) (s2 := 25) rfl rfl rfl ?_
  have hq := (hg24 0 (by omega)).trans hq
  have qh26 := (hE25 0 (by omega)).trans qh20
  have qh27 := (hE25 1 (by omega)).trans qh21
  have hG00 : Gr 1 ad ad22 := fun j hj => (hg24 j (by omega)).trans (hG00 j hj)
  have hE00 : ∀ j, j < 1 → j ≠ 0 → j ≠ 1 → e23 j = ev j := fun j hj h1 h2 => (hE25 j (by omega)).trans (hE00 j hj h1 h2)
  have hGv10 : Gr 2 ad4 ad22 := fun j hj => (hg24 j (by omega)).trans (hGv10 j hj)
  refine n_st (st2 := [.ref (ad22 2), .int (iI 0), .ref (ad4 1)]) (by rw [hg24 2 (by omega)]) ?_
  have hGv28 : Gr 4 ad22 ad22 := fun j hj => rfl
  have hEv28 : ∀ j, j < 4 → j ≠ 0 → j ≠ 1 → e23 j = e23 j := fun j hj h1 h2 => rfl
  refine n_rf2 (hGv10 1 (by omega)) ?_
  obtain ⟨fo0, fe0, -⟩ := id hw2
  refine n_aastq (j := 0) (k9 := 2) C dX5_init_47 (by omega) qh27 (by omega) fe0 (by omega) (by omega) (by omega) (fun e29 hs30 ho31 => ?_)
  have qh32 := (ho31 0 (by decide)).trans qh26
  have hE00 : ∀ j, j < 1 → j ≠ 0 → j ≠ 1 → e29 j = ev j := fun j hj h1 h2 => (ho31 j (by omega)).trans (hE00 j hj h1 h2)
  have hEv28 : ∀ j, j < 4 → j ≠ 0 → j ≠ 1 → e29 j = e23 j := fun j hj h1 h2 => (ho31 j (by omega)).trans (hEv28 j hj h1 h2)
  refine n_iinc (lv' := [(0, .ref q), (1, .int (iI z)), (2, .int (iI (0 + 1)))]) C dX5_init_48 2 rfl (by decide) rfl ?_
  refine n_goto (tgt := 28) C dX5_init_51 (by decide) ?_
  refine n_lv (lv2 := [(0, .ref q), (1, .int (iI z)), (2, .int (iI 1))]) rfl ?_
  refine n_iload_n C dX5_init_28 2 rfl rfl ?_
  refine n_iconst C dX5_init_29 ?_
  refine n_icmp_ge C dX5_init_30 (by decide) (by omega) (by omega) (by omega) (by omega) (tgt := 54) (fun c9 => absurd c9 (by omega)) (fun _ => ?_)
  refine n_aload_n C dX5_init_33 0 rfl rfl ?_
  refine n_rf hq ?_
  refine n_get (k9 := 1) C dX5_init_34 (by omega) qh32 hX5_init_X5 rfl (by decide) kX5_init_24 rfl ?_
  refine n_iload_n C dX5_init_37 2 rfl rfl ?_
  refine n_new (ci := 2) (fs := [.null, .int (iI 0)]) C dX5_init_38 hX5_init_X2 tyX2_ok (List.mem_of_getElem? (i := 12) rfl) (List.mem_of_getElem? (i := 14) rfl) (List.mem_of_getElem? (i := 15) rfl) rfl (by intro j hj; rcases (show j = 0 ∨ j = 1 by omega) with rfl | rfl <;> rfl) (Nat.le_of_ble_eq_true rfl) (Nat.le_of_ble_eq_true rfl) (fun ad33 e34 hg35 hE36 hn37 => ?_)
  refine n_nm (N2 := 5) (c2 := 4) (s2 := 27) rfl rfl rfl ?_
  have hq := (hg35 0 (by omega)).trans hq
  have qh38 := (hE36 0 (by omega)).trans qh32
  have qh39 := (hE36 1 (by omega)).trans hs30
  have hG00 : Gr 1 ad ad33 := fun j hj => (hg35 j (by omega)).trans (hG00 j hj)
  have hE00 : ∀ j, j < 1 → j ≠ 0 → j ≠ 1 → e34 j = ev j := fun j hj h1 h2 => (hE36 j (by omega)).trans (hE00 j hj h1 h2)
  have hGv10 : Gr 2 ad4 ad33 := fun j hj => (hg35 j (by omega)).trans (hGv10 j hj)
  have hGv28 : Gr 4 ad22 ad33 := fun j hj => (hg35 j (by omega)).trans (hGv28 j hj)
  have hEv28 : ∀ j, j < 4 → j ≠ 0 → j ≠ 1 → e34 j = e23 j := fun j hj h1 h2 => (hE36 j (by omega)).trans (hEv28 j hj h1 h2)
  refine n_st (st2 := [.ref (ad33 4), .int (iI 1), .ref (ad4 1)]) rfl ?_
  refine n_dup C dX5_init_41 rfl ?_
  refine n_bipush C dX5_init_42 (by decide) ?_
  refine n_st (st2 := [.int (iI ((20 : Nat) : Int)), .ref (ad33 4), .ref (ad33 4), .int (iI 1), .ref (ad4 1)]) rfl ?_
  refine n_callI (As := [.int (iI ((20 : Nat) : Int))]) (rest := [.ref (ad33 4), .int (iI 1), .ref (ad4 1)]) C hX dX5_init_44 (TX2_init l (i := 4) (cap := 20) rfl hn37 (by omega)) (cwI 1 C.2.2.2.2.1 gX5_init_X2_init rfl rfl rfl (C.2.2.2.2.1 _ (List.mem_of_getElem? (i := 15) rfl)) (C.2.2.2.2.1 _ (List.mem_of_getElem? (i := 32) rfl)) (C.2.2.2.2.1 _ (List.mem_of_getElem? (i := 33) rfl)) rfl cdX2_init.2 ⟨(Nat.le_of_ble_eq_true rfl), (Nat.le_of_ble_eq_true rfl)⟩) rfl rfl (Nat.le_of_ble_eq_true rfl) ⟨(Nat.le_of_ble_eq_true rfl), (Nat.le_of_ble_eq_true rfl)⟩ ?_
  rintro ad40 e41 hg42 ⟨hw4, hE43⟩
  refine n_pc (pc2 := 47) rfl ?_
  refine n_nm (N2 := 6) (c2 := 5) (s2 := 47) rfl rfl rfl ?_
  have hq := (hg42 0 (by omega)).trans hq
  have qh44 := (hE43 0 (by omega)).trans qh38
  have qh45 := (hE43 1 (by omega)).trans qh39
  have hG00 : Gr 1 ad ad40 := fun j hj => (hg42 j (by omega)).trans (hG00 j hj)
  have hE00 : ∀ j, j < 1 → j ≠ 0 → j ≠ 1 → e41 j = ev j := fun j hj h1 h2 => (hE43 j (by omega)).trans (hE00 j hj h1 h2)
  have hGv10 : Gr 2 ad4 ad40 := fun j hj => (hg42 j (by omega)).trans (hGv10 j hj)
  have hGv28 : Gr 4 ad22 ad40 := fun j hj => (hg42 j (by omega)).trans (hGv28 j hj)
  have hEv28 : ∀ j, j < 4 → j ≠ 0 → j ≠ 1 → e41 j = e23 j := fun j hj h1 h2 => (hE43 j (by omega)).trans (hEv28 j hj h1 h2)
  refine n_st (st2 := [.ref (ad40 4), .int (iI 1), .ref (ad4 1)]) (by rw [hg42 4 (by omega)]) ?_
  have hGv46 : Gr 6 ad40 ad40 := fun j hj => rfl
  have hEv46 : ∀ j, j < 6 → j ≠ 0 → j ≠ 1 → e41 j = e41 j := fun j hj h1 h2 => rfl
  refine n_rf2 (hGv10 1 (by omega)) ?_
  obtain ⟨fo1, fe1, -⟩ := id hw4
  refine n_aastq (j := 1) (k9 := 4) C dX5_init_47 (by omega) qh45 (by omega) fe1 (by omega) (by omega) (by omega) (fun e47 hs48 ho49 => ?_)
  have qh50 := (ho49 0 (by decide)).trans qh44
  have hE00 : ∀ j, j < 1 → j ≠ 0 → j ≠ 1 → e47 j = ev j := fun j hj h1 h2 => (ho49 j (by omega)).trans (hE00 j hj h1 h2)
  have hEv28 : ∀ j, j < 4 → j ≠ 0 → j ≠ 1 → e47 j = e23 j := fun j hj h1 h2 => (ho49 j (by omega)).trans (hEv28 j hj h1 h2)
  have hEv46 : ∀ j, j < 6 → j ≠ 0 → j ≠ 1 → e47 j = e41 j := fun j hj h1 h2 => (ho49 j (by omega)).trans (hEv46 j hj h1 h2)
  refine n_iinc (lv' := [(0, .ref q), (1, .int (iI z)), (2, .int (iI (1 + 1)))]) C dX5_init_48 2 rfl (by decide) rfl ?_
  refine n_goto (tgt := 28) C dX5_init_51 (by decide) ?_
  refine n_lv (lv2 := [(0, .ref q), (1, .int (iI z)), (2, .int (iI 2))]) rfl ?_
  refine n_iload_n C dX5_init_28 2 rfl rfl ?_
  refine n_iconst C dX5_init_29 ?_
  refine n_icmp_ge C dX5_init_30 (by decide) (by omega) (by omega) (by omega) (by omega) (tgt := 54) (fun c9 => absurd c9 (by omega)) (fun _ => ?_)
  refine n_aload_n C dX5_init_33 0 rfl rfl ?_
  refine n_rf hq ?_
  refine n_get (k9 := 1) C dX5_init_34 (by omega) qh50 hX5_init_X5 rfl (by decide) kX5_init_24 rfl ?_
  refine n_iload_n C dX5_init_37 2 rfl rfl ?_
  refine n_new (ci := 2) (fs := [.null, .int (iI 0)]) C dX5_init_38 hX5_init_X2 tyX2_ok (List.mem_of_getElem? (i := 12) rfl) (List.mem_of_getElem? (i := 14) rfl) (List.mem_of_getElem? (i := 15) rfl) rfl (by intro j hj; rcases (show j = 0 ∨ j = 1 by omega) with rfl | rfl <;> rfl) (Nat.le_of_ble_eq_true rfl) (Nat.le_of_ble_eq_true rfl) (fun ad51 e52 hg53 hE54 hn55 => ?_)
  refine n_nm (N2 := 7) (c2 := 6) (s2 := 49) rfl rfl rfl ?_
  have hq := (hg53 0 (by omega)).trans hq
  have qh56 := (hE54 0 (by omega)).trans qh50
  have qh57 := (hE54 1 (by omega)).trans hs48
  have hG00 : Gr 1 ad ad51 := fun j hj => (hg53 j (by omega)).trans (hG00 j hj)
  have hE00 : ∀ j, j < 1 → j ≠ 0 → j ≠ 1 → e52 j = ev j := fun j hj h1 h2 => (hE54 j (by omega)).trans (hE00 j hj h1 h2)
  have hGv10 : Gr 2 ad4 ad51 := fun j hj => (hg53 j (by omega)).trans (hGv10 j hj)
  have hGv28 : Gr 4 ad22 ad51 := fun j hj => (hg53 j (by omega)).trans (hGv28 j hj)
  have hEv28 : ∀ j, j < 4 → j ≠ 0 → j ≠ 1 → e52 j = e23 j := fun j hj h1 h2 => (hE54 j (by omega)).trans (hEv28 j hj h1 h2)
  have hGv46 : Gr 6 ad40 ad51 := fun j hj => (hg53 j (by omega)).trans (hGv46 j hj)
  have hEv46 : ∀ j, j < 6 → j ≠ 0 → j ≠ 1 → e52 j = e41 j := fun j hj h1 h2 => (hE54 j (by omega)).trans (hEv46 j hj h1 h2)
  refine n_st (st2 := [.ref (ad51 6), .int (iI 2), .ref (ad4 1)]) rfl ?_
  refine n_dup C dX5_init_41 rfl ?_
  refine n_bipush C dX5_init_42 (by decide) ?_
  refine n_st (st2 := [.int (iI ((20 : Nat) : Int)), .ref (ad51 6), .ref (ad51 6), .int (iI 2), .ref (ad4 1)]) rfl ?_
  refine n_callI (As := [.int (iI ((20 : Nat) : Int))]) (rest := [.ref (ad51 6), .int (iI 2), .ref (ad4 1)]) C hX dX5_init_44 (TX2_init l (i := 6) (cap := 20) rfl hn55 (by omega)) (cwI 1 C.2.2.2.2.1 gX5_init_X2_init rfl rfl rfl (C.2.2.2.2.1 _ (List.mem_of_getElem? (i := 15) rfl)) (C.2.2.2.2.1 _ (List.mem_of_getElem? (i := 32) rfl)) (C.2.2.2.2.1 _ (List.mem_of_getElem? (i := 33) rfl)) rfl cdX2_init.2 ⟨(Nat.le_of_ble_eq_true rfl), (Nat.le_of_ble_eq_true rfl)⟩) rfl rfl (Nat.le_of_ble_eq_true rfl) ⟨(Nat.le_of_ble_eq_true rfl), (Nat.le_of_ble_eq_true rfl)⟩ ?_
  rintro ad58 e59 hg60 ⟨hw6, hE61⟩
  refine n_pc (pc2 := 47) rfl ?_
  refine n_nm (N2 := 8) (c2 := 7) (s2 := 69) rfl rfl rfl ?_
  have hq := (hg60 0 (by omega)).trans hq
  have qh62 := (hE61 0 (by omega)).trans qh56
  have qh63 := (hE61 1 (by omega)).trans qh57
  have hG00 : Gr 1 ad ad58 := fun j hj => (hg60 j (by omega)).trans (hG00 j hj)
  have hE00 : ∀ j, j < 1 → j ≠ 0 → j ≠ 1 → e59 j = ev j := fun j hj h1 h2 => (hE61 j (by omega)).trans (hE00 j hj h1 h2)
  have hGv10 : Gr 2 ad4 ad58 := fun j hj => (hg60 j (by omega)).trans (hGv10 j hj)
  have hGv28 : Gr 4 ad22 ad58 := fun j hj => (hg60 j (by omega)).trans (hGv28 j hj)
  have hEv28 : ∀ j, j < 4 → j ≠ 0 → j ≠ 1 → e59 j = e23 j := fun j hj h1 h2 => (hE61 j (by omega)).trans (hEv28 j hj h1 h2)
  have hGv46 : Gr 6 ad40 ad58 := fun j hj => (hg60 j (by omega)).trans (hGv46 j hj)
  have hEv46 : ∀ j, j < 6 → j ≠ 0 → j ≠ 1 → e59 j = e41 j := fun j hj h1 h2 => (hE61 j (by omega)).trans (hEv46 j hj h1 h2)
  refine n_st (st2 := [.ref (ad58 6), .int (iI 2), .ref (ad4 1)]) (by rw [hg60 6 (by omega)]) ?_
  have hGv64 : Gr 8 ad58 ad58 := fun j hj => rfl
  have hEv64 : ∀ j, j < 8 → j ≠ 0 → j ≠ 1 → e59 j = e59 j := fun j hj h1 h2 => rfl
  refine n_rf2 (hGv10 1 (by omega)) ?_
  obtain ⟨fo2, fe2, -⟩ := id hw6
  refine n_aastq (j := 2) (k9 := 6) C dX5_init_47 (by omega) qh63 (by omega) fe2 (by omega) (by omega) (by omega) (fun e65 hs66 ho67 => ?_)
  have qh68 := (ho67 0 (by decide)).trans qh62
  have hE00 : ∀ j, j < 1 → j ≠ 0 → j ≠ 1 → e65 j = ev j := fun j hj h1 h2 => (ho67 j (by omega)).trans (hE00 j hj h1 h2)
  have hEv28 : ∀ j, j < 4 → j ≠ 0 → j ≠ 1 → e65 j = e23 j := fun j hj h1 h2 => (ho67 j (by omega)).trans (hEv28 j hj h1 h2)
  have hEv46 : ∀ j, j < 6 → j ≠ 0 → j ≠ 1 → e65 j = e41 j := fun j hj h1 h2 => (ho67 j (by omega)).trans (hEv46 j hj h1 h2)
  have hEv64 : ∀ j, j < 8 → j ≠ 0 → j ≠ 1 → e65 j = e59 j := fun j hj h1 h2 => (ho67 j (by omega)).trans (hEv64 j hj h1 h2)
  refine n_iinc (lv' := [(0, .ref q), (1, .int (iI z)), (2, .int (iI (2 + 1)))]) C dX5_init_48 2 rfl (by decide) rfl ?_
  refine n_goto (tgt := 28) C dX5_init_51 (by decide) ?_
  refine n_lv (lv2 := [(0, .ref q), (1, .int (iI z)), (2, .int (iI 3))]) rfl ?_
  refine n_iload_n C dX5_init_28 2 rfl rfl ?_
  refine n_iconst C dX5_init_29 ?_
  refine n_icmp_ge C dX5_init_30 (by decide) (by omega) (by omega) (by omega) (by omega) (tgt := 54) (fun _ => ?_) (fun c9 => absurd c9 (by omega))
  refine n_aload_n C dX5_init_54 0 rfl rfl ?_
  refine n_new (ci := 3) (fs := [.null, .null, .null, .int (iI 0)]) C dX5_init_55 hX5_init_X3 tyX3_ok (List.mem_of_getElem? (i := 16) rfl) (List.mem_of_getElem? (i := 17) rfl) (List.mem_of_getElem? (i := 18) rfl) rfl (by intro j hj; rcases (show j = 0 ∨ j = 1 ∨ j = 2 ∨ j = 3 by omega) with rfl | rfl | rfl | rfl <;> rfl) (Nat.le_of_ble_eq_true rfl) (Nat.le_of_ble_eq_true rfl) (fun ad69 e70 hg71 hE72 hn73 => ?_)
  refine n_nm (N2 := 9) (c2 := 8) (s2 := 73) rfl rfl rfl ?_
  have hq := (hg71 0 (by omega)).trans hq
  have qh74 := (hE72 0 (by omega)).trans qh68
  have qh75 := (hE72 1 (by omega)).trans hs66
  have hG00 : Gr 1 ad ad69 := fun j hj => (hg71 j (by omega)).trans (hG00 j hj)
  have hE00 : ∀ j, j < 1 → j ≠ 0 → j ≠ 1 → e70 j = ev j := fun j hj h1 h2 => (hE72 j (by omega)).trans (hE00 j hj h1 h2)
  have hGv10 : Gr 2 ad4 ad69 := fun j hj => (hg71 j (by omega)).trans (hGv10 j hj)
  have hGv28 : Gr 4 ad22 ad69 := fun j hj => (hg71 j (by omega)).trans (hGv28 j hj)
  have hEv28 : ∀ j, j < 4 → j ≠ 0 → j ≠ 1 → e70 j = e23 j := fun j hj h1 h2 => (hE72 j (by omega)).trans (hEv28 j hj h1 h2)
  have hGv46 : Gr 6 ad40 ad69 := fun j hj => (hg71 j (by omega)).trans (hGv46 j hj)
  have hEv46 : ∀ j, j < 6 → j ≠ 0 → j ≠ 1 → e70 j = e41 j := fun j hj h1 h2 => (hE72 j (by omega)).trans (hEv46 j hj h1 h2)
  have hGv64 : Gr 8 ad58 ad69 := fun j hj => (hg71 j (by omega)).trans (hGv64 j hj)
  have hEv64 : ∀ j, j < 8 → j ≠ 0 → j ≠ 1 → e70 j = e59 j := fun j hj h1 h2 => (hE72 j (by omega)).trans (hEv64 j hj h1 h2)
  refine n_st (st2 := [.ref (ad69 8), .ref q]) rfl ?_
  refine n_dup C dX5_init_58 rfl ?_
  refine n_callI (As := []) (rest := [.ref (ad69 8), .ref q]) C hX dX5_init_59 (TX3_init l (i := 8) rfl hn73) (cwI 0 C.2.2.2.2.1 gX5_init_X3_init rfl rfl rfl (C.2.2.2.2.1 _ (List.mem_of_getElem? (i := 18) rfl)) (C.2.2.2.2.1 _ (List.mem_of_getElem? (i := 39) rfl)) (C.2.2.2.2.1 _ (List.mem_of_getElem? (i := 40) rfl)) rfl cdX3_init.2 ⟨(Nat.le_of_ble_eq_true rfl), (Nat.le_of_ble_eq_true rfl)⟩) rfl rfl (Nat.le_of_ble_eq_true rfl) ⟨(Nat.le_of_ble_eq_true rfl), (Nat.le_of_ble_eq_true rfl)⟩ ?_
  rintro ad76 e77 hg78 ⟨hw8, hE79⟩
  refine n_pc (pc2 := 62) rfl ?_
  refine n_nm (N2 := 12) (c2 := 11) (s2 := 253) rfl rfl rfl ?_
  have hq := (hg78 0 (by omega)).trans hq
  have qh80 := (hE79 0 (by omega)).trans qh74
  have qh81 := (hE79 1 (by omega)).trans qh75
  have hG00 : Gr 1 ad ad76 := fun j hj => (hg78 j (by omega)).trans (hG00 j hj)
  have hE00 : ∀ j, j < 1 → j ≠ 0 → j ≠ 1 → e77 j = ev j := fun j hj h1 h2 => (hE79 j (by omega)).trans (hE00 j hj h1 h2)
  have hGv10 : Gr 2 ad4 ad76 := fun j hj => (hg78 j (by omega)).trans (hGv10 j hj)
  have hGv28 : Gr 4 ad22 ad76 := fun j hj => (hg78 j (by omega)).trans (hGv28 j hj)
  have hEv28 : ∀ j, j < 4 → j ≠ 0 → j ≠ 1 → e77 j = e23 j := fun j hj h1 h2 => (hE79 j (by omega)).trans (hEv28 j hj h1 h2)
  have hGv46 : Gr 6 ad40 ad76 := fun j hj => (hg78 j (by omega)).trans (hGv46 j hj)
  have hEv46 : ∀ j, j < 6 → j ≠ 0 → j ≠ 1 → e77 j = e41 j := fun j hj h1 h2 => (hE79 j (by omega)).trans (hEv46 j hj h1 h2)
  have hGv64 : Gr 8 ad58 ad76 := fun j hj => (hg78 j (by omega)).trans (hGv64 j hj)
  have hEv64 : ∀ j, j < 8 → j ≠ 0 → j ≠ 1 → e77 j = e59 j := fun j hj h1 h2 => (hE79 j (by omega)).trans (hEv64 j hj h1 h2)
  refine n_st (st2 := [.ref (ad76 8), .ref q]) (by rw [hg78 8 (by omega)]) ?_
  have hGv82 : Gr 12 ad76 ad76 := fun j hj => rfl
  have hEv82 : ∀ j, j < 12 → j ≠ 0 → j ≠ 1 → e77 j = e77 j := fun j hj h1 h2 => rfl
  refine n_rf1 hq ?_
  refine n_putF (k9 := 2) (fs2 := [.int (iI (max 0 (min 40 z))), .ref (ad4 1), .ref (ad76 8), .null, .int (iI 0), .null, .null, .null, .null]) C dX5_init_62 (by omega) qh80 hX5_init_X5 tyX5_ok nmX5 rfl (by decide) kX5_init_34 rfl hnm rfl rfl rfl (Nat.le_of_ble_eq_true rfl) rfl (fun e83 hs84 ho85 => ?_)
  have qh86 := (ho85 1 (by decide)).trans qh81
  have hE00 : ∀ j, j < 1 → j ≠ 0 → j ≠ 1 → e83 j = ev j := fun j hj h1 h2 => (ho85 j (by omega)).trans (hE00 j hj h1 h2)
  have hEv28 : ∀ j, j < 4 → j ≠ 0 → j ≠ 1 → e83 j = e23 j := fun j hj h1 h2 => (ho85 j (by omega)).trans (hEv28 j hj h1 h2)
  have hEv46 : ∀ j, j < 6 → j ≠ 0 → j ≠ 1 → e83 j = e41 j := fun j hj h1 h2 => (ho85 j (by omega)).trans (hEv46 j hj h1 h2)
  have hEv64 : ∀ j, j < 8 → j ≠ 0 → j ≠ 1 → e83 j = e59 j := fun j hj h1 h2 => (ho85 j (by omega)).trans (hEv64 j hj h1 h2)
  have hEv82 : ∀ j, j < 12 → j ≠ 0 → j ≠ 1 → e83 j = e77 j := fun j hj h1 h2 => (ho85 j (by omega)).trans (hEv82 j hj h1 h2)
  refine n_aload_n C dX5_init_65 0 rfl rfl ?_
  refine n_new (ci := 3) (fs := [.null, .null, .null, .int (iI 0)]) C dX5_init_66 hX5_init_X3 tyX3_ok (List.mem_of_getElem? (i := 16) rfl) (List.mem_of_getElem? (i := 17) rfl) (List.mem_of_getElem? (i := 18) rfl) rfl (by intro j hj; rcases (show j = 0 ∨ j = 1 ∨ j = 2 ∨ j = 3 by omega) with rfl | rfl | rfl | rfl <;> rfl) (Nat.le_of_ble_eq_true rfl) (Nat.le_of_ble_eq_true rfl) (fun ad87 e88 hg89 hE90 hn91 => ?_)
  refine n_nm (N2 := 13) (c2 := 12) (s2 := 257) rfl rfl rfl ?_
  have hq := (hg89 0 (by omega)).trans hq
  have qh92 := (hE90 0 (by omega)).trans hs84
  have qh93 := (hE90 1 (by omega)).trans qh86
  have hG00 : Gr 1 ad ad87 := fun j hj => (hg89 j (by omega)).trans (hG00 j hj)
  have hE00 : ∀ j, j < 1 → j ≠ 0 → j ≠ 1 → e88 j = ev j := fun j hj h1 h2 => (hE90 j (by omega)).trans (hE00 j hj h1 h2)
  have hGv10 : Gr 2 ad4 ad87 := fun j hj => (hg89 j (by omega)).trans (hGv10 j hj)
  have hGv28 : Gr 4 ad22 ad87 := fun j hj => (hg89 j (by omega)).trans (hGv28 j hj)
  have hEv28 : ∀ j, j < 4 → j ≠ 0 → j ≠ 1 → e88 j = e23 j := fun j hj h1 h2 => (hE90 j (by omega)).trans (hEv28 j hj h1 h2)
  have hGv46 : Gr 6 ad40 ad87 := fun j hj => (hg89 j (by omega)).trans (hGv46 j hj)
  have hEv46 : ∀ j, j < 6 → j ≠ 0 → j ≠ 1 → e88 j = e41 j := fun j hj h1 h2 => (hE90 j (by omega)).trans (hEv46 j hj h1 h2)
  have hGv64 : Gr 8 ad58 ad87 := fun j hj => (hg89 j (by omega)).trans (hGv64 j hj)
  have hEv64 : ∀ j, j < 8 → j ≠ 0 → j ≠ 1 → e88 j = e59 j := fun j hj h1 h2 => (hE90 j (by omega)).trans (hEv64 j hj h1 h2)
  have hGv82 : Gr 12 ad76 ad87 := fun j hj => (hg89 j (by omega)).trans (hGv82 j hj)
  have hEv82 : ∀ j, j < 12 → j ≠ 0 → j ≠ 1 → e88 j = e77 j := fun j hj h1 h2 => (hE90 j (by omega)).trans (hEv82 j hj h1 h2)
  refine n_st (st2 := [.ref (ad87 12), .ref q]) rfl ?_
  refine n_dup C dX5_init_69 rfl ?_
  refine n_callI (As := []) (rest := [.ref (ad87 12), .ref q]) C hX dX5_init_70 (TX3_init l (i := 12) rfl hn91) (cwI 0 C.2.2.2.2.1 gX5_init_X3_init rfl rfl rfl (C.2.2.2.2.1 _ (List.mem_of_getElem? (i := 18) rfl)) (C.2.2.2.2.1 _ (List.mem_of_getElem? (i := 39) rfl)) (C.2.2.2.2.1 _ (List.mem_of_getElem? (i := 40) rfl)) rfl cdX3_init.2 ⟨(Nat.le_of_ble_eq_true rfl), (Nat.le_of_ble_eq_true rfl)⟩) rfl rfl (Nat.le_of_ble_eq_true rfl) ⟨(Nat.le_of_ble_eq_true rfl), (Nat.le_of_ble_eq_true rfl)⟩ ?_
  rintro ad94 e95 hg96 ⟨hw12, hE97⟩
  refine n_pc (pc2 := 73) rfl ?_
  refine n_nm (N2 := 16) (c2 := 15) (s2 := 437) rfl rfl rfl ?_
  have hq := (hg96 0 (by omega)).trans hq
  have qh98 := (hE97 0 (by omega)).trans qh92
  have qh99 := (hE97 1 (by omega)).trans qh93
  have hG00 : Gr 1 ad ad94 := fun j hj => (hg96 j (by omega)).trans (hG00 j hj)
  have hE00 : ∀ j, j < 1 → j ≠ 0 → j ≠ 1 → e95 j = ev j := fun j hj h1 h2 => (hE97 j (by omega)).trans (hE00 j hj h1 h2)
  have hGv10 : Gr 2 ad4 ad94 := fun j hj => (hg96 j (by omega)).trans (hGv10 j hj)
  have hGv28 : Gr 4 ad22 ad94 := fun j hj => (hg96 j (by omega)).trans (hGv28 j hj)
  have hEv28 : ∀ j, j < 4 → j ≠ 0 → j ≠ 1 → e95 j = e23 j := fun j hj h1 h2 => (hE97 j (by omega)).trans (hEv28 j hj h1 h2)
  have hGv46 : Gr 6 ad40 ad94 := fun j hj => (hg96 j (by omega)).trans (hGv46 j hj)
  have hEv46 : ∀ j, j < 6 → j ≠ 0 → j ≠ 1 → e95 j = e41 j := fun j hj h1 h2 => (hE97 j (by omega)).trans (hEv46 j hj h1 h2)
  have hGv64 : Gr 8 ad58 ad94 := fun j hj => (hg96 j (by omega)).trans (hGv64 j hj)
  have hEv64 : ∀ j, j < 8 → j ≠ 0 → j ≠ 1 → e95 j = e59 j := fun j hj h1 h2 => (hE97 j (by omega)).trans (hEv64 j hj h1 h2)
  have hGv82 : Gr 12 ad76 ad94 := fun j hj => (hg96 j (by omega)).trans (hGv82 j hj)
  have hEv82 : ∀ j, j < 12 → j ≠ 0 → j ≠ 1 → e95 j = e77 j := fun j hj h1 h2 => (hE97 j (by omega)).trans (hEv82 j hj h1 h2)
  refine n_st (st2 := [.ref (ad94 12), .ref q]) (by rw [hg96 12 (by omega)]) ?_
  have hGv100 : Gr 16 ad94 ad94 := fun j hj => rfl
  have hEv100 : ∀ j, j < 16 → j ≠ 0 → j ≠ 1 → e95 j = e95 j := fun j hj h1 h2 => rfl
  refine n_rf1 hq ?_
  refine n_putF (k9 := 3) (fs2 := [.int (iI (max 0 (min 40 z))), .ref (ad4 1), .ref (ad76 8), .ref (ad94 12), .int (iI 0), .null, .null, .null, .null]) C dX5_init_73 (by omega) qh98 hX5_init_X5 tyX5_ok nmX5 rfl (by decide) kX5_init_38 rfl hnm rfl rfl rfl (Nat.le_of_ble_eq_true rfl) rfl (fun e101 hs102 ho103 => ?_)
  have qh104 := (ho103 1 (by decide)).trans qh99
  have hE00 : ∀ j, j < 1 → j ≠ 0 → j ≠ 1 → e101 j = ev j := fun j hj h1 h2 => (ho103 j (by omega)).trans (hE00 j hj h1 h2)
  have hEv28 : ∀ j, j < 4 → j ≠ 0 → j ≠ 1 → e101 j = e23 j := fun j hj h1 h2 => (ho103 j (by omega)).trans (hEv28 j hj h1 h2)
  have hEv46 : ∀ j, j < 6 → j ≠ 0 → j ≠ 1 → e101 j = e41 j := fun j hj h1 h2 => (ho103 j (by omega)).trans (hEv46 j hj h1 h2)
  have hEv64 : ∀ j, j < 8 → j ≠ 0 → j ≠ 1 → e101 j = e59 j := fun j hj h1 h2 => (ho103 j (by omega)).trans (hEv64 j hj h1 h2)
  have hEv82 : ∀ j, j < 12 → j ≠ 0 → j ≠ 1 → e101 j = e77 j := fun j hj h1 h2 => (ho103 j (by omega)).trans (hEv82 j hj h1 h2)
  have hEv100 : ∀ j, j < 16 → j ≠ 0 → j ≠ 1 → e101 j = e95 j := fun j hj h1 h2 => (ho103 j (by omega)).trans (hEv100 j hj h1 h2)
  refine n_aload_n C dX5_init_76 0 rfl rfl ?_
  refine n_iconst C dX5_init_77 ?_
  refine n_rf1 hq ?_
  refine n_put (k9 := 4) (fs2 := [.int (iI (max 0 (min 40 z))), .ref (ad4 1), .ref (ad76 8), .ref (ad94 12), .int (iI 0), .null, .null, .null, .null]) C dX5_init_78 (by omega) hs102 hX5_init_X5 tyX5_ok nmX5 rfl (by decide) kX5_init_41 rfl rfl rfl (Nat.le_of_ble_eq_true rfl) rfl (fun e105 hs106 ho107 => ?_)
  have qh108 := (ho107 1 (by decide)).trans qh104
  have hE00 : ∀ j, j < 1 → j ≠ 0 → j ≠ 1 → e105 j = ev j := fun j hj h1 h2 => (ho107 j (by omega)).trans (hE00 j hj h1 h2)
  have hEv28 : ∀ j, j < 4 → j ≠ 0 → j ≠ 1 → e105 j = e23 j := fun j hj h1 h2 => (ho107 j (by omega)).trans (hEv28 j hj h1 h2)
  have hEv46 : ∀ j, j < 6 → j ≠ 0 → j ≠ 1 → e105 j = e41 j := fun j hj h1 h2 => (ho107 j (by omega)).trans (hEv46 j hj h1 h2)
  have hEv64 : ∀ j, j < 8 → j ≠ 0 → j ≠ 1 → e105 j = e59 j := fun j hj h1 h2 => (ho107 j (by omega)).trans (hEv64 j hj h1 h2)
  have hEv82 : ∀ j, j < 12 → j ≠ 0 → j ≠ 1 → e105 j = e77 j := fun j hj h1 h2 => (ho107 j (by omega)).trans (hEv82 j hj h1 h2)
  have hEv100 : ∀ j, j < 16 → j ≠ 0 → j ≠ 1 → e105 j = e95 j := fun j hj h1 h2 => (ho107 j (by omega)).trans (hEv100 j hj h1 h2)
  refine n_aload_n C dX5_init_81 0 rfl rfl ?_
  refine n_new (ci := 0) (fs := [.null, .null, .null]) C dX5_init_82 hX5_init_X0 tyX0_ok (List.mem_of_getElem? (i := 22) rfl) (List.mem_of_getElem? (i := 23) rfl) (List.mem_of_getElem? (i := 24) rfl) rfl (by intro j hj; rcases (show j = 0 ∨ j = 1 ∨ j = 2 by omega) with rfl | rfl | rfl <;> rfl) (Nat.le_of_ble_eq_true rfl) (Nat.le_of_ble_eq_true rfl) (fun ad109 e110 hg111 hE112 hn113 => ?_)
  refine n_nm (N2 := 17) (c2 := 16) (s2 := 440) rfl rfl rfl ?_
  have hq := (hg111 0 (by omega)).trans hq
  have qh114 := (hE112 0 (by omega)).trans hs106
  have qh115 := (hE112 1 (by omega)).trans qh108
  have hG00 : Gr 1 ad ad109 := fun j hj => (hg111 j (by omega)).trans (hG00 j hj)
  have hE00 : ∀ j, j < 1 → j ≠ 0 → j ≠ 1 → e110 j = ev j := fun j hj h1 h2 => (hE112 j (by omega)).trans (hE00 j hj h1 h2)
  have hGv10 : Gr 2 ad4 ad109 := fun j hj => (hg111 j (by omega)).trans (hGv10 j hj)
  have hGv28 : Gr 4 ad22 ad109 := fun j hj => (hg111 j (by omega)).trans (hGv28 j hj)
  have hEv28 : ∀ j, j < 4 → j ≠ 0 → j ≠ 1 → e110 j = e23 j := fun j hj h1 h2 => (hE112 j (by omega)).trans (hEv28 j hj h1 h2)
  have hGv46 : Gr 6 ad40 ad109 := fun j hj => (hg111 j (by omega)).trans (hGv46 j hj)
  have hEv46 : ∀ j, j < 6 → j ≠ 0 → j ≠ 1 → e110 j = e41 j := fun j hj h1 h2 => (hE112 j (by omega)).trans (hEv46 j hj h1 h2)
  have hGv64 : Gr 8 ad58 ad109 := fun j hj => (hg111 j (by omega)).trans (hGv64 j hj)
  have hEv64 : ∀ j, j < 8 → j ≠ 0 → j ≠ 1 → e110 j = e59 j := fun j hj h1 h2 => (hE112 j (by omega)).trans (hEv64 j hj h1 h2)
  have hGv82 : Gr 12 ad76 ad109 := fun j hj => (hg111 j (by omega)).trans (hGv82 j hj)
  have hEv82 : ∀ j, j < 12 → j ≠ 0 → j ≠ 1 → e110 j = e77 j := fun j hj h1 h2 => (hE112 j (by omega)).trans (hEv82 j hj h1 h2)
  have hGv100 : Gr 16 ad94 ad109 := fun j hj => (hg111 j (by omega)).trans (hGv100 j hj)
  have hEv100 : ∀ j, j < 16 → j ≠ 0 → j ≠ 1 → e110 j = e95 j := fun j hj h1 h2 => (hE112 j (by omega)).trans (hEv100 j hj h1 h2)
  refine n_st (st2 := [.ref (ad109 16), .ref q]) rfl ?_
  refine n_dup C dX5_init_85 rfl ?_
  refine n_callI (As := []) (rest := [.ref (ad109 16), .ref q]) C hX dX5_init_86 (TX0_init l rfl hn113) (cwI 0 C.2.2.2.2.1 gX5_init_X0_init rfl rfl rfl (C.2.2.2.2.1 _ (List.mem_of_getElem? (i := 24) rfl)) (C.2.2.2.2.1 _ (List.mem_of_getElem? (i := 47) rfl)) (C.2.2.2.2.1 _ (List.mem_of_getElem? (i := 48) rfl)) rfl cdX0_init.2 ⟨(Nat.le_of_ble_eq_true rfl), (Nat.le_of_ble_eq_true rfl)⟩) rfl rfl (Nat.le_of_ble_eq_true rfl) ⟨(Nat.le_of_ble_eq_true rfl), (Nat.le_of_ble_eq_true rfl)⟩ ?_
  rintro ad116 e117 hg118 ⟨hw16, hE119⟩
  refine n_pc (pc2 := 89) rfl ?_
  refine n_nm (N2 := 43) (c2 := 42) (s2 := 906) rfl rfl rfl ?_
  have hq := (hg118 0 (by omega)).trans hq
  have qh120 := (hE119 0 (by omega)).trans qh114
  have qh121 := (hE119 1 (by omega)).trans qh115
  have hG00 : Gr 1 ad ad116 := fun j hj => (hg118 j (by omega)).trans (hG00 j hj)
  have hE00 : ∀ j, j < 1 → j ≠ 0 → j ≠ 1 → e117 j = ev j := fun j hj h1 h2 => (hE119 j (by omega)).trans (hE00 j hj h1 h2)
  have hGv10 : Gr 2 ad4 ad116 := fun j hj => (hg118 j (by omega)).trans (hGv10 j hj)
  have hGv28 : Gr 4 ad22 ad116 := fun j hj => (hg118 j (by omega)).trans (hGv28 j hj)
  have hEv28 : ∀ j, j < 4 → j ≠ 0 → j ≠ 1 → e117 j = e23 j := fun j hj h1 h2 => (hE119 j (by omega)).trans (hEv28 j hj h1 h2)
  have hGv46 : Gr 6 ad40 ad116 := fun j hj => (hg118 j (by omega)).trans (hGv46 j hj)
  have hEv46 : ∀ j, j < 6 → j ≠ 0 → j ≠ 1 → e117 j = e41 j := fun j hj h1 h2 => (hE119 j (by omega)).trans (hEv46 j hj h1 h2)
  have hGv64 : Gr 8 ad58 ad116 := fun j hj => (hg118 j (by omega)).trans (hGv64 j hj)
  have hEv64 : ∀ j, j < 8 → j ≠ 0 → j ≠ 1 → e117 j = e59 j := fun j hj h1 h2 => (hE119 j (by omega)).trans (hEv64 j hj h1 h2)
  have hGv82 : Gr 12 ad76 ad116 := fun j hj => (hg118 j (by omega)).trans (hGv82 j hj)
  have hEv82 : ∀ j, j < 12 → j ≠ 0 → j ≠ 1 → e117 j = e77 j := fun j hj h1 h2 => (hE119 j (by omega)).trans (hEv82 j hj h1 h2)
  have hGv100 : Gr 16 ad94 ad116 := fun j hj => (hg118 j (by omega)).trans (hGv100 j hj)
  have hEv100 : ∀ j, j < 16 → j ≠ 0 → j ≠ 1 → e117 j = e95 j := fun j hj h1 h2 => (hE119 j (by omega)).trans (hEv100 j hj h1 h2)
  refine n_st (st2 := [.ref (ad116 16), .ref q]) (by rw [hg118 16 (by omega)]) ?_
  have hGv122 : Gr 43 ad116 ad116 := fun j hj => rfl
  have hEv122 : ∀ j, j < 43 → j ≠ 0 → j ≠ 1 → e117 j = e117 j := fun j hj h1 h2 => rfl
  refine n_rf1 hq ?_
  refine n_putF (k9 := 5) (fs2 := [.int (iI (max 0 (min 40 z))), .ref (ad4 1), .ref (ad76 8), .ref (ad94 12), .int (iI 0), .ref (ad116 16), .null, .null, .null]) C dX5_init_89 (by omega) qh120 hX5_init_X5 tyX5_ok nmX5 rfl (by decide) kX5_init_47 rfl hnm rfl rfl rfl (Nat.le_of_ble_eq_true rfl) rfl (fun e123 hs124 ho125 => ?_)
  have qh126 := (ho125 1 (by decide)).trans qh121
  have hE00 : ∀ j, j < 1 → j ≠ 0 → j ≠ 1 → e123 j = ev j := fun j hj h1 h2 => (ho125 j (by omega)).trans (hE00 j hj h1 h2)
  have hEv28 : ∀ j, j < 4 → j ≠ 0 → j ≠ 1 → e123 j = e23 j := fun j hj h1 h2 => (ho125 j (by omega)).trans (hEv28 j hj h1 h2)
  have hEv46 : ∀ j, j < 6 → j ≠ 0 → j ≠ 1 → e123 j = e41 j := fun j hj h1 h2 => (ho125 j (by omega)).trans (hEv46 j hj h1 h2)
  have hEv64 : ∀ j, j < 8 → j ≠ 0 → j ≠ 1 → e123 j = e59 j := fun j hj h1 h2 => (ho125 j (by omega)).trans (hEv64 j hj h1 h2)
  have hEv82 : ∀ j, j < 12 → j ≠ 0 → j ≠ 1 → e123 j = e77 j := fun j hj h1 h2 => (ho125 j (by omega)).trans (hEv82 j hj h1 h2)
  have hEv100 : ∀ j, j < 16 → j ≠ 0 → j ≠ 1 → e123 j = e95 j := fun j hj h1 h2 => (ho125 j (by omega)).trans (hEv100 j hj h1 h2)
  have hEv122 : ∀ j, j < 43 → j ≠ 0 → j ≠ 1 → e123 j = e117 j := fun j hj h1 h2 => (ho125 j (by omega)).trans (hEv122 j hj h1 h2)
  refine n_aload_n C dX5_init_92 0 rfl rfl ?_
  refine n_new (ci := 1) (fs := [.null, .null, .null, .null, .null]) C dX5_init_93 hX5_init_X1 tyX1_ok (List.mem_of_getElem? (i := 26) rfl) (List.mem_of_getElem? (i := 27) rfl) (List.mem_of_getElem? (i := 28) rfl) rfl (by intro j hj; rcases (show j = 0 ∨ j = 1 ∨ j = 2 ∨ j = 3 ∨ j = 4 by omega) with rfl | rfl | rfl | rfl | rfl <;> rfl) (Nat.le_of_ble_eq_true rfl) (Nat.le_of_ble_eq_true rfl) (fun ad127 e128 hg129 hE130 hn131 => ?_)
  refine n_nm (N2 := 44) (c2 := 43) (s2 := 911) rfl rfl rfl ?_
  have hq := (hg129 0 (by omega)).trans hq
  have qh132 := (hE130 0 (by omega)).trans hs124
  have qh133 := (hE130 1 (by omega)).trans qh126
  have hG00 : Gr 1 ad ad127 := fun j hj => (hg129 j (by omega)).trans (hG00 j hj)
  have hE00 : ∀ j, j < 1 → j ≠ 0 → j ≠ 1 → e128 j = ev j := fun j hj h1 h2 => (hE130 j (by omega)).trans (hE00 j hj h1 h2)
  have hGv10 : Gr 2 ad4 ad127 := fun j hj => (hg129 j (by omega)).trans (hGv10 j hj)
  have hGv28 : Gr 4 ad22 ad127 := fun j hj => (hg129 j (by omega)).trans (hGv28 j hj)
  have hEv28 : ∀ j, j < 4 → j ≠ 0 → j ≠ 1 → e128 j = e23 j := fun j hj h1 h2 => (hE130 j (by omega)).trans (hEv28 j hj h1 h2)
  have hGv46 : Gr 6 ad40 ad127 := fun j hj => (hg129 j (by omega)).trans (hGv46 j hj)
  have hEv46 : ∀ j, j < 6 → j ≠ 0 → j ≠ 1 → e128 j = e41 j := fun j hj h1 h2 => (hE130 j (by omega)).trans (hEv46 j hj h1 h2)
  have hGv64 : Gr 8 ad58 ad127 := fun j hj => (hg129 j (by omega)).trans (hGv64 j hj)
  have hEv64 : ∀ j, j < 8 → j ≠ 0 → j ≠ 1 → e128 j = e59 j := fun j hj h1 h2 => (hE130 j (by omega)).trans (hEv64 j hj h1 h2)
  have hGv82 : Gr 12 ad76 ad127 := fun j hj => (hg129 j (by omega)).trans (hGv82 j hj)
  have hEv82 : ∀ j, j < 12 → j ≠ 0 → j ≠ 1 → e128 j = e77 j := fun j hj h1 h2 => (hE130 j (by omega)).trans (hEv82 j hj h1 h2)
  have hGv100 : Gr 16 ad94 ad127 := fun j hj => (hg129 j (by omega)).trans (hGv100 j hj)
  have hEv100 : ∀ j, j < 16 → j ≠ 0 → j ≠ 1 → e128 j = e95 j := fun j hj h1 h2 => (hE130 j (by omega)).trans (hEv100 j hj h1 h2)
  have hGv122 : Gr 43 ad116 ad127 := fun j hj => (hg129 j (by omega)).trans (hGv122 j hj)
  have hEv122 : ∀ j, j < 43 → j ≠ 0 → j ≠ 1 → e128 j = e117 j := fun j hj h1 h2 => (hE130 j (by omega)).trans (hEv122 j hj h1 h2)
  refine n_st (st2 := [.ref (ad127 43), .ref q]) rfl ?_
  refine n_dup C dX5_init_96 rfl ?_
  refine n_callI (As := []) (rest := [.ref (ad127 43), .ref q]) C hX dX5_init_97 (TX1_init l rfl hn131) (cwI 0 C.2.2.2.2.1 gX5_init_X1_init rfl rfl rfl (C.2.2.2.2.1 _ (List.mem_of_getElem? (i := 28) rfl)) (C.2.2.2.2.1 _ (List.mem_of_getElem? (i := 57) rfl)) (C.2.2.2.2.1 _ (List.mem_of_getElem? (i := 58) rfl)) rfl cdX1_init.2 ⟨(Nat.le_of_ble_eq_true rfl), (Nat.le_of_ble_eq_true rfl)⟩) rfl rfl (Nat.le_of_ble_eq_true rfl) ⟨(Nat.le_of_ble_eq_true rfl), (Nat.le_of_ble_eq_true rfl)⟩ ?_
  rintro ad134 e135 hg136 ⟨⟨hm1, hm2, hm3, ⟨x4, hm4⟩, ⟨x5, hm5⟩, ⟨x6, hm6⟩⟩, hE137⟩
  refine n_pc (pc2 := 100) rfl ?_
  refine n_nm (N2 := 57) (c2 := 56) (s2 := 970) rfl rfl rfl ?_
  have hq := (hg136 0 (by omega)).trans hq
  have qh138 := (hE137 0 (by omega)).trans qh132
  have qh139 := (hE137 1 (by omega)).trans qh133
  have hG00 : Gr 1 ad ad134 := fun j hj => (hg136 j (by omega)).trans (hG00 j hj)
  have hE00 : ∀ j, j < 1 → j ≠ 0 → j ≠ 1 → e135 j = ev j := fun j hj h1 h2 => (hE137 j (by omega)).trans (hE00 j hj h1 h2)
  have hGv10 : Gr 2 ad4 ad134 := fun j hj => (hg136 j (by omega)).trans (hGv10 j hj)
  have hGv28 : Gr 4 ad22 ad134 := fun j hj => (hg136 j (by omega)).trans (hGv28 j hj)
  have hEv28 : ∀ j, j < 4 → j ≠ 0 → j ≠ 1 → e135 j = e23 j := fun j hj h1 h2 => (hE137 j (by omega)).trans (hEv28 j hj h1 h2)
  have hGv46 : Gr 6 ad40 ad134 := fun j hj => (hg136 j (by omega)).trans (hGv46 j hj)
  have hEv46 : ∀ j, j < 6 → j ≠ 0 → j ≠ 1 → e135 j = e41 j := fun j hj h1 h2 => (hE137 j (by omega)).trans (hEv46 j hj h1 h2)
  have hGv64 : Gr 8 ad58 ad134 := fun j hj => (hg136 j (by omega)).trans (hGv64 j hj)
  have hEv64 : ∀ j, j < 8 → j ≠ 0 → j ≠ 1 → e135 j = e59 j := fun j hj h1 h2 => (hE137 j (by omega)).trans (hEv64 j hj h1 h2)
  have hGv82 : Gr 12 ad76 ad134 := fun j hj => (hg136 j (by omega)).trans (hGv82 j hj)
  have hEv82 : ∀ j, j < 12 → j ≠ 0 → j ≠ 1 → e135 j = e77 j := fun j hj h1 h2 => (hE137 j (by omega)).trans (hEv82 j hj h1 h2)
  have hGv100 : Gr 16 ad94 ad134 := fun j hj => (hg136 j (by omega)).trans (hGv100 j hj)
  have hEv100 : ∀ j, j < 16 → j ≠ 0 → j ≠ 1 → e135 j = e95 j := fun j hj h1 h2 => (hE137 j (by omega)).trans (hEv100 j hj h1 h2)
  have hGv122 : Gr 43 ad116 ad134 := fun j hj => (hg136 j (by omega)).trans (hGv122 j hj)
  have hEv122 : ∀ j, j < 43 → j ≠ 0 → j ≠ 1 → e135 j = e117 j := fun j hj h1 h2 => (hE137 j (by omega)).trans (hEv122 j hj h1 h2)
  refine n_st (st2 := [.ref (ad134 43), .ref q]) (by rw [hg136 43 (by omega)]) ?_
  have hGv140 : Gr 57 ad134 ad134 := fun j hj => rfl
  have hEv140 : ∀ j, j < 57 → j ≠ 0 → j ≠ 1 → e135 j = e135 j := fun j hj h1 h2 => rfl
  refine n_rf1 hq ?_
  refine n_putF (k9 := 6) (fs2 := [.int (iI (max 0 (min 40 z))), .ref (ad4 1), .ref (ad76 8), .ref (ad94 12), .int (iI 0), .ref (ad116 16), .ref (ad134 43), .null, .null]) C dX5_init_100 (by omega) qh138 hX5_init_X5 tyX5_ok nmX5 rfl (by decide) kX5_init_54 rfl hnm rfl rfl rfl (Nat.le_of_ble_eq_true rfl) rfl (fun e141 hs142 ho143 => ?_)
  have qh144 := (ho143 1 (by decide)).trans qh139
  have hE00 : ∀ j, j < 1 → j ≠ 0 → j ≠ 1 → e141 j = ev j := fun j hj h1 h2 => (ho143 j (by omega)).trans (hE00 j hj h1 h2)
  have hEv28 : ∀ j, j < 4 → j ≠ 0 → j ≠ 1 → e141 j = e23 j := fun j hj h1 h2 => (ho143 j (by omega)).trans (hEv28 j hj h1 h2)
  have hEv46 : ∀ j, j < 6 → j ≠ 0 → j ≠ 1 → e141 j = e41 j := fun j hj h1 h2 => (ho143 j (by omega)).trans (hEv46 j hj h1 h2)
  have hEv64 : ∀ j, j < 8 → j ≠ 0 → j ≠ 1 → e141 j = e59 j := fun j hj h1 h2 => (ho143 j (by omega)).trans (hEv64 j hj h1 h2)
  have hEv82 : ∀ j, j < 12 → j ≠ 0 → j ≠ 1 → e141 j = e77 j := fun j hj h1 h2 => (ho143 j (by omega)).trans (hEv82 j hj h1 h2)
  have hEv100 : ∀ j, j < 16 → j ≠ 0 → j ≠ 1 → e141 j = e95 j := fun j hj h1 h2 => (ho143 j (by omega)).trans (hEv100 j hj h1 h2)
  have hEv122 : ∀ j, j < 43 → j ≠ 0 → j ≠ 1 → e141 j = e117 j := fun j hj h1 h2 => (ho143 j (by omega)).trans (hEv122 j hj h1 h2)
  have hEv140 : ∀ j, j < 57 → j ≠ 0 → j ≠ 1 → e141 j = e135 j := fun j hj h1 h2 => (ho143 j (by omega)).trans (hEv140 j hj h1 h2)
  refine n_aload_n C dX5_init_103 0 rfl rfl ?_
  refine n_new (ci := 2) (fs := [.null, .int (iI 0)]) C dX5_init_104 hX5_init_X2 tyX2_ok (List.mem_of_getElem? (i := 12) rfl) (List.mem_of_getElem? (i := 14) rfl) (List.mem_of_getElem? (i := 15) rfl) rfl (by intro j hj; rcases (show j = 0 ∨ j = 1 by omega) with rfl | rfl <;> rfl) (Nat.le_of_ble_eq_true rfl) (Nat.le_of_ble_eq_true rfl) (fun ad145 e146 hg147 hE148 hn149 => ?_)
  refine n_nm (N2 := 58) (c2 := 57) (s2 := 972) rfl rfl rfl ?_
  have hq := (hg147 0 (by omega)).trans hq
  have qh150 := (hE148 0 (by omega)).trans hs142
  have qh151 := (hE148 1 (by omega)).trans qh144
  have hG00 : Gr 1 ad ad145 := fun j hj => (hg147 j (by omega)).trans (hG00 j hj)
  have hE00 : ∀ j, j < 1 → j ≠ 0 → j ≠ 1 → e146 j = ev j := fun j hj h1 h2 => (hE148 j (by omega)).trans (hE00 j hj h1 h2)
  have hGv10 : Gr 2 ad4 ad145 := fun j hj => (hg147 j (by omega)).trans (hGv10 j hj)
  have hGv28 : Gr 4 ad22 ad145 := fun j hj => (hg147 j (by omega)).trans (hGv28 j hj)
  have hEv28 : ∀ j, j < 4 → j ≠ 0 → j ≠ 1 → e146 j = e23 j := fun j hj h1 h2 => (hE148 j (by omega)).trans (hEv28 j hj h1 h2)
  have hGv46 : Gr 6 ad40 ad145 := fun j hj => (hg147 j (by omega)).trans (hGv46 j hj)
  have hEv46 : ∀ j, j < 6 → j ≠ 0 → j ≠ 1 → e146 j = e41 j := fun j hj h1 h2 => (hE148 j (by omega)).trans (hEv46 j hj h1 h2)
  have hGv64 : Gr 8 ad58 ad145 := fun j hj => (hg147 j (by omega)).trans (hGv64 j hj)
  have hEv64 : ∀ j, j < 8 → j ≠ 0 → j ≠ 1 → e146 j = e59 j := fun j hj h1 h2 => (hE148 j (by omega)).trans (hEv64 j hj h1 h2)
  have hGv82 : Gr 12 ad76 ad145 := fun j hj => (hg147 j (by omega)).trans (hGv82 j hj)
  have hEv82 : ∀ j, j < 12 → j ≠ 0 → j ≠ 1 → e146 j = e77 j := fun j hj h1 h2 => (hE148 j (by omega)).trans (hEv82 j hj h1 h2)
  have hGv100 : Gr 16 ad94 ad145 := fun j hj => (hg147 j (by omega)).trans (hGv100 j hj)
  have hEv100 : ∀ j, j < 16 → j ≠ 0 → j ≠ 1 → e146 j = e95 j := fun j hj h1 h2 => (hE148 j (by omega)).trans (hEv100 j hj h1 h2)
  have hGv122 : Gr 43 ad116 ad145 := fun j hj => (hg147 j (by omega)).trans (hGv122 j hj)
  have hEv122 : ∀ j, j < 43 → j ≠ 0 → j ≠ 1 → e146 j = e117 j := fun j hj h1 h2 => (hE148 j (by omega)).trans (hEv122 j hj h1 h2)
  have hGv140 : Gr 57 ad134 ad145 := fun j hj => (hg147 j (by omega)).trans (hGv140 j hj)
  have hEv140 : ∀ j, j < 57 → j ≠ 0 → j ≠ 1 → e146 j = e135 j := fun j hj h1 h2 => (hE148 j (by omega)).trans (hEv140 j hj h1 h2)
  refine n_st (st2 := [.ref (ad145 57), .ref q]) rfl ?_
  refine n_dup C dX5_init_107 rfl ?_
  refine n_bipush C dX5_init_108 (by decide) ?_
  refine n_st (st2 := [.int (iI ((123 : Nat) : Int)), .ref (ad145 57), .ref (ad145 57), .ref q]) rfl ?_
  refine n_callI (As := [.int (iI ((123 : Nat) : Int))]) (rest := [.ref (ad145 57), .ref q]) C hX dX5_init_110 (TX2_init l (i := 57) (cap := 123) rfl hn149 (by omega)) (cwI 1 C.2.2.2.2.1 gX5_init_X2_init rfl rfl rfl (C.2.2.2.2.1 _ (List.mem_of_getElem? (i := 15) rfl)) (C.2.2.2.2.1 _ (List.mem_of_getElem? (i := 32) rfl)) (C.2.2.2.2.1 _ (List.mem_of_getElem? (i := 33) rfl)) rfl cdX2_init.2 ⟨(Nat.le_of_ble_eq_true rfl), (Nat.le_of_ble_eq_true rfl)⟩) rfl rfl (Nat.le_of_ble_eq_true rfl) ⟨(Nat.le_of_ble_eq_true rfl), (Nat.le_of_ble_eq_true rfl)⟩ ?_
  rintro ad152 e153 hg154 ⟨hw57, hE155⟩
  refine n_pc (pc2 := 113) rfl ?_
  refine n_nm (N2 := 59) (c2 := 58) (s2 := 1095) rfl rfl rfl ?_
  have hq := (hg154 0 (by omega)).trans hq
  have qh156 := (hE155 0 (by omega)).trans qh150
  have qh157 := (hE155 1 (by omega)).trans qh151
  have hG00 : Gr 1 ad ad152 := fun j hj => (hg154 j (by omega)).trans (hG00 j hj)
  have hE00 : ∀ j, j < 1 → j ≠ 0 → j ≠ 1 → e153 j = ev j := fun j hj h1 h2 => (hE155 j (by omega)).trans (hE00 j hj h1 h2)
  have hGv10 : Gr 2 ad4 ad152 := fun j hj => (hg154 j (by omega)).trans (hGv10 j hj)
  have hGv28 : Gr 4 ad22 ad152 := fun j hj => (hg154 j (by omega)).trans (hGv28 j hj)
  have hEv28 : ∀ j, j < 4 → j ≠ 0 → j ≠ 1 → e153 j = e23 j := fun j hj h1 h2 => (hE155 j (by omega)).trans (hEv28 j hj h1 h2)
  have hGv46 : Gr 6 ad40 ad152 := fun j hj => (hg154 j (by omega)).trans (hGv46 j hj)
  have hEv46 : ∀ j, j < 6 → j ≠ 0 → j ≠ 1 → e153 j = e41 j := fun j hj h1 h2 => (hE155 j (by omega)).trans (hEv46 j hj h1 h2)
  have hGv64 : Gr 8 ad58 ad152 := fun j hj => (hg154 j (by omega)).trans (hGv64 j hj)
  have hEv64 : ∀ j, j < 8 → j ≠ 0 → j ≠ 1 → e153 j = e59 j := fun j hj h1 h2 => (hE155 j (by omega)).trans (hEv64 j hj h1 h2)
  have hGv82 : Gr 12 ad76 ad152 := fun j hj => (hg154 j (by omega)).trans (hGv82 j hj)
  have hEv82 : ∀ j, j < 12 → j ≠ 0 → j ≠ 1 → e153 j = e77 j := fun j hj h1 h2 => (hE155 j (by omega)).trans (hEv82 j hj h1 h2)
  have hGv100 : Gr 16 ad94 ad152 := fun j hj => (hg154 j (by omega)).trans (hGv100 j hj)
  have hEv100 : ∀ j, j < 16 → j ≠ 0 → j ≠ 1 → e153 j = e95 j := fun j hj h1 h2 => (hE155 j (by omega)).trans (hEv100 j hj h1 h2)
  have hGv122 : Gr 43 ad116 ad152 := fun j hj => (hg154 j (by omega)).trans (hGv122 j hj)
  have hEv122 : ∀ j, j < 43 → j ≠ 0 → j ≠ 1 → e153 j = e117 j := fun j hj h1 h2 => (hE155 j (by omega)).trans (hEv122 j hj h1 h2)
  have hGv140 : Gr 57 ad134 ad152 := fun j hj => (hg154 j (by omega)).trans (hGv140 j hj)
  have hEv140 : ∀ j, j < 57 → j ≠ 0 → j ≠ 1 → e153 j = e135 j := fun j hj h1 h2 => (hE155 j (by omega)).trans (hEv140 j hj h1 h2)
  refine n_st (st2 := [.ref (ad152 57), .ref q]) (by rw [hg154 57 (by omega)]) ?_
  have hGv158 : Gr 59 ad152 ad152 := fun j hj => rfl
  have hEv158 : ∀ j, j < 59 → j ≠ 0 → j ≠ 1 → e153 j = e153 j := fun j hj h1 h2 => rfl
  refine n_rf1 hq ?_
  refine n_put (k9 := 7) (fs2 := [.int (iI (max 0 (min 40 z))), .ref (ad4 1), .ref (ad76 8), .ref (ad94 12), .int (iI 0), .ref (ad116 16), .ref (ad134 43), .ref (ad152 57), .null]) C dX5_init_113 (by omega) qh156 hX5_init_X5 tyX5_ok nmX5 rfl (by decide) kX5_init_58 rfl rfl rfl (Nat.le_of_ble_eq_true rfl) rfl (fun e159 hs160 ho161 => ?_)
  have qh162 := (ho161 1 (by decide)).trans qh157
  have hE00 : ∀ j, j < 1 → j ≠ 0 → j ≠ 1 → e159 j = ev j := fun j hj h1 h2 => (ho161 j (by omega)).trans (hE00 j hj h1 h2)
  have hEv28 : ∀ j, j < 4 → j ≠ 0 → j ≠ 1 → e159 j = e23 j := fun j hj h1 h2 => (ho161 j (by omega)).trans (hEv28 j hj h1 h2)
  have hEv46 : ∀ j, j < 6 → j ≠ 0 → j ≠ 1 → e159 j = e41 j := fun j hj h1 h2 => (ho161 j (by omega)).trans (hEv46 j hj h1 h2)
  have hEv64 : ∀ j, j < 8 → j ≠ 0 → j ≠ 1 → e159 j = e59 j := fun j hj h1 h2 => (ho161 j (by omega)).trans (hEv64 j hj h1 h2)
  have hEv82 : ∀ j, j < 12 → j ≠ 0 → j ≠ 1 → e159 j = e77 j := fun j hj h1 h2 => (ho161 j (by omega)).trans (hEv82 j hj h1 h2)
  have hEv100 : ∀ j, j < 16 → j ≠ 0 → j ≠ 1 → e159 j = e95 j := fun j hj h1 h2 => (ho161 j (by omega)).trans (hEv100 j hj h1 h2)
  have hEv122 : ∀ j, j < 43 → j ≠ 0 → j ≠ 1 → e159 j = e117 j := fun j hj h1 h2 => (ho161 j (by omega)).trans (hEv122 j hj h1 h2)
  have hEv140 : ∀ j, j < 57 → j ≠ 0 → j ≠ 1 → e159 j = e135 j := fun j hj h1 h2 => (ho161 j (by omega)).trans (hEv140 j hj h1 h2)
  have hEv158 : ∀ j, j < 59 → j ≠ 0 → j ≠ 1 → e159 j = e153 j := fun j hj h1 h2 => (ho161 j (by omega)).trans (hEv158 j hj h1 h2)
  refine n_aload_n C dX5_init_116 0 rfl rfl ?_
  refine n_new (ci := 2) (fs := [.null, .int (iI 0)]) C dX5_init_117 hX5_init_X2 tyX2_ok (List.mem_of_getElem? (i := 12) rfl) (List.mem_of_getElem? (i := 14) rfl) (List.mem_of_getElem? (i := 15) rfl) rfl (by intro j hj; rcases (show j = 0 ∨ j = 1 by omega) with rfl | rfl <;> rfl) (Nat.le_of_ble_eq_true rfl) (Nat.le_of_ble_eq_true rfl) (fun ad163 e164 hg165 hE166 hn167 => ?_)
  refine n_nm (N2 := 60) (c2 := 59) (s2 := 1097) rfl rfl rfl ?_
  have hq := (hg165 0 (by omega)).trans hq
  have qh168 := (hE166 0 (by omega)).trans hs160
  have qh169 := (hE166 1 (by omega)).trans qh162
  have hG00 : Gr 1 ad ad163 := fun j hj => (hg165 j (by omega)).trans (hG00 j hj)
  have hE00 : ∀ j, j < 1 → j ≠ 0 → j ≠ 1 → e164 j = ev j := fun j hj h1 h2 => (hE166 j (by omega)).trans (hE00 j hj h1 h2)
  have hGv10 : Gr 2 ad4 ad163 := fun j hj => (hg165 j (by omega)).trans (hGv10 j hj)
  have hGv28 : Gr 4 ad22 ad163 := fun j hj => (hg165 j (by omega)).trans (hGv28 j hj)
  have hEv28 : ∀ j, j < 4 → j ≠ 0 → j ≠ 1 → e164 j = e23 j := fun j hj h1 h2 => (hE166 j (by omega)).trans (hEv28 j hj h1 h2)
  have hGv46 : Gr 6 ad40 ad163 := fun j hj => (hg165 j (by omega)).trans (hGv46 j hj)
  have hEv46 : ∀ j, j < 6 → j ≠ 0 → j ≠ 1 → e164 j = e41 j := fun j hj h1 h2 => (hE166 j (by omega)).trans (hEv46 j hj h1 h2)
  have hGv64 : Gr 8 ad58 ad163 := fun j hj => (hg165 j (by omega)).trans (hGv64 j hj)
  have hEv64 : ∀ j, j < 8 → j ≠ 0 → j ≠ 1 → e164 j = e59 j := fun j hj h1 h2 => (hE166 j (by omega)).trans (hEv64 j hj h1 h2)
  have hGv82 : Gr 12 ad76 ad163 := fun j hj => (hg165 j (by omega)).trans (hGv82 j hj)
  have hEv82 : ∀ j, j < 12 → j ≠ 0 → j ≠ 1 → e164 j = e77 j := fun j hj h1 h2 => (hE166 j (by omega)).trans (hEv82 j hj h1 h2)
  have hGv100 : Gr 16 ad94 ad163 := fun j hj => (hg165 j (by omega)).trans (hGv100 j hj)
  have hEv100 : ∀ j, j < 16 → j ≠ 0 → j ≠ 1 → e164 j = e95 j := fun j hj h1 h2 => (hE166 j (by omega)).trans (hEv100 j hj h1 h2)
  have hGv122 : Gr 43 ad116 ad163 := fun j hj => (hg165 j (by omega)).trans (hGv122 j hj)
  have hEv122 : ∀ j, j < 43 → j ≠ 0 → j ≠ 1 → e164 j = e117 j := fun j hj h1 h2 => (hE166 j (by omega)).trans (hEv122 j hj h1 h2)
  have hGv140 : Gr 57 ad134 ad163 := fun j hj => (hg165 j (by omega)).trans (hGv140 j hj)
  have hEv140 : ∀ j, j < 57 → j ≠ 0 → j ≠ 1 → e164 j = e135 j := fun j hj h1 h2 => (hE166 j (by omega)).trans (hEv140 j hj h1 h2)
  have hGv158 : Gr 59 ad152 ad163 := fun j hj => (hg165 j (by omega)).trans (hGv158 j hj)
  have hEv158 : ∀ j, j < 59 → j ≠ 0 → j ≠ 1 → e164 j = e153 j := fun j hj h1 h2 => (hE166 j (by omega)).trans (hEv158 j hj h1 h2)
  refine n_st (st2 := [.ref (ad163 59), .ref q]) rfl ?_
  refine n_dup C dX5_init_120 rfl ?_
  refine n_bipush C dX5_init_121 (by decide) ?_
  refine n_st (st2 := [.int (iI ((123 : Nat) : Int)), .ref (ad163 59), .ref (ad163 59), .ref q]) rfl ?_
  refine n_callI (As := [.int (iI ((123 : Nat) : Int))]) (rest := [.ref (ad163 59), .ref q]) C hX dX5_init_123 (TX2_init l (i := 59) (cap := 123) rfl hn167 (by omega)) (cwI 1 C.2.2.2.2.1 gX5_init_X2_init rfl rfl rfl (C.2.2.2.2.1 _ (List.mem_of_getElem? (i := 15) rfl)) (C.2.2.2.2.1 _ (List.mem_of_getElem? (i := 32) rfl)) (C.2.2.2.2.1 _ (List.mem_of_getElem? (i := 33) rfl)) rfl cdX2_init.2 ⟨(Nat.le_of_ble_eq_true rfl), (Nat.le_of_ble_eq_true rfl)⟩) rfl rfl (Nat.le_of_ble_eq_true rfl) ⟨(Nat.le_of_ble_eq_true rfl), (Nat.le_of_ble_eq_true rfl)⟩ ?_
  rintro ad170 e171 hg172 ⟨hw59, hE173⟩
  refine n_pc (pc2 := 126) rfl ?_
  refine n_nm (N2 := 61) (c2 := 60) (s2 := 1220) rfl rfl rfl ?_
  have hq := (hg172 0 (by omega)).trans hq
  have qh174 := (hE173 0 (by omega)).trans qh168
  have qh175 := (hE173 1 (by omega)).trans qh169
  have hG00 : Gr 1 ad ad170 := fun j hj => (hg172 j (by omega)).trans (hG00 j hj)
  have hE00 : ∀ j, j < 1 → j ≠ 0 → j ≠ 1 → e171 j = ev j := fun j hj h1 h2 => (hE173 j (by omega)).trans (hE00 j hj h1 h2)
  have hGv10 : Gr 2 ad4 ad170 := fun j hj => (hg172 j (by omega)).trans (hGv10 j hj)
  have hGv28 : Gr 4 ad22 ad170 := fun j hj => (hg172 j (by omega)).trans (hGv28 j hj)
  have hEv28 : ∀ j, j < 4 → j ≠ 0 → j ≠ 1 → e171 j = e23 j := fun j hj h1 h2 => (hE173 j (by omega)).trans (hEv28 j hj h1 h2)
  have hGv46 : Gr 6 ad40 ad170 := fun j hj => (hg172 j (by omega)).trans (hGv46 j hj)
  have hEv46 : ∀ j, j < 6 → j ≠ 0 → j ≠ 1 → e171 j = e41 j := fun j hj h1 h2 => (hE173 j (by omega)).trans (hEv46 j hj h1 h2)
  have hGv64 : Gr 8 ad58 ad170 := fun j hj => (hg172 j (by omega)).trans (hGv64 j hj)
  have hEv64 : ∀ j, j < 8 → j ≠ 0 → j ≠ 1 → e171 j = e59 j := fun j hj h1 h2 => (hE173 j (by omega)).trans (hEv64 j hj h1 h2)
  have hGv82 : Gr 12 ad76 ad170 := fun j hj => (hg172 j (by omega)).trans (hGv82 j hj)
  have hEv82 : ∀ j, j < 12 → j ≠ 0 → j ≠ 1 → e171 j = e77 j := fun j hj h1 h2 => (hE173 j (by omega)).trans (hEv82 j hj h1 h2)
  have hGv100 : Gr 16 ad94 ad170 := fun j hj => (hg172 j (by omega)).trans (hGv100 j hj)
  have hEv100 : ∀ j, j < 16 → j ≠ 0 → j ≠ 1 → e171 j = e95 j := fun j hj h1 h2 => (hE173 j (by omega)).trans (hEv100 j hj h1 h2)
  have hGv122 : Gr 43 ad116 ad170 := fun j hj => (hg172 j (by omega)).trans (hGv122 j hj)
  have hEv122 : ∀ j, j < 43 → j ≠ 0 → j ≠ 1 → e171 j = e117 j := fun j hj h1 h2 => (hE173 j (by omega)).trans (hEv122 j hj h1 h2)
  have hGv140 : Gr 57 ad134 ad170 := fun j hj => (hg172 j (by omega)).trans (hGv140 j hj)
  have hEv140 : ∀ j, j < 57 → j ≠ 0 → j ≠ 1 → e171 j = e135 j := fun j hj h1 h2 => (hE173 j (by omega)).trans (hEv140 j hj h1 h2)
  have hGv158 : Gr 59 ad152 ad170 := fun j hj => (hg172 j (by omega)).trans (hGv158 j hj)
  have hEv158 : ∀ j, j < 59 → j ≠ 0 → j ≠ 1 → e171 j = e153 j := fun j hj h1 h2 => (hE173 j (by omega)).trans (hEv158 j hj h1 h2)
  refine n_st (st2 := [.ref (ad170 59), .ref q]) (by rw [hg172 59 (by omega)]) ?_
  have hGv176 : Gr 61 ad170 ad170 := fun j hj => rfl
  have hEv176 : ∀ j, j < 61 → j ≠ 0 → j ≠ 1 → e171 j = e171 j := fun j hj h1 h2 => rfl
  refine n_rf1 hq ?_
  refine n_put (k9 := 8) (fs2 := [.int (iI (max 0 (min 40 z))), .ref (ad4 1), .ref (ad76 8), .ref (ad94 12), .int (iI 0), .ref (ad116 16), .ref (ad134 43), .ref (ad152 57), .ref (ad170 59)]) C dX5_init_126 (by omega) qh174 hX5_init_X5 tyX5_ok nmX5 rfl (by decide) kX5_init_62 rfl rfl rfl (Nat.le_of_ble_eq_true rfl) rfl (fun e177 hs178 ho179 => ?_)
  have qh180 := (ho179 1 (by decide)).trans qh175
  have hE00 : ∀ j, j < 1 → j ≠ 0 → j ≠ 1 → e177 j = ev j := fun j hj h1 h2 => (ho179 j (by omega)).trans (hE00 j hj h1 h2)
  have hEv28 : ∀ j, j < 4 → j ≠ 0 → j ≠ 1 → e177 j = e23 j := fun j hj h1 h2 => (ho179 j (by omega)).trans (hEv28 j hj h1 h2)
  have hEv46 : ∀ j, j < 6 → j ≠ 0 → j ≠ 1 → e177 j = e41 j := fun j hj h1 h2 => (ho179 j (by omega)).trans (hEv46 j hj h1 h2)
  have hEv64 : ∀ j, j < 8 → j ≠ 0 → j ≠ 1 → e177 j = e59 j := fun j hj h1 h2 => (ho179 j (by omega)).trans (hEv64 j hj h1 h2)
  have hEv82 : ∀ j, j < 12 → j ≠ 0 → j ≠ 1 → e177 j = e77 j := fun j hj h1 h2 => (ho179 j (by omega)).trans (hEv82 j hj h1 h2)
  have hEv100 : ∀ j, j < 16 → j ≠ 0 → j ≠ 1 → e177 j = e95 j := fun j hj h1 h2 => (ho179 j (by omega)).trans (hEv100 j hj h1 h2)
  have hEv122 : ∀ j, j < 43 → j ≠ 0 → j ≠ 1 → e177 j = e117 j := fun j hj h1 h2 => (ho179 j (by omega)).trans (hEv122 j hj h1 h2)
  have hEv140 : ∀ j, j < 57 → j ≠ 0 → j ≠ 1 → e177 j = e135 j := fun j hj h1 h2 => (ho179 j (by omega)).trans (hEv140 j hj h1 h2)
  have hEv158 : ∀ j, j < 59 → j ≠ 0 → j ≠ 1 → e177 j = e153 j := fun j hj h1 h2 => (ho179 j (by omega)).trans (hEv158 j hj h1 h2)
  have hEv176 : ∀ j, j < 61 → j ≠ 0 → j ≠ 1 → e177 j = e171 j := fun j hj h1 h2 => (ho179 j (by omega)).trans (hEv176 j hj h1 h2)
  have hq0 := hGv28 2 (by omega)
  have hq1 := hGv46 4 (by omega)
  have hq2 := hGv64 6 (by omega)
  have d0 : e177 0 = .inr (5, [.int (iI (max 0 (min 40 z))), .ref (ad170 1), .ref (ad170 8), .ref (ad170 12), .int (iI ((0 : Nat) : Int)), .ref (ad170 16), .ref (ad170 43), .ref (ad170 57), .ref (ad170 59)]) := hs178.trans (by rw [hGv10 1 (by omega), hGv82 8 (by omega), hGv100 12 (by omega), hGv122 16 (by omega), hGv140 43 (by omega), hGv158 57 (by omega)]; rfl)
  have hcm : CmpAt G (fun k => ad170 (sg k)) (fun k => e177 (sg k)) 39 40 (fun _ _ => 0) := ⟨(hEv122 16 (by omega) (by omega) (by omega)).trans (hw16.1.trans (by rw [← hGv122 17 (by omega), ← hGv122 39 (by omega), ← hGv122 41 (by omega)]; rfl)), ((hEv122 17 (by omega) (by omega) (by omega)).trans hw16.2.1).trans (by
      congr 7
      funext i9
      by_cases h9 : i9 < 21
      · rw [if_pos h9, if_pos h9]
        show some _ = some (ad170 (sg (18 + i9)))
        rw [sg_lo (by omega), hGv122 (18 + i9) (by omega)]
      · rw [if_neg h9, if_neg h9]), fun i9 h9 => by
      show e177 (sg (18 + i9)) = _
      rw [sg_lo (by omega)]
      exact (hEv122 (18 + i9) (by omega) (by omega) (by omega)).trans (hw16.2.2 i9 h9)⟩
  have hwk : WrkAt G (fun k => ad170 (sg k)) (fun k => e177 (sg k)) := ⟨⟨39, 40, _, hcm⟩, (hEv140 43 (by omega) (by omega) (by omega)).trans (hm1.trans (by rw [← hGv140 44 (by omega), ← hGv140 46 (by omega), ← hGv140 48 (by omega), ← hGv140 51 (by omega), ← hGv140 54 (by omega)]; rfl)), ⟨[], (hm2.to (hGv140 45 (by omega)) (hEv140 44 (by omega) (by omega) (by omega)) (hEv140 45 (by omega) (by omega) (by omega)))⟩, ⟨[], (hm3.to (hGv140 47 (by omega)) (hEv140 46 (by omega) (by omega) (by omega)) (hEv140 47 (by omega) (by omega) (by omega)))⟩, ⟨x4, 0, 0, (hEv140 48 (by omega) (by omega) (by omega)).trans hm4⟩, ⟨x5, 0, 0, (hEv140 51 (by omega) (by omega) (by omega)).trans hm5⟩, ⟨x6, 0, 0, (hEv140 54 (by omega) (by omega) (by omega)).trans hm6⟩⟩
  exact n_vretA C hr dX5_init_129 hG00 (⟨⟨49, 51, [], _, ⟨by omega, by omega, by omega, fun j t h => by simp at h, Or.inl ⟨rfl, rfl⟩⟩, d0, qh180, fun j hj => by
      rcases (show j = 0 ∨ j = 1 ∨ j = 2 by omega) with rfl | rfl | rfl
      · exact congrArg some hq0.symm
      · exact congrArg some hq1.symm
      · exact congrArg some hq2.symm, fun j hj => by
      rcases (show j = 0 ∨ j = 1 ∨ j = 2 by omega) with rfl | rfl | rfl
      · exact (hw2.to (hGv28 3 (by omega)) (hEv28 2 (by omega) (by omega) (by omega)) (hEv28 3 (by omega) (by omega) (by omega)))
      · exact (hw4.to (hGv46 5 (by omega)) (hEv46 4 (by omega) (by omega) (by omega)) (hEv46 5 (by omega) (by omega) (by omega)))
      · exact (hw6.to (hGv64 7 (by omega)) (hEv64 6 (by omega) (by omega) (by omega)) (hEv64 7 (by omega) (by omega) (by omega))), (hw8.mv (fun j h1 h2 => by show ad170 (sg j) = _; rw [sg_lo (by omega)]; exact hGv82 j (by omega)) (fun j h1 h2 => by show e177 (sg j) = _; rw [sg_lo (by omega)]; exact hEv82 j (by omega) (by omega) (by omega))), (hw12.mv (fun j h1 h2 => by show ad170 (sg j) = _; rw [sg_lo (by omega)]; exact hGv100 j (by omega)) (fun j h1 h2 => by show e177 (sg j) = _; rw [sg_lo (by omega)]; exact hEv100 j (by omega) (by omega) (by omega))), hwk, (hw57.to (hGv158 58 (by omega)) (hEv158 57 (by omega) (by omega) (by omega)) (hEv158 58 (by omega) (by omega) (by omega))), (hw59.to (hGv176 60 (by omega)) (hEv176 59 (by omega) (by omega) (by omega)) (hEv176 60 (by omega) (by omega) (by omega)))⟩, hcm⟩)
