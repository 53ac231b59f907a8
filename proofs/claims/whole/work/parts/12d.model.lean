set_option maxHeartbeats 4000000 in
set_option maxRecDepth 100000 in
theorem TX6_init (l : Launch) {G : GG} {ad : Nat → Nat} {ev : Nat → va_E} {q : Nat} {z : Int} (hq : ad 53 = q) (he : ev 53 = .inr (6, [.int (iI 0), .int (iI 0), .null, .null, .int (iI 0), .null, .null, .null, .int (bI false), .int (iI 0), .int (iI 0), .null, .null, .int (iI 0), .null, .null, .null, .null, .null])) (hza : -2147483648 ≤ z) (hzb : z < 2147483648) : Ca l yX6_init wsX6_init rmX6_init [.ref q, .int (iI z)] G (54) (66) ad ev 12 976 (fun ad2 e2 => MdlAt G ad2 e2 (max 0 (min 40 z)) 0 (fun _ => []) [] [] 0 [] ∧ ∀ j, j < 53 → e2 j = ev j) := by
  refine Ca_of (cc := cX6_init) (maxL := 2) (ret := none) (lv := [(0, .ref q), (1, .int (iI z))]) (by decide) rfl (Nat.le_of_ble_eq_true rfl) rfl ?_
  intro p E s m args below meth c A C hr hnm hX
  have hG00 : Gr (54) ad ad := fun j hj => rfl
  have hE00 : ∀ j, j < 54 → j ≠ 53 → ev j = ev j := fun j hj h1 => rfl
  refine n_aload_n C dX6_init_0 0 rfl rfl ?_
  refine n_objI C dX6_init_1 (List.mem_of_getElem? (i := 1) rfl) (List.mem_of_getElem? (i := 2) rfl) (List.mem_of_getElem? (i := 3) rfl) (Nat.le_of_ble_eq_true rfl) (Nat.le_of_ble_eq_true rfl) ?_
  refine n_st (st2 := []) rfl ?_
  refine n_aload_n C dX6_init_4 0 rfl rfl ?_
  refine n_iconst C dX6_init_5 ?_
  refine n_st (st2 := [.int (iI ((3 : Nat) : Int)), .ref q]) rfl ?_
  refine n_newI (n := 3) C dX6_init_6 (List.mem_of_getElem? (i := 4) rfl) (Nat.le_of_ble_eq_true rfl) (Nat.le_of_ble_eq_true rfl) (Nat.le_of_ble_eq_true rfl) (fun ad1 e2 hg3 hE4 hn5 => ?_)
  refine n_nm (N2 := 55) (c2 := 1) (s2 := 3) rfl rfl rfl ?_
  have hq := (hg3 53 (by omega)).trans hq
  have qh6 := (hE4 53 (by omega)).trans he
  have hG00 : Gr 54 ad ad1 := fun j hj => (hg3 j (by omega)).trans (hG00 j hj)
  have hE00 : ∀ j, j < 54 → j ≠ 53 → e2 j = ev j := fun j hj h1 => (hE4 j (by omega)).trans (hE00 j hj h1)
  have hGv7 : Gr 55 ad1 ad1 := fun j hj => rfl
  have hEv7 : ∀ j, j < 55 → j ≠ 53 → e2 j = e2 j := fun j hj h1 => rfl
  refine n_st (st2 := [.ref (ad1 54), .ref q]) rfl ?_
  refine n_rf1 hq ?_
  refine n_putF (k9 := 2) (fs2 := [.int (iI 0), .int (iI 0), .ref (ad1 54), .null, .int (iI 0), .null, .null, .null, .int (bI false), .int (iI 0), .int (iI 0), .null, .null, .int (iI 0), .null, .null, .null, .null, .null]) C dX6_init_8 (by omega) qh6 hX6_init_X6 tyX6_ok nmX6 rfl (by decide) kX6_init_7 rfl hnm rfl rfl rfl (Nat.le_of_ble_eq_true rfl) rfl (fun e8 hs9 ho10 => ?_)
  have hE00 : ∀ j, j < 54 → j ≠ 53 → e8 j = ev j := fun j hj h1 => (ho10 j (by omega)).trans (hE00 j hj h1)
  have hEv7 : ∀ j, j < 55 → j ≠ 53 → e8 j = e2 j := fun j hj h1 => (ho10 j (by omega)).trans (hEv7 j hj h1)
  refine n_aload_n C dX6_init_11 0 rfl rfl ?_
  refine n_bipush C dX6_init_12 (by decide) ?_
  refine n_st (st2 := [.int (iI ((60 : Nat) : Int)), .ref q]) rfl ?_
  refine n_newI (n := 60) C dX6_init_14 (List.mem_of_getElem? (i := 4) rfl) (Nat.le_of_ble_eq_true rfl) (Nat.le_of_ble_eq_true rfl) (Nat.le_of_ble_eq_true rfl) (fun ad11 e12 hg13 hE14 hn15 => ?_)
  refine n_nm (N2 := 56) (c2 := 2) (s2 := 63) rfl rfl rfl ?_
  have hq := (hg13 53 (by omega)).trans hq
  have qh16 := (hE14 53 (by omega)).trans hs9
  have hG00 : Gr 54 ad ad11 := fun j hj => (hg13 j (by omega)).trans (hG00 j hj)
  have hE00 : ∀ j, j < 54 → j ≠ 53 → e12 j = ev j := fun j hj h1 => (hE14 j (by omega)).trans (hE00 j hj h1)
  have hGv7 : Gr 55 ad1 ad11 := fun j hj => (hg13 j (by omega)).trans (hGv7 j hj)
  have hEv7 : ∀ j, j < 55 → j ≠ 53 → e12 j = e2 j := fun j hj h1 => (hE14 j (by omega)).trans (hEv7 j hj h1)
  have hGv17 : Gr 56 ad11 ad11 := fun j hj => rfl
  have hEv17 : ∀ j, j < 56 → j ≠ 53 → e12 j = e12 j := fun j hj h1 => rfl
  refine n_st (st2 := [.ref (ad11 55), .ref q]) rfl ?_
  refine n_rf1 hq ?_
  refine n_putF (k9 := 3) (fs2 := [.int (iI 0), .int (iI 0), .ref (ad1 54), .ref (ad11 55), .int (iI 0), .null, .null, .null, .int (bI false), .int (iI 0), .int (iI 0), .null, .null, .int (iI 0), .null, .null, .null, .null, .null]) C dX6_init_16 (by omega) qh16 hX6_init_X6 tyX6_ok nmX6 rfl (by decide) kX6_init_13 rfl hnm rfl rfl rfl (Nat.le_of_ble_eq_true rfl) rfl (fun e18 hs19 ho20 => ?_)
  have hE00 : ∀ j, j < 54 → j ≠ 53 → e18 j = ev j := fun j hj h1 => (ho20 j (by omega)).trans (hE00 j hj h1)
  have hEv7 : ∀ j, j < 55 → j ≠ 53 → e18 j = e2 j := fun j hj h1 => (ho20 j (by omega)).trans (hEv7 j hj h1)
  have hEv17 : ∀ j, j < 56 → j ≠ 53 → e18 j = e12 j := fun j hj h1 => (ho20 j (by omega)).trans (hEv17 j hj h1)
  refine n_aload_n C dX6_init_19 0 rfl rfl ?_
  refine n_bipush C dX6_init_20 (by decide) ?_
  refine n_st (st2 := [.int (iI ((60 : Nat) : Int)), .ref q]) rfl ?_
  refine n_newI (n := 60) C dX6_init_22 (List.mem_of_getElem? (i := 4) rfl) (Nat.le_of_ble_eq_true rfl) (Nat.le_of_ble_eq_true rfl) (Nat.le_of_ble_eq_true rfl) (fun ad21 e22 hg23 hE24 hn25 => ?_)
  refine n_nm (N2 := 57) (c2 := 3) (s2 := 123) rfl rfl rfl ?_
  have hq := (hg23 53 (by omega)).trans hq
  have qh26 := (hE24 53 (by omega)).trans hs19
  have hG00 : Gr 54 ad ad21 := fun j hj => (hg23 j (by omega)).trans (hG00 j hj)
  have hE00 : ∀ j, j < 54 → j ≠ 53 → e22 j = ev j := fun j hj h1 => (hE24 j (by omega)).trans (hE00 j hj h1)
  have hGv7 : Gr 55 ad1 ad21 := fun j hj => (hg23 j (by omega)).trans (hGv7 j hj)
  have hEv7 : ∀ j, j < 55 → j ≠ 53 → e22 j = e2 j := fun j hj h1 => (hE24 j (by omega)).trans (hEv7 j hj h1)
  have hGv17 : Gr 56 ad11 ad21 := fun j hj => (hg23 j (by omega)).trans (hGv17 j hj)
  have hEv17 : ∀ j, j < 56 → j ≠ 53 → e22 j = e12 j := fun j hj h1 => (hE24 j (by omega)).trans (hEv17 j hj h1)
  have hGv27 : Gr 57 ad21 ad21 := fun j hj => rfl
  have hEv27 : ∀ j, j < 57 → j ≠ 53 → e22 j = e22 j := fun j hj h1 => rfl
  refine n_st (st2 := [.ref (ad21 56), .ref q]) rfl ?_
  refine n_rf1 hq ?_
  refine n_putF (k9 := 5) (fs2 := [.int (iI 0), .int (iI 0), .ref (ad1 54), .ref (ad11 55), .int (iI 0), .ref (ad21 56), .null, .null, .int (bI false), .int (iI 0), .int (iI 0), .null, .null, .int (iI 0), .null, .null, .null, .null, .null]) C dX6_init_24 (by omega) qh26 hX6_init_X6 tyX6_ok nmX6 rfl (by decide) kX6_init_16 rfl hnm rfl rfl rfl (Nat.le_of_ble_eq_true rfl) rfl (fun e28 hs29 ho30 => ?_)
  have hE00 : ∀ j, j < 54 → j ≠ 53 → e28 j = ev j := fun j hj h1 => (ho30 j (by omega)).trans (hE00 j hj h1)
  have hEv7 : ∀ j, j < 55 → j ≠ 53 → e28 j = e2 j := fun j hj h1 => (ho30 j (by omega)).trans (hEv7 j hj h1)
  have hEv17 : ∀ j, j < 56 → j ≠ 53 → e28 j = e12 j := fun j hj h1 => (ho30 j (by omega)).trans (hEv17 j hj h1)
  have hEv27 : ∀ j, j < 57 → j ≠ 53 → e28 j = e22 j := fun j hj h1 => (ho30 j (by omega)).trans (hEv27 j hj h1)
  refine n_aload_n C dX6_init_27 0 rfl rfl ?_
  refine n_bipush C dX6_init_28 (by decide) ?_
  refine n_st (st2 := [.int (iI ((60 : Nat) : Int)), .ref q]) rfl ?_
  refine n_newI (n := 60) C dX6_init_30 (List.mem_of_getElem? (i := 4) rfl) (Nat.le_of_ble_eq_true rfl) (Nat.le_of_ble_eq_true rfl) (Nat.le_of_ble_eq_true rfl) (fun ad31 e32 hg33 hE34 hn35 => ?_)
  refine n_nm (N2 := 58) (c2 := 4) (s2 := 183) rfl rfl rfl ?_
  have hq := (hg33 53 (by omega)).trans hq
  have qh36 := (hE34 53 (by omega)).trans hs29
  have hG00 : Gr 54 ad ad31 := fun j hj => (hg33 j (by omega)).trans (hG00 j hj)
  have hE00 : ∀ j, j < 54 → j ≠ 53 → e32 j = ev j := fun j hj h1 => (hE34 j (by omega)).trans (hE00 j hj h1)
  have hGv7 : Gr 55 ad1 ad31 := fun j hj => (hg33 j (by omega)).trans (hGv7 j hj)
  have hEv7 : ∀ j, j < 55 → j ≠ 53 → e32 j = e2 j := fun j hj h1 => (hE34 j (by omega)).trans (hEv7 j hj h1)
  have hGv17 : Gr 56 ad11 ad31 := fun j hj => (hg33 j (by omega)).trans (hGv17 j hj)
  have hEv17 : ∀ j, j < 56 → j ≠ 53 → e32 j = e12 j := fun j hj h1 => (hE34 j (by omega)).trans (hEv17 j hj h1)
  have hGv27 : Gr 57 ad21 ad31 := fun j hj => (hg33 j (by omega)).trans (hGv27 j hj)
  have hEv27 : ∀ j, j < 57 → j ≠ 53 → e32 j = e22 j := fun j hj h1 => (hE34 j (by omega)).trans (hEv27 j hj h1)
  have hGv37 : Gr 58 ad31 ad31 := fun j hj => rfl
  have hEv37 : ∀ j, j < 58 → j ≠ 53 → e32 j = e32 j := fun j hj h1 => rfl
  refine n_st (st2 := [.ref (ad31 57), .ref q]) rfl ?_
  refine n_rf1 hq ?_
  refine n_putF (k9 := 6) (fs2 := [.int (iI 0), .int (iI 0), .ref (ad1 54), .ref (ad11 55), .int (iI 0), .ref (ad21 56), .ref (ad31 57), .null, .int (bI false), .int (iI 0), .int (iI 0), .null, .null, .int (iI 0), .null, .null, .null, .null, .null]) C dX6_init_32 (by omega) qh36 hX6_init_X6 tyX6_ok nmX6 rfl (by decide) kX6_init_19 rfl hnm rfl rfl rfl (Nat.le_of_ble_eq_true rfl) rfl (fun e38 hs39 ho40 => ?_)
  have hE00 : ∀ j, j < 54 → j ≠ 53 → e38 j = ev j := fun j hj h1 => (ho40 j (by omega)).trans (hE00 j hj h1)
  have hEv7 : ∀ j, j < 55 → j ≠ 53 → e38 j = e2 j := fun j hj h1 => (ho40 j (by omega)).trans (hEv7 j hj h1)
  have hEv17 : ∀ j, j < 56 → j ≠ 53 → e38 j = e12 j := fun j hj h1 => (ho40 j (by omega)).trans (hEv17 j hj h1)
  have hEv27 : ∀ j, j < 57 → j ≠ 53 → e38 j = e22 j := fun j hj h1 => (ho40 j (by omega)).trans (hEv27 j hj h1)
  have hEv37 : ∀ j, j < 58 → j ≠ 53 → e38 j = e32 j := fun j hj h1 => (ho40 j (by omega)).trans (hEv37 j hj h1)
  refine n_aload_n C dX6_init_35 0 rfl rfl ?_
  refine n_bipush C dX6_init_36 (by decide) ?_
  refine n_st (st2 := [.int (iI ((60 : Nat) : Int)), .ref q]) rfl ?_
  refine n_newI (n := 60) C dX6_init_38 (List.mem_of_getElem? (i := 4) rfl) (Nat.le_of_ble_eq_true rfl) (Nat.le_of_ble_eq_true rfl) (Nat.le_of_ble_eq_true rfl) (fun ad41 e42 hg43 hE44 hn45 => ?_)
  refine n_nm (N2 := 59) (c2 := 5) (s2 := 243) rfl rfl rfl ?_
  have hq := (hg43 53 (by omega)).trans hq
  have qh46 := (hE44 53 (by omega)).trans hs39
  have hG00 : Gr 54 ad ad41 := fun j hj => (hg43 j (by omega)).trans (hG00 j hj)
  have hE00 : ∀ j, j < 54 → j ≠ 53 → e42 j = ev j := fun j hj h1 => (hE44 j (by omega)).trans (hE00 j hj h1)
  have hGv7 : Gr 55 ad1 ad41 := fun j hj => (hg43 j (by omega)).trans (hGv7 j hj)
  have hEv7 : ∀ j, j < 55 → j ≠ 53 → e42 j = e2 j := fun j hj h1 => (hE44 j (by omega)).trans (hEv7 j hj h1)
  have hGv17 : Gr 56 ad11 ad41 := fun j hj => (hg43 j (by omega)).trans (hGv17 j hj)
  have hEv17 : ∀ j, j < 56 → j ≠ 53 → e42 j = e12 j := fun j hj h1 => (hE44 j (by omega)).trans (hEv17 j hj h1)
  have hGv27 : Gr 57 ad21 ad41 := fun j hj => (hg43 j (by omega)).trans (hGv27 j hj)
  have hEv27 : ∀ j, j < 57 → j ≠ 53 → e42 j = e22 j := fun j hj h1 => (hE44 j (by omega)).trans (hEv27 j hj h1)
  have hGv37 : Gr 58 ad31 ad41 := fun j hj => (hg43 j (by omega)).trans (hGv37 j hj)
  have hEv37 : ∀ j, j < 58 → j ≠ 53 → e42 j = e32 j := fun j hj h1 => (hE44 j (by omega)).trans (hEv37 j hj h1)
  have hGv47 : Gr 59 ad41 ad41 := fun j hj => rfl
  have hEv47 : ∀ j, j < 59 → j ≠ 53 → e42 j = e42 j := fun j hj h1 => rfl
  refine n_st (st2 := [.ref (ad41 58), .ref q]) rfl ?_
  refine n_rf1 hq ?_
  refine n_putF (k9 := 7) (fs2 := [.int (iI 0), .int (iI 0), .ref (ad1 54), .ref (ad11 55), .int (iI 0), .ref (ad21 56), .ref (ad31 57), .ref (ad41 58), .int (bI false), .int (iI 0), .int (iI 0), .null, .null, .int (iI 0), .null, .null, .null, .null, .null]) C dX6_init_40 (by omega) qh46 hX6_init_X6 tyX6_ok nmX6 rfl (by decide) kX6_init_22 rfl hnm rfl rfl rfl (Nat.le_of_ble_eq_true rfl) rfl (fun e48 hs49 ho50 => ?_)
  have hE00 : ∀ j, j < 54 → j ≠ 53 → e48 j = ev j := fun j hj h1 => (ho50 j (by omega)).trans (hE00 j hj h1)
  have hEv7 : ∀ j, j < 55 → j ≠ 53 → e48 j = e2 j := fun j hj h1 => (ho50 j (by omega)).trans (hEv7 j hj h1)
  have hEv17 : ∀ j, j < 56 → j ≠ 53 → e48 j = e12 j := fun j hj h1 => (ho50 j (by omega)).trans (hEv17 j hj h1)
  have hEv27 : ∀ j, j < 57 → j ≠ 53 → e48 j = e22 j := fun j hj h1 => (ho50 j (by omega)).trans (hEv27 j hj h1)
  have hEv37 : ∀ j, j < 58 → j ≠ 53 → e48 j = e32 j := fun j hj h1 => (ho50 j (by omega)).trans (hEv37 j hj h1)
  have hEv47 : ∀ j, j < 59 → j ≠ 53 → e48 j = e42 j := fun j hj h1 => (ho50 j (by omega)).trans (hEv47 j hj h1)
  refine n_aload_n C dX6_init_43 0 rfl rfl ?_
  refine n_bipush C dX6_init_44 (by decide) ?_
  refine n_st (st2 := [.int (iI ((60 : Nat) : Int)), .ref q]) rfl ?_
  refine n_newI (n := 60) C dX6_init_46 (List.mem_of_getElem? (i := 4) rfl) (Nat.le_of_ble_eq_true rfl) (Nat.le_of_ble_eq_true rfl) (Nat.le_of_ble_eq_true rfl) (fun ad51 e52 hg53 hE54 hn55 => ?_)
  refine n_nm (N2 := 60) (c2 := 6) (s2 := 303) rfl rfl rfl ?_
  have hq := (hg53 53 (by omega)).trans hq
  have qh56 := (hE54 53 (by omega)).trans hs49
  have hG00 : Gr 54 ad ad51 := fun j hj => (hg53 j (by omega)).trans (hG00 j hj)
  have hE00 : ∀ j, j < 54 → j ≠ 53 → e52 j = ev j := fun j hj h1 => (hE54 j (by omega)).trans (hE00 j hj h1)
  have hGv7 : Gr 55 ad1 ad51 := fun j hj => (hg53 j (by omega)).trans (hGv7 j hj)
  have hEv7 : ∀ j, j < 55 → j ≠ 53 → e52 j = e2 j := fun j hj h1 => (hE54 j (by omega)).trans (hEv7 j hj h1)
  have hGv17 : Gr 56 ad11 ad51 := fun j hj => (hg53 j (by omega)).trans (hGv17 j hj)
  have hEv17 : ∀ j, j < 56 → j ≠ 53 → e52 j = e12 j := fun j hj h1 => (hE54 j (by omega)).trans (hEv17 j hj h1)
  have hGv27 : Gr 57 ad21 ad51 := fun j hj => (hg53 j (by omega)).trans (hGv27 j hj)
  have hEv27 : ∀ j, j < 57 → j ≠ 53 → e52 j = e22 j := fun j hj h1 => (hE54 j (by omega)).trans (hEv27 j hj h1)
  have hGv37 : Gr 58 ad31 ad51 := fun j hj => (hg53 j (by omega)).trans (hGv37 j hj)
  have hEv37 : ∀ j, j < 58 → j ≠ 53 → e52 j = e32 j := fun j hj h1 => (hE54 j (by omega)).trans (hEv37 j hj h1)
  have hGv47 : Gr 59 ad41 ad51 := fun j hj => (hg53 j (by omega)).trans (hGv47 j hj)
  have hEv47 : ∀ j, j < 59 → j ≠ 53 → e52 j = e42 j := fun j hj h1 => (hE54 j (by omega)).trans (hEv47 j hj h1)
  have hGv57 : Gr 60 ad51 ad51 := fun j hj => rfl
  have hEv57 : ∀ j, j < 60 → j ≠ 53 → e52 j = e52 j := fun j hj h1 => rfl
  refine n_st (st2 := [.ref (ad51 59), .ref q]) rfl ?_
  refine n_rf1 hq ?_
  refine n_putF (k9 := 11) (fs2 := [.int (iI 0), .int (iI 0), .ref (ad1 54), .ref (ad11 55), .int (iI 0), .ref (ad21 56), .ref (ad31 57), .ref (ad41 58), .int (bI false), .int (iI 0), .int (iI 0), .ref (ad51 59), .null, .int (iI 0), .null, .null, .null, .null, .null]) C dX6_init_48 (by omega) qh56 hX6_init_X6 tyX6_ok nmX6 rfl (by decide) kX6_init_25 rfl hnm rfl rfl rfl (Nat.le_of_ble_eq_true rfl) rfl (fun e58 hs59 ho60 => ?_)
  have hE00 : ∀ j, j < 54 → j ≠ 53 → e58 j = ev j := fun j hj h1 => (ho60 j (by omega)).trans (hE00 j hj h1)
  have hEv7 : ∀ j, j < 55 → j ≠ 53 → e58 j = e2 j := fun j hj h1 => (ho60 j (by omega)).trans (hEv7 j hj h1)
  have hEv17 : ∀ j, j < 56 → j ≠ 53 → e58 j = e12 j := fun j hj h1 => (ho60 j (by omega)).trans (hEv17 j hj h1)
  have hEv27 : ∀ j, j < 57 → j ≠ 53 → e58 j = e22 j := fun j hj h1 => (ho60 j (by omega)).trans (hEv27 j hj h1)
  have hEv37 : ∀ j, j < 58 → j ≠ 53 → e58 j = e32 j := fun j hj h1 => (ho60 j (by omega)).trans (hEv37 j hj h1)
  have hEv47 : ∀ j, j < 59 → j ≠ 53 → e58 j = e42 j := fun j hj h1 => (ho60 j (by omega)).trans (hEv47 j hj h1)
  have hEv57 : ∀ j, j < 60 → j ≠ 53 → e58 j = e52 j := fun j hj h1 => (ho60 j (by omega)).trans (hEv57 j hj h1)
  refine n_aload_n C dX6_init_51 0 rfl rfl ?_
  refine n_bipush C dX6_init_52 (by decide) ?_
  refine n_st (st2 := [.int (iI ((60 : Nat) : Int)), .ref q]) rfl ?_
  refine n_newI (n := 60) C dX6_init_54 (List.mem_of_getElem? (i := 4) rfl) (Nat.le_of_ble_eq_true rfl) (Nat.le_of_ble_eq_true rfl) (Nat.le_of_ble_eq_true rfl) (fun ad61 e62 hg63 hE64 hn65 => ?_)
  refine n_nm (N2 := 61) (c2 := 7) (s2 := 363) rfl rfl rfl ?_
  have hq := (hg63 53 (by omega)).trans hq
  have qh66 := (hE64 53 (by omega)).trans hs59
  have hG00 : Gr 54 ad ad61 := fun j hj => (hg63 j (by omega)).trans (hG00 j hj)
  have hE00 : ∀ j, j < 54 → j ≠ 53 → e62 j = ev j := fun j hj h1 => (hE64 j (by omega)).trans (hE00 j hj h1)
  have hGv7 : Gr 55 ad1 ad61 := fun j hj => (hg63 j (by omega)).trans (hGv7 j hj)
  have hEv7 : ∀ j, j < 55 → j ≠ 53 → e62 j = e2 j := fun j hj h1 => (hE64 j (by omega)).trans (hEv7 j hj h1)
  have hGv17 : Gr 56 ad11 ad61 := fun j hj => (hg63 j (by omega)).trans (hGv17 j hj)
  have hEv17 : ∀ j, j < 56 → j ≠ 53 → e62 j = e12 j := fun j hj h1 => (hE64 j (by omega)).trans (hEv17 j hj h1)
  have hGv27 : Gr 57 ad21 ad61 := fun j hj => (hg63 j (by omega)).trans (hGv27 j hj)
  have hEv27 : ∀ j, j < 57 → j ≠ 53 → e62 j = e22 j := fun j hj h1 => (hE64 j (by omega)).trans (hEv27 j hj h1)
  have hGv37 : Gr 58 ad31 ad61 := fun j hj => (hg63 j (by omega)).trans (hGv37 j hj)
  have hEv37 : ∀ j, j < 58 → j ≠ 53 → e62 j = e32 j := fun j hj h1 => (hE64 j (by omega)).trans (hEv37 j hj h1)
  have hGv47 : Gr 59 ad41 ad61 := fun j hj => (hg63 j (by omega)).trans (hGv47 j hj)
  have hEv47 : ∀ j, j < 59 → j ≠ 53 → e62 j = e42 j := fun j hj h1 => (hE64 j (by omega)).trans (hEv47 j hj h1)
  have hGv57 : Gr 60 ad51 ad61 := fun j hj => (hg63 j (by omega)).trans (hGv57 j hj)
  have hEv57 : ∀ j, j < 60 → j ≠ 53 → e62 j = e52 j := fun j hj h1 => (hE64 j (by omega)).trans (hEv57 j hj h1)
  have hGv67 : Gr 61 ad61 ad61 := fun j hj => rfl
  have hEv67 : ∀ j, j < 61 → j ≠ 53 → e62 j = e62 j := fun j hj h1 => rfl
  refine n_st (st2 := [.ref (ad61 60), .ref q]) rfl ?_
  refine n_rf1 hq ?_
  refine n_putF (k9 := 12) (fs2 := [.int (iI 0), .int (iI 0), .ref (ad1 54), .ref (ad11 55), .int (iI 0), .ref (ad21 56), .ref (ad31 57), .ref (ad41 58), .int (bI false), .int (iI 0), .int (iI 0), .ref (ad51 59), .ref (ad61 60), .int (iI 0), .null, .null, .null, .null, .null]) C dX6_init_56 (by omega) qh66 hX6_init_X6 tyX6_ok nmX6 rfl (by decide) kX6_init_28 rfl hnm rfl rfl rfl (Nat.le_of_ble_eq_true rfl) rfl (fun e68 hs69 ho70 => ?_)
  have hE00 : ∀ j, j < 54 → j ≠ 53 → e68 j = ev j := fun j hj h1 => (ho70 j (by omega)).trans (hE00 j hj h1)
  have hEv7 : ∀ j, j < 55 → j ≠ 53 → e68 j = e2 j := fun j hj h1 => (ho70 j (by omega)).trans (hEv7 j hj h1)
  have hEv17 : ∀ j, j < 56 → j ≠ 53 → e68 j = e12 j := fun j hj h1 => (ho70 j (by omega)).trans (hEv17 j hj h1)
  have hEv27 : ∀ j, j < 57 → j ≠ 53 → e68 j = e22 j := fun j hj h1 => (ho70 j (by omega)).trans (hEv27 j hj h1)
  have hEv37 : ∀ j, j < 58 → j ≠ 53 → e68 j = e32 j := fun j hj h1 => (ho70 j (by omega)).trans (hEv37 j hj h1)
  have hEv47 : ∀ j, j < 59 → j ≠ 53 → e68 j = e42 j := fun j hj h1 => (ho70 j (by omega)).trans (hEv47 j hj h1)
  have hEv57 : ∀ j, j < 60 → j ≠ 53 → e68 j = e52 j := fun j hj h1 => (ho70 j (by omega)).trans (hEv57 j hj h1)
  have hEv67 : ∀ j, j < 61 → j ≠ 53 → e68 j = e62 j := fun j hj h1 => (ho70 j (by omega)).trans (hEv67 j hj h1)
  refine n_aload_n C dX6_init_59 0 rfl rfl ?_
  refine n_sipush C dX6_init_60 (by decide) ?_
  refine n_st (st2 := [.int (iI ((128 : Nat) : Int)), .ref q]) rfl ?_
  refine n_newI (n := 128) C dX6_init_63 (List.mem_of_getElem? (i := 4) rfl) (Nat.le_of_ble_eq_true rfl) (Nat.le_of_ble_eq_true rfl) (Nat.le_of_ble_eq_true rfl) (fun ad71 e72 hg73 hE74 hn75 => ?_)
  refine n_nm (N2 := 62) (c2 := 8) (s2 := 491) rfl rfl rfl ?_
  have hq := (hg73 53 (by omega)).trans hq
  have qh76 := (hE74 53 (by omega)).trans hs69
  have hG00 : Gr 54 ad ad71 := fun j hj => (hg73 j (by omega)).trans (hG00 j hj)
  have hE00 : ∀ j, j < 54 → j ≠ 53 → e72 j = ev j := fun j hj h1 => (hE74 j (by omega)).trans (hE00 j hj h1)
  have hGv7 : Gr 55 ad1 ad71 := fun j hj => (hg73 j (by omega)).trans (hGv7 j hj)
  have hEv7 : ∀ j, j < 55 → j ≠ 53 → e72 j = e2 j := fun j hj h1 => (hE74 j (by omega)).trans (hEv7 j hj h1)
  have hGv17 : Gr 56 ad11 ad71 := fun j hj => (hg73 j (by omega)).trans (hGv17 j hj)
  have hEv17 : ∀ j, j < 56 → j ≠ 53 → e72 j = e12 j := fun j hj h1 => (hE74 j (by omega)).trans (hEv17 j hj h1)
  have hGv27 : Gr 57 ad21 ad71 := fun j hj => (hg73 j (by omega)).trans (hGv27 j hj)
  have hEv27 : ∀ j, j < 57 → j ≠ 53 → e72 j = e22 j := fun j hj h1 => (hE74 j (by omega)).trans (hEv27 j hj h1)
  have hGv37 : Gr 58 ad31 ad71 := fun j hj => (hg73 j (by omega)).trans (hGv37 j hj)
  have hEv37 : ∀ j, j < 58 → j ≠ 53 → e72 j = e32 j := fun j hj h1 => (hE74 j (by omega)).trans (hEv37 j hj h1)
  have hGv47 : Gr 59 ad41 ad71 := fun j hj => (hg73 j (by omega)).trans (hGv47 j hj)
  have hEv47 : ∀ j, j < 59 → j ≠ 53 → e72 j = e42 j := fun j hj h1 => (hE74 j (by omega)).trans (hEv47 j hj h1)
  have hGv57 : Gr 60 ad51 ad71 := fun j hj => (hg73 j (by omega)).trans (hGv57 j hj)
  have hEv57 : ∀ j, j < 60 → j ≠ 53 → e72 j = e52 j := fun j hj h1 => (hE74 j (by omega)).trans (hEv57 j hj h1)
  have hGv67 : Gr 61 ad61 ad71 := fun j hj => (hg73 j (by omega)).trans (hGv67 j hj)
  have hEv67 : ∀ j, j < 61 → j ≠ 53 → e72 j = e62 j := fun j hj h1 => (hE74 j (by omega)).trans (hEv67 j hj h1)
  have hGv77 : Gr 62 ad71 ad71 := fun j hj => rfl
  have hEv77 : ∀ j, j < 62 → j ≠ 53 → e72 j = e72 j := fun j hj h1 => rfl
  refine n_st (st2 := [.ref (ad71 61), .ref q]) rfl ?_
  refine n_rf1 hq ?_
  refine n_putF (k9 := 14) (fs2 := [.int (iI 0), .int (iI 0), .ref (ad1 54), .ref (ad11 55), .int (iI 0), .ref (ad21 56), .ref (ad31 57), .ref (ad41 58), .int (bI false), .int (iI 0), .int (iI 0), .ref (ad51 59), .ref (ad61 60), .int (iI 0), .ref (ad71 61), .null, .null, .null, .null]) C dX6_init_65 (by omega) qh76 hX6_init_X6 tyX6_ok nmX6 rfl (by decide) kX6_init_31 rfl hnm rfl rfl rfl (Nat.le_of_ble_eq_true rfl) rfl (fun e78 hs79 ho80 => ?_)
  have hE00 : ∀ j, j < 54 → j ≠ 53 → e78 j = ev j := fun j hj h1 => (ho80 j (by omega)).trans (hE00 j hj h1)
  have hEv7 : ∀ j, j < 55 → j ≠ 53 → e78 j = e2 j := fun j hj h1 => (ho80 j (by omega)).trans (hEv7 j hj h1)
  have hEv17 : ∀ j, j < 56 → j ≠ 53 → e78 j = e12 j := fun j hj h1 => (ho80 j (by omega)).trans (hEv17 j hj h1)
  have hEv27 : ∀ j, j < 57 → j ≠ 53 → e78 j = e22 j := fun j hj h1 => (ho80 j (by omega)).trans (hEv27 j hj h1)
  have hEv37 : ∀ j, j < 58 → j ≠ 53 → e78 j = e32 j := fun j hj h1 => (ho80 j (by omega)).trans (hEv37 j hj h1)
  have hEv47 : ∀ j, j < 59 → j ≠ 53 → e78 j = e42 j := fun j hj h1 => (ho80 j (by omega)).trans (hEv47 j hj h1)
  have hEv57 : ∀ j, j < 60 → j ≠ 53 → e78 j = e52 j := fun j hj h1 => (ho80 j (by omega)).trans (hEv57 j hj h1)
  have hEv67 : ∀ j, j < 61 → j ≠ 53 → e78 j = e62 j := fun j hj h1 => (ho80 j (by omega)).trans (hEv67 j hj h1)
  have hEv77 : ∀ j, j < 62 → j ≠ 53 → e78 j = e72 j := fun j hj h1 => (ho80 j (by omega)).trans (hEv77 j hj h1)
  refine n_aload_n C dX6_init_68 0 rfl rfl ?_
  refine n_sipush C dX6_init_69 (by decide) ?_
  refine n_st (st2 := [.int (iI ((441 : Nat) : Int)), .ref q]) rfl ?_
  refine n_newI (n := 441) C dX6_init_72 (List.mem_of_getElem? (i := 4) rfl) (Nat.le_of_ble_eq_true rfl) (Nat.le_of_ble_eq_true rfl) (Nat.le_of_ble_eq_true rfl) (fun ad81 e82 hg83 hE84 hn85 => ?_)
  refine n_nm (N2 := 63) (c2 := 9) (s2 := 932) rfl rfl rfl ?_
  have hq := (hg83 53 (by omega)).trans hq
  have qh86 := (hE84 53 (by omega)).trans hs79
  have hG00 : Gr 54 ad ad81 := fun j hj => (hg83 j (by omega)).trans (hG00 j hj)
  have hE00 : ∀ j, j < 54 → j ≠ 53 → e82 j = ev j := fun j hj h1 => (hE84 j (by omega)).trans (hE00 j hj h1)
  have hGv7 : Gr 55 ad1 ad81 := fun j hj => (hg83 j (by omega)).trans (hGv7 j hj)
  have hEv7 : ∀ j, j < 55 → j ≠ 53 → e82 j = e2 j := fun j hj h1 => (hE84 j (by omega)).trans (hEv7 j hj h1)
  have hGv17 : Gr 56 ad11 ad81 := fun j hj => (hg83 j (by omega)).trans (hGv17 j hj)
  have hEv17 : ∀ j, j < 56 → j ≠ 53 → e82 j = e12 j := fun j hj h1 => (hE84 j (by omega)).trans (hEv17 j hj h1)
  have hGv27 : Gr 57 ad21 ad81 := fun j hj => (hg83 j (by omega)).trans (hGv27 j hj)
  have hEv27 : ∀ j, j < 57 → j ≠ 53 → e82 j = e22 j := fun j hj h1 => (hE84 j (by omega)).trans (hEv27 j hj h1)
  have hGv37 : Gr 58 ad31 ad81 := fun j hj => (hg83 j (by omega)).trans (hGv37 j hj)
  have hEv37 : ∀ j, j < 58 → j ≠ 53 → e82 j = e32 j := fun j hj h1 => (hE84 j (by omega)).trans (hEv37 j hj h1)
  have hGv47 : Gr 59 ad41 ad81 := fun j hj => (hg83 j (by omega)).trans (hGv47 j hj)
  have hEv47 : ∀ j, j < 59 → j ≠ 53 → e82 j = e42 j := fun j hj h1 => (hE84 j (by omega)).trans (hEv47 j hj h1)
  have hGv57 : Gr 60 ad51 ad81 := fun j hj => (hg83 j (by omega)).trans (hGv57 j hj)
  have hEv57 : ∀ j, j < 60 → j ≠ 53 → e82 j = e52 j := fun j hj h1 => (hE84 j (by omega)).trans (hEv57 j hj h1)
  have hGv67 : Gr 61 ad61 ad81 := fun j hj => (hg83 j (by omega)).trans (hGv67 j hj)
  have hEv67 : ∀ j, j < 61 → j ≠ 53 → e82 j = e62 j := fun j hj h1 => (hE84 j (by omega)).trans (hEv67 j hj h1)
  have hGv77 : Gr 62 ad71 ad81 := fun j hj => (hg83 j (by omega)).trans (hGv77 j hj)
  have hEv77 : ∀ j, j < 62 → j ≠ 53 → e82 j = e72 j := fun j hj h1 => (hE84 j (by omega)).trans (hEv77 j hj h1)
  have hGv87 : Gr 63 ad81 ad81 := fun j hj => rfl
  have hEv87 : ∀ j, j < 63 → j ≠ 53 → e82 j = e82 j := fun j hj h1 => rfl
  refine n_st (st2 := [.ref (ad81 62), .ref q]) rfl ?_
  refine n_rf1 hq ?_
  refine n_putF (k9 := 15) (fs2 := [.int (iI 0), .int (iI 0), .ref (ad1 54), .ref (ad11 55), .int (iI 0), .ref (ad21 56), .ref (ad31 57), .ref (ad41 58), .int (bI false), .int (iI 0), .int (iI 0), .ref (ad51 59), .ref (ad61 60), .int (iI 0), .ref (ad71 61), .ref (ad81 62), .null, .null, .null]) C dX6_init_74 (by omega) qh86 hX6_init_X6 tyX6_ok nmX6 rfl (by decide) kX6_init_34 rfl hnm rfl rfl rfl (Nat.le_of_ble_eq_true rfl) rfl (fun e88 hs89 ho90 => ?_)
  have hE00 : ∀ j, j < 54 → j ≠ 53 → e88 j = ev j := fun j hj h1 => (ho90 j (by omega)).trans (hE00 j hj h1)
  have hEv7 : ∀ j, j < 55 → j ≠ 53 → e88 j = e2 j := fun j hj h1 => (ho90 j (by omega)).trans (hEv7 j hj h1)
  have hEv17 : ∀ j, j < 56 → j ≠ 53 → e88 j = e12 j := fun j hj h1 => (ho90 j (by omega)).trans (hEv17 j hj h1)
  have hEv27 : ∀ j, j < 57 → j ≠ 53 → e88 j = e22 j := fun j hj h1 => (ho90 j (by omega)).trans (hEv27 j hj h1)
  have hEv37 : ∀ j, j < 58 → j ≠ 53 → e88 j = e32 j := fun j hj h1 => (ho90 j (by omega)).trans (hEv37 j hj h1)
  have hEv47 : ∀ j, j < 59 → j ≠ 53 → e88 j = e42 j := fun j hj h1 => (ho90 j (by omega)).trans (hEv47 j hj h1)
  have hEv57 : ∀ j, j < 60 → j ≠ 53 → e88 j = e52 j := fun j hj h1 => (ho90 j (by omega)).trans (hEv57 j hj h1)
  have hEv67 : ∀ j, j < 61 → j ≠ 53 → e88 j = e62 j := fun j hj h1 => (ho90 j (by omega)).trans (hEv67 j hj h1)
  have hEv77 : ∀ j, j < 62 → j ≠ 53 → e88 j = e72 j := fun j hj h1 => (ho90 j (by omega)).trans (hEv77 j hj h1)
  have hEv87 : ∀ j, j < 63 → j ≠ 53 → e88 j = e82 j := fun j hj h1 => (ho90 j (by omega)).trans (hEv87 j hj h1)
  refine n_aload_n C dX6_init_77 0 rfl rfl ?_
  refine n_bipush C dX6_init_78 (by decide) ?_
  refine n_st (st2 := [.int (iI ((20 : Nat) : Int)), .ref q]) rfl ?_
  refine n_newI (n := 20) C dX6_init_80 (List.mem_of_getElem? (i := 4) rfl) (Nat.le_of_ble_eq_true rfl) (Nat.le_of_ble_eq_true rfl) (Nat.le_of_ble_eq_true rfl) (fun ad91 e92 hg93 hE94 hn95 => ?_)
  refine n_nm (N2 := 64) (c2 := 10) (s2 := 952) rfl rfl rfl ?_
  have hq := (hg93 53 (by omega)).trans hq
  have qh96 := (hE94 53 (by omega)).trans hs89
  have hG00 : Gr 54 ad ad91 := fun j hj => (hg93 j (by omega)).trans (hG00 j hj)
  have hE00 : ∀ j, j < 54 → j ≠ 53 → e92 j = ev j := fun j hj h1 => (hE94 j (by omega)).trans (hE00 j hj h1)
  have hGv7 : Gr 55 ad1 ad91 := fun j hj => (hg93 j (by omega)).trans (hGv7 j hj)
  have hEv7 : ∀ j, j < 55 → j ≠ 53 → e92 j = e2 j := fun j hj h1 => (hE94 j (by omega)).trans (hEv7 j hj h1)
  have hGv17 : Gr 56 ad11 ad91 := fun j hj => (hg93 j (by omega)).trans (hGv17 j hj)
  have hEv17 : ∀ j, j < 56 → j ≠ 53 → e92 j = e12 j := fun j hj h1 => (hE94 j (by omega)).trans (hEv17 j hj h1)
  have hGv27 : Gr 57 ad21 ad91 := fun j hj => (hg93 j (by omega)).trans (hGv27 j hj)
  have hEv27 : ∀ j, j < 57 → j ≠ 53 → e92 j = e22 j := fun j hj h1 => (hE94 j (by omega)).trans (hEv27 j hj h1)
  have hGv37 : Gr 58 ad31 ad91 := fun j hj => (hg93 j (by omega)).trans (hGv37 j hj)
  have hEv37 : ∀ j, j < 58 → j ≠ 53 → e92 j = e32 j := fun j hj h1 => (hE94 j (by omega)).trans (hEv37 j hj h1)
  have hGv47 : Gr 59 ad41 ad91 := fun j hj => (hg93 j (by omega)).trans (hGv47 j hj)
  have hEv47 : ∀ j, j < 59 → j ≠ 53 → e92 j = e42 j := fun j hj h1 => (hE94 j (by omega)).trans (hEv47 j hj h1)
  have hGv57 : Gr 60 ad51 ad91 := fun j hj => (hg93 j (by omega)).trans (hGv57 j hj)
  have hEv57 : ∀ j, j < 60 → j ≠ 53 → e92 j = e52 j := fun j hj h1 => (hE94 j (by omega)).trans (hEv57 j hj h1)
  have hGv67 : Gr 61 ad61 ad91 := fun j hj => (hg93 j (by omega)).trans (hGv67 j hj)
  have hEv67 : ∀ j, j < 61 → j ≠ 53 → e92 j = e62 j := fun j hj h1 => (hE94 j (by omega)).trans (hEv67 j hj h1)
  have hGv77 : Gr 62 ad71 ad91 := fun j hj => (hg93 j (by omega)).trans (hGv77 j hj)
  have hEv77 : ∀ j, j < 62 → j ≠ 53 → e92 j = e72 j := fun j hj h1 => (hE94 j (by omega)).trans (hEv77 j hj h1)
  have hGv87 : Gr 63 ad81 ad91 := fun j hj => (hg93 j (by omega)).trans (hGv87 j hj)
  have hEv87 : ∀ j, j < 63 → j ≠ 53 → e92 j = e82 j := fun j hj h1 => (hE94 j (by omega)).trans (hEv87 j hj h1)
  have hGv97 : Gr 64 ad91 ad91 := fun j hj => rfl
  have hEv97 : ∀ j, j < 64 → j ≠ 53 → e92 j = e92 j := fun j hj h1 => rfl
  refine n_st (st2 := [.ref (ad91 63), .ref q]) rfl ?_
  refine n_rf1 hq ?_
  refine n_putF (k9 := 16) (fs2 := [.int (iI 0), .int (iI 0), .ref (ad1 54), .ref (ad11 55), .int (iI 0), .ref (ad21 56), .ref (ad31 57), .ref (ad41 58), .int (bI false), .int (iI 0), .int (iI 0), .ref (ad51 59), .ref (ad61 60), .int (iI 0), .ref (ad71 61), .ref (ad81 62), .ref (ad91 63), .null, .null]) C dX6_init_82 (by omega) qh96 hX6_init_X6 tyX6_ok nmX6 rfl (by decide) kX6_init_37 rfl hnm rfl rfl rfl (Nat.le_of_ble_eq_true rfl) rfl (fun e98 hs99 ho100 => ?_)
  have hE00 : ∀ j, j < 54 → j ≠ 53 → e98 j = ev j := fun j hj h1 => (ho100 j (by omega)).trans (hE00 j hj h1)
  have hEv7 : ∀ j, j < 55 → j ≠ 53 → e98 j = e2 j := fun j hj h1 => (ho100 j (by omega)).trans (hEv7 j hj h1)
  have hEv17 : ∀ j, j < 56 → j ≠ 53 → e98 j = e12 j := fun j hj h1 => (ho100 j (by omega)).trans (hEv17 j hj h1)
  have hEv27 : ∀ j, j < 57 → j ≠ 53 → e98 j = e22 j := fun j hj h1 => (ho100 j (by omega)).trans (hEv27 j hj h1)
  have hEv37 : ∀ j, j < 58 → j ≠ 53 → e98 j = e32 j := fun j hj h1 => (ho100 j (by omega)).trans (hEv37 j hj h1)
  have hEv47 : ∀ j, j < 59 → j ≠ 53 → e98 j = e42 j := fun j hj h1 => (ho100 j (by omega)).trans (hEv47 j hj h1)
  have hEv57 : ∀ j, j < 60 → j ≠ 53 → e98 j = e52 j := fun j hj h1 => (ho100 j (by omega)).trans (hEv57 j hj h1)
  have hEv67 : ∀ j, j < 61 → j ≠ 53 → e98 j = e62 j := fun j hj h1 => (ho100 j (by omega)).trans (hEv67 j hj h1)
  have hEv77 : ∀ j, j < 62 → j ≠ 53 → e98 j = e72 j := fun j hj h1 => (ho100 j (by omega)).trans (hEv77 j hj h1)
  have hEv87 : ∀ j, j < 63 → j ≠ 53 → e98 j = e82 j := fun j hj h1 => (ho100 j (by omega)).trans (hEv87 j hj h1)
  have hEv97 : ∀ j, j < 64 → j ≠ 53 → e98 j = e92 j := fun j hj h1 => (ho100 j (by omega)).trans (hEv97 j hj h1)
  refine n_aload_n C dX6_init_85 0 rfl rfl ?_
  refine n_bipush C dX6_init_86 (by decide) ?_
  refine n_st (st2 := [.int (iI ((20 : Nat) : Int)), .ref q]) rfl ?_
  refine n_newI (n := 20) C dX6_init_88 (List.mem_of_getElem? (i := 4) rfl) (Nat.le_of_ble_eq_true rfl) (Nat.le_of_ble_eq_true rfl) (Nat.le_of_ble_eq_true rfl) (fun ad101 e102 hg103 hE104 hn105 => ?_)
  refine n_nm (N2 := 65) (c2 := 11) (s2 := 972) rfl rfl rfl ?_
  have hq := (hg103 53 (by omega)).trans hq
  have qh106 := (hE104 53 (by omega)).trans hs99
  have hG00 : Gr 54 ad ad101 := fun j hj => (hg103 j (by omega)).trans (hG00 j hj)
  have hE00 : ∀ j, j < 54 → j ≠ 53 → e102 j = ev j := fun j hj h1 => (hE104 j (by omega)).trans (hE00 j hj h1)
  have hGv7 : Gr 55 ad1 ad101 := fun j hj => (hg103 j (by omega)).trans (hGv7 j hj)
  have hEv7 : ∀ j, j < 55 → j ≠ 53 → e102 j = e2 j := fun j hj h1 => (hE104 j (by omega)).trans (hEv7 j hj h1)
  have hGv17 : Gr 56 ad11 ad101 := fun j hj => (hg103 j (by omega)).trans (hGv17 j hj)
  have hEv17 : ∀ j, j < 56 → j ≠ 53 → e102 j = e12 j := fun j hj h1 => (hE104 j (by omega)).trans (hEv17 j hj h1)
  have hGv27 : Gr 57 ad21 ad101 := fun j hj => (hg103 j (by omega)).trans (hGv27 j hj)
  have hEv27 : ∀ j, j < 57 → j ≠ 53 → e102 j = e22 j := fun j hj h1 => (hE104 j (by omega)).trans (hEv27 j hj h1)
  have hGv37 : Gr 58 ad31 ad101 := fun j hj => (hg103 j (by omega)).trans (hGv37 j hj)
  have hEv37 : ∀ j, j < 58 → j ≠ 53 → e102 j = e32 j := fun j hj h1 => (hE104 j (by omega)).trans (hEv37 j hj h1)
  have hGv47 : Gr 59 ad41 ad101 := fun j hj => (hg103 j (by omega)).trans (hGv47 j hj)
  have hEv47 : ∀ j, j < 59 → j ≠ 53 → e102 j = e42 j := fun j hj h1 => (hE104 j (by omega)).trans (hEv47 j hj h1)
  have hGv57 : Gr 60 ad51 ad101 := fun j hj => (hg103 j (by omega)).trans (hGv57 j hj)
  have hEv57 : ∀ j, j < 60 → j ≠ 53 → e102 j = e52 j := fun j hj h1 => (hE104 j (by omega)).trans (hEv57 j hj h1)
  have hGv67 : Gr 61 ad61 ad101 := fun j hj => (hg103 j (by omega)).trans (hGv67 j hj)
  have hEv67 : ∀ j, j < 61 → j ≠ 53 → e102 j = e62 j := fun j hj h1 => (hE104 j (by omega)).trans (hEv67 j hj h1)
  have hGv77 : Gr 62 ad71 ad101 := fun j hj => (hg103 j (by omega)).trans (hGv77 j hj)
  have hEv77 : ∀ j, j < 62 → j ≠ 53 → e102 j = e72 j := fun j hj h1 => (hE104 j (by omega)).trans (hEv77 j hj h1)
  have hGv87 : Gr 63 ad81 ad101 := fun j hj => (hg103 j (by omega)).trans (hGv87 j hj)
  have hEv87 : ∀ j, j < 63 → j ≠ 53 → e102 j = e82 j := fun j hj h1 => (hE104 j (by omega)).trans (hEv87 j hj h1)
  have hGv97 : Gr 64 ad91 ad101 := fun j hj => (hg103 j (by omega)).trans (hGv97 j hj)
  have hEv97 : ∀ j, j < 64 → j ≠ 53 → e102 j = e92 j := fun j hj h1 => (hE104 j (by omega)).trans (hEv97 j hj h1)
  have hGv107 : Gr 65 ad101 ad101 := fun j hj => rfl
  have hEv107 : ∀ j, j < 65 → j ≠ 53 → e102 j = e102 j := fun j hj h1 => rfl
  refine n_st (st2 := [.ref (ad101 64), .ref q]) rfl ?_
  refine n_rf1 hq ?_
  refine n_putF (k9 := 17) (fs2 := [.int (iI 0), .int (iI 0), .ref (ad1 54), .ref (ad11 55), .int (iI 0), .ref (ad21 56), .ref (ad31 57), .ref (ad41 58), .int (bI false), .int (iI 0), .int (iI 0), .ref (ad51 59), .ref (ad61 60), .int (iI 0), .ref (ad71 61), .ref (ad81 62), .ref (ad91 63), .ref (ad101 64), .null]) C dX6_init_90 (by omega) qh106 hX6_init_X6 tyX6_ok nmX6 rfl (by decide) kX6_init_40 rfl hnm rfl rfl rfl (Nat.le_of_ble_eq_true rfl) rfl (fun e108 hs109 ho110 => ?_)
  have hE00 : ∀ j, j < 54 → j ≠ 53 → e108 j = ev j := fun j hj h1 => (ho110 j (by omega)).trans (hE00 j hj h1)
  have hEv7 : ∀ j, j < 55 → j ≠ 53 → e108 j = e2 j := fun j hj h1 => (ho110 j (by omega)).trans (hEv7 j hj h1)
  have hEv17 : ∀ j, j < 56 → j ≠ 53 → e108 j = e12 j := fun j hj h1 => (ho110 j (by omega)).trans (hEv17 j hj h1)
  have hEv27 : ∀ j, j < 57 → j ≠ 53 → e108 j = e22 j := fun j hj h1 => (ho110 j (by omega)).trans (hEv27 j hj h1)
  have hEv37 : ∀ j, j < 58 → j ≠ 53 → e108 j = e32 j := fun j hj h1 => (ho110 j (by omega)).trans (hEv37 j hj h1)
  have hEv47 : ∀ j, j < 59 → j ≠ 53 → e108 j = e42 j := fun j hj h1 => (ho110 j (by omega)).trans (hEv47 j hj h1)
  have hEv57 : ∀ j, j < 60 → j ≠ 53 → e108 j = e52 j := fun j hj h1 => (ho110 j (by omega)).trans (hEv57 j hj h1)
  have hEv67 : ∀ j, j < 61 → j ≠ 53 → e108 j = e62 j := fun j hj h1 => (ho110 j (by omega)).trans (hEv67 j hj h1)
  have hEv77 : ∀ j, j < 62 → j ≠ 53 → e108 j = e72 j := fun j hj h1 => (ho110 j (by omega)).trans (hEv77 j hj h1)
  have hEv87 : ∀ j, j < 63 → j ≠ 53 → e108 j = e82 j := fun j hj h1 => (ho110 j (by omega)).trans (hEv87 j hj h1)
  have hEv97 : ∀ j, j < 64 → j ≠ 53 → e108 j = e92 j := fun j hj h1 => (ho110 j (by omega)).trans (hEv97 j hj h1)
  have hEv107 : ∀ j, j < 65 → j ≠ 53 → e108 j = e102 j := fun j hj h1 => (ho110 j (by omega)).trans (hEv107 j hj h1)
  refine n_aload_n C dX6_init_93 0 rfl rfl ?_
  refine n_iconst C dX6_init_94 ?_
  refine n_st (st2 := [.int (iI ((4 : Nat) : Int)), .ref q]) rfl ?_
  refine n_newI (n := 4) C dX6_init_95 (List.mem_of_getElem? (i := 4) rfl) (Nat.le_of_ble_eq_true rfl) (Nat.le_of_ble_eq_true rfl) (Nat.le_of_ble_eq_true rfl) (fun ad111 e112 hg113 hE114 hn115 => ?_)
  refine n_nm (N2 := 66) (c2 := 12) (s2 := 976) rfl rfl rfl ?_
  have hq := (hg113 53 (by omega)).trans hq
  have qh116 := (hE114 53 (by omega)).trans hs109
  have hG00 : Gr 54 ad ad111 := fun j hj => (hg113 j (by omega)).trans (hG00 j hj)
  have hE00 : ∀ j, j < 54 → j ≠ 53 → e112 j = ev j := fun j hj h1 => (hE114 j (by omega)).trans (hE00 j hj h1)
  have hGv7 : Gr 55 ad1 ad111 := fun j hj => (hg113 j (by omega)).trans (hGv7 j hj)
  have hEv7 : ∀ j, j < 55 → j ≠ 53 → e112 j = e2 j := fun j hj h1 => (hE114 j (by omega)).trans (hEv7 j hj h1)
  have hGv17 : Gr 56 ad11 ad111 := fun j hj => (hg113 j (by omega)).trans (hGv17 j hj)
  have hEv17 : ∀ j, j < 56 → j ≠ 53 → e112 j = e12 j := fun j hj h1 => (hE114 j (by omega)).trans (hEv17 j hj h1)
  have hGv27 : Gr 57 ad21 ad111 := fun j hj => (hg113 j (by omega)).trans (hGv27 j hj)
  have hEv27 : ∀ j, j < 57 → j ≠ 53 → e112 j = e22 j := fun j hj h1 => (hE114 j (by omega)).trans (hEv27 j hj h1)
  have hGv37 : Gr 58 ad31 ad111 := fun j hj => (hg113 j (by omega)).trans (hGv37 j hj)
  have hEv37 : ∀ j, j < 58 → j ≠ 53 → e112 j = e32 j := fun j hj h1 => (hE114 j (by omega)).trans (hEv37 j hj h1)
  have hGv47 : Gr 59 ad41 ad111 := fun j hj => (hg113 j (by omega)).trans (hGv47 j hj)
  have hEv47 : ∀ j, j < 59 → j ≠ 53 → e112 j = e42 j := fun j hj h1 => (hE114 j (by omega)).trans (hEv47 j hj h1)
  have hGv57 : Gr 60 ad51 ad111 := fun j hj => (hg113 j (by omega)).trans (hGv57 j hj)
  have hEv57 : ∀ j, j < 60 → j ≠ 53 → e112 j = e52 j := fun j hj h1 => (hE114 j (by omega)).trans (hEv57 j hj h1)
  have hGv67 : Gr 61 ad61 ad111 := fun j hj => (hg113 j (by omega)).trans (hGv67 j hj)
  have hEv67 : ∀ j, j < 61 → j ≠ 53 → e112 j = e62 j := fun j hj h1 => (hE114 j (by omega)).trans (hEv67 j hj h1)
  have hGv77 : Gr 62 ad71 ad111 := fun j hj => (hg113 j (by omega)).trans (hGv77 j hj)
  have hEv77 : ∀ j, j < 62 → j ≠ 53 → e112 j = e72 j := fun j hj h1 => (hE114 j (by omega)).trans (hEv77 j hj h1)
  have hGv87 : Gr 63 ad81 ad111 := fun j hj => (hg113 j (by omega)).trans (hGv87 j hj)
  have hEv87 : ∀ j, j < 63 → j ≠ 53 → e112 j = e82 j := fun j hj h1 => (hE114 j (by omega)).trans (hEv87 j hj h1)
  have hGv97 : Gr 64 ad91 ad111 := fun j hj => (hg113 j (by omega)).trans (hGv97 j hj)
  have hEv97 : ∀ j, j < 64 → j ≠ 53 → e112 j = e92 j := fun j hj h1 => (hE114 j (by omega)).trans (hEv97 j hj h1)
  have hGv107 : Gr 65 ad101 ad111 := fun j hj => (hg113 j (by omega)).trans (hGv107 j hj)
  have hEv107 : ∀ j, j < 65 → j ≠ 53 → e112 j = e102 j := fun j hj h1 => (hE114 j (by omega)).trans (hEv107 j hj h1)
  have hGv117 : Gr 66 ad111 ad111 := fun j hj => rfl
  have hEv117 : ∀ j, j < 66 → j ≠ 53 → e112 j = e112 j := fun j hj h1 => rfl
  refine n_st (st2 := [.ref (ad111 65), .ref q]) rfl ?_
  refine n_rf1 hq ?_
  refine n_putF (k9 := 18) (fs2 := [.int (iI 0), .int (iI 0), .ref (ad1 54), .ref (ad11 55), .int (iI 0), .ref (ad21 56), .ref (ad31 57), .ref (ad41 58), .int (bI false), .int (iI 0), .int (iI 0), .ref (ad51 59), .ref (ad61 60), .int (iI 0), .ref (ad71 61), .ref (ad81 62), .ref (ad91 63), .ref (ad101 64), .ref (ad111 65)]) C dX6_init_97 (by omega) qh116 hX6_init_X6 tyX6_ok nmX6 rfl (by decide) kX6_init_43 rfl hnm rfl rfl rfl (Nat.le_of_ble_eq_true rfl) rfl (fun e118 hs119 ho120 => ?_)
  have hE00 : ∀ j, j < 54 → j ≠ 53 → e118 j = ev j := fun j hj h1 => (ho120 j (by omega)).trans (hE00 j hj h1)
  have hEv7 : ∀ j, j < 55 → j ≠ 53 → e118 j = e2 j := fun j hj h1 => (ho120 j (by omega)).trans (hEv7 j hj h1)
  have hEv17 : ∀ j, j < 56 → j ≠ 53 → e118 j = e12 j := fun j hj h1 => (ho120 j (by omega)).trans (hEv17 j hj h1)
  have hEv27 : ∀ j, j < 57 → j ≠ 53 → e118 j = e22 j := fun j hj h1 => (ho120 j (by omega)).trans (hEv27 j hj h1)
  have hEv37 : ∀ j, j < 58 → j ≠ 53 → e118 j = e32 j := fun j hj h1 => (ho120 j (by omega)).trans (hEv37 j hj h1)
  have hEv47 : ∀ j, j < 59 → j ≠ 53 → e118 j = e42 j := fun j hj h1 => (ho120 j (by omega)).trans (hEv47 j hj h1)
  have hEv57 : ∀ j, j < 60 → j ≠ 53 → e118 j = e52 j := fun j hj h1 => (ho120 j (by omega)).trans (hEv57 j hj h1)
  have hEv67 : ∀ j, j < 61 → j ≠ 53 → e118 j = e62 j := fun j hj h1 => (ho120 j (by omega)).trans (hEv67 j hj h1)
  have hEv77 : ∀ j, j < 62 → j ≠ 53 → e118 j = e72 j := fun j hj h1 => (ho120 j (by omega)).trans (hEv77 j hj h1)
  have hEv87 : ∀ j, j < 63 → j ≠ 53 → e118 j = e82 j := fun j hj h1 => (ho120 j (by omega)).trans (hEv87 j hj h1)
  have hEv97 : ∀ j, j < 64 → j ≠ 53 → e118 j = e92 j := fun j hj h1 => (ho120 j (by omega)).trans (hEv97 j hj h1)
  have hEv107 : ∀ j, j < 65 → j ≠ 53 → e118 j = e102 j := fun j hj h1 => (ho120 j (by omega)).trans (hEv107 j hj h1)
  have hEv117 : ∀ j, j < 66 → j ≠ 53 → e118 j = e112 j := fun j hj h1 => (ho120 j (by omega)).trans (hEv117 j hj h1)
  refine n_aload_n C dX6_init_100 0 rfl rfl ?_
  refine n_iload_n C dX6_init_101 1 rfl rfl ?_
  refine n_if_ge C dX6_init_102 (by decide) (by omega) (by omega) (tgt := 109) (fun c1 => ?_) (fun c1 => ?_)
  · refine n_iload_n C dX6_init_109 1 rfl rfl ?_
    refine n_bipush C dX6_init_110 (by decide) ?_
    refine n_icmp_le C dX6_init_112 (by decide) (by omega) (by omega) (by omega) (by omega) (tgt := 120) (fun c2 => ?_) (fun c2 => ?_)
    · refine n_iload_n C dX6_init_120 1 rfl rfl ?_
      refine n_topI (y := (iI (max 0 (min 40 z)))) (by congr 1; omega) ?_
      refine n_rf1 hq ?_
      refine n_putF (k9 := 0) (fs2 := [.int (iI (max 0 (min 40 z))), .int (iI 0), .ref (ad1 54), .ref (ad11 55), .int (iI 0), .ref (ad21 56), .ref (ad31 57), .ref (ad41 58), .int (bI false), .int (iI 0), .int (iI 0), .ref (ad51 59), .ref (ad61 60), .int (iI 0), .ref (ad71 61), .ref (ad81 62), .ref (ad91 63), .ref (ad101 64), .ref (ad111 65)]) C dX6_init_121 (by omega) hs119 hX6_init_X6 tyX6_ok nmX6 rfl (by decide) kX6_init_46 rfl hnm rfl rfl rfl (Nat.le_of_ble_eq_true rfl) rfl (fun e121 hs122 ho123 => ?_)
      have hE00 : ∀ j, j < 54 → j ≠ 53 → e121 j = ev j := fun j hj h1 => (ho123 j (by omega)).trans (hE00 j hj h1)
      have hEv7 : ∀ j, j < 55 → j ≠ 53 → e121 j = e2 j := fun j hj h1 => (ho123 j (by omega)).trans (hEv7 j hj h1)
      have hEv17 : ∀ j, j < 56 → j ≠ 53 → e121 j = e12 j := fun j hj h1 => (ho123 j (by omega)).trans (hEv17 j hj h1)
      have hEv27 : ∀ j, j < 57 → j ≠ 53 → e121 j = e22 j := fun j hj h1 => (ho123 j (by omega)).trans (hEv27 j hj h1)
      have hEv37 : ∀ j, j < 58 → j ≠ 53 → e121 j = e32 j := fun j hj h1 => (ho123 j (by omega)).trans (hEv37 j hj h1)
      have hEv47 : ∀ j, j < 59 → j ≠ 53 → e121 j = e42 j := fun j hj h1 => (ho123 j (by omega)).trans (hEv47 j hj h1)
      have hEv57 : ∀ j, j < 60 → j ≠ 53 → e121 j = e52 j := fun j hj h1 => (ho123 j (by omega)).trans (hEv57 j hj h1)
      have hEv67 : ∀ j, j < 61 → j ≠ 53 → e121 j = e62 j := fun j hj h1 => (ho123 j (by omega)).trans (hEv67 j hj h1)
      have hEv77 : ∀ j, j < 62 → j ≠ 53 → e121 j = e72 j := fun j hj h1 => (ho123 j (by omega)).trans (hEv77 j hj h1)
      have hEv87 : ∀ j, j < 63 → j ≠ 53 → e121 j = e82 j := fun j hj h1 => (ho123 j (by omega)).trans (hEv87 j hj h1)
      have hEv97 : ∀ j, j < 64 → j ≠ 53 → e121 j = e92 j := fun j hj h1 => (ho123 j (by omega)).trans (hEv97 j hj h1)
      have hEv107 : ∀ j, j < 65 → j ≠ 53 → e121 j = e102 j := fun j hj h1 => (ho123 j (by omega)).trans (hEv107 j hj h1)
      have hEv117 : ∀ j, j < 66 → j ≠ 53 → e121 j = e112 j := fun j hj h1 => (ho123 j (by omega)).trans (hEv117 j hj h1)
      exact n_vretA C hr dX6_init_124 hG00 (⟨⟨false, fun _ => 0, fun _ => 0, fun _ => 0, fun _ => 0, fun _ => 0, fun _ => 0, fun _ => 0, fun _ => 0, fun _ => 0, fun _ => 0, fun _ => 0, fun _ => 0, ⟨by omega, by omega, by omega, fun _ => rfl⟩, hs122.trans (by unfold mO; rw [hGv7 54 (by omega), hGv17 55 (by omega), hGv27 56 (by omega), hGv37 57 (by omega), hGv47 58 (by omega), hGv57 59 (by omega), hGv67 60 (by omega), hGv77 61 (by omega), hGv87 62 (by omega), hGv97 63 (by omega), hGv107 64 (by omega)]; rfl), ⟨(hEv7 54 (by omega) (by omega)).trans hn5, (hEv17 55 (by omega) (by omega)).trans hn15, fun j hj => ⟨rfl, Nat.zero_le _, fun k hk => absurd hk (Nat.not_lt_zero k)⟩⟩, ⟨(hEv27 56 (by omega) (by omega)).trans hn25, (hEv37 57 (by omega) (by omega)).trans hn35, (hEv47 58 (by omega) (by omega)).trans hn45, fun j hj => absurd hj (Nat.not_lt_zero j), Nat.zero_le _⟩, ⟨(hEv57 59 (by omega) (by omega)).trans hn55, (hEv67 60 (by omega) (by omega)).trans hn65, fun j t h => by simp at h, Nat.zero_le _, fun j t h => by simp at h⟩, ⟨(hEv77 61 (by omega) (by omega)).trans hn75, fun j hj => absurd hj (Nat.not_lt_zero j), Nat.zero_le _⟩, (hEv87 62 (by omega) (by omega)).trans hn85, (hEv97 63 (by omega) (by omega)).trans hn95, (hEv107 64 (by omega) (by omega)).trans hn105, (hEv117 65 (by omega) (by omega)).trans hn115⟩, fun j hj => hE00 j (by omega) (by omega)⟩)
    · refine n_bipush C dX6_init_115 (by decide) ?_
      refine n_goto (tgt := 121) C dX6_init_117 (by decide) ?_
      refine n_topI (y := (iI (max 0 (min 40 z)))) (by congr 1; omega) ?_
      refine n_rf1 hq ?_
      refine n_putF (k9 := 0) (fs2 := [.int (iI (max 0 (min 40 z))), .int (iI 0), .ref (ad1 54), .ref (ad11 55), .int (iI 0), .ref (ad21 56), .ref (ad31 57), .ref (ad41 58), .int (bI false), .int (iI 0), .int (iI 0), .ref (ad51 59), .ref (ad61 60), .int (iI 0), .ref (ad71 61), .ref (ad81 62), .ref (ad91 63), .ref (ad101 64), .ref (ad111 65)]) C dX6_init_121 (by omega) hs119 hX6_init_X6 tyX6_ok nmX6 rfl (by decide) kX6_init_46 rfl hnm rfl rfl rfl (Nat.le_of_ble_eq_true rfl) rfl (fun e124 hs125 ho126 => ?_)
      have hE00 : ∀ j, j < 54 → j ≠ 53 → e124 j = ev j := fun j hj h1 => (ho126 j (by omega)).trans (hE00 j hj h1)
      have hEv7 : ∀ j, j < 55 → j ≠ 53 → e124 j = e2 j := fun j hj h1 => (ho126 j (by omega)).trans (hEv7 j hj h1)
      have hEv17 : ∀ j, j < 56 → j ≠ 53 → e124 j = e12 j := fun j hj h1 => (ho126 j (by omega)).trans (hEv17 j hj h1)
      have hEv27 : ∀ j, j < 57 → j ≠ 53 → e124 j = e22 j := fun j hj h1 => (ho126 j (by omega)).trans (hEv27 j hj h1)
      have hEv37 : ∀ j, j < 58 → j ≠ 53 → e124 j = e32 j := fun j hj h1 => (ho126 j (by omega)).trans (hEv37 j hj h1)
      have hEv47 : ∀ j, j < 59 → j ≠ 53 → e124 j = e42 j := fun j hj h1 => (ho126 j (by omega)).trans (hEv47 j hj h1)
      have hEv57 : ∀ j, j < 60 → j ≠ 53 → e124 j = e52 j := fun j hj h1 => (ho126 j (by omega)).trans (hEv57 j hj h1)
      have hEv67 : ∀ j, j < 61 → j ≠ 53 → e124 j = e62 j := fun j hj h1 => (ho126 j (by omega)).trans (hEv67 j hj h1)
      have hEv77 : ∀ j, j < 62 → j ≠ 53 → e124 j = e72 j := fun j hj h1 => (ho126 j (by omega)).trans (hEv77 j hj h1)
      have hEv87 : ∀ j, j < 63 → j ≠ 53 → e124 j = e82 j := fun j hj h1 => (ho126 j (by omega)).trans (hEv87 j hj h1)
      have hEv97 : ∀ j, j < 64 → j ≠ 53 → e124 j = e92 j := fun j hj h1 => (ho126 j (by omega)).trans (hEv97 j hj h1)
      have hEv107 : ∀ j, j < 65 → j ≠ 53 → e124 j = e102 j := fun j hj h1 => (ho126 j (by omega)).trans (hEv107 j hj h1)
      have hEv117 : ∀ j, j < 66 → j ≠ 53 → e124 j = e112 j := fun j hj h1 => (ho126 j (by omega)).trans (hEv117 j hj h1)
      exact n_vretA C hr dX6_init_124 hG00 (⟨⟨false, fun _ => 0, fun _ => 0, fun _ => 0, fun _ => 0, fun _ => 0, fun _ => 0, fun _ => 0, fun _ => 0, fun _ => 0, fun _ => 0, fun _ => 0, fun _ => 0, ⟨by omega, by omega, by omega, fun _ => rfl⟩, hs125.trans (by unfold mO; rw [hGv7 54 (by omega), hGv17 55 (by omega), hGv27 56 (by omega), hGv37 57 (by omega), hGv47 58 (by omega), hGv57 59 (by omega), hGv67 60 (by omega), hGv77 61 (by omega), hGv87 62 (by omega), hGv97 63 (by omega), hGv107 64 (by omega)]; rfl), ⟨(hEv7 54 (by omega) (by omega)).trans hn5, (hEv17 55 (by omega) (by omega)).trans hn15, fun j hj => ⟨rfl, Nat.zero_le _, fun k hk => absurd hk (Nat.not_lt_zero k)⟩⟩, ⟨(hEv27 56 (by omega) (by omega)).trans hn25, (hEv37 57 (by omega) (by omega)).trans hn35, (hEv47 58 (by omega) (by omega)).trans hn45, fun j hj => absurd hj (Nat.not_lt_zero j), Nat.zero_le _⟩, ⟨(hEv57 59 (by omega) (by omega)).trans hn55, (hEv67 60 (by omega) (by omega)).trans hn65, fun j t h => by simp at h, Nat.zero_le _, fun j t h => by simp at h⟩, ⟨(hEv77 61 (by omega) (by omega)).trans hn75, fun j hj => absurd hj (Nat.not_lt_zero j), Nat.zero_le _⟩, (hEv87 62 (by omega) (by omega)).trans hn85, (hEv97 63 (by omega) (by omega)).trans hn95, (hEv107 64 (by omega) (by omega)).trans hn105, (hEv117 65 (by omega) (by omega)).trans hn115⟩, fun j hj => hE00 j (by omega) (by omega)⟩)
  · refine n_iconst C dX6_init_105 ?_
    refine n_goto (tgt := 121) C dX6_init_106 (by decide) ?_
    refine n_topI (y := (iI (max 0 (min 40 z)))) (by congr 1; omega) ?_
    refine n_rf1 hq ?_
    refine n_putF (k9 := 0) (fs2 := [.int (iI (max 0 (min 40 z))), .int (iI 0), .ref (ad1 54), .ref (ad11 55), .int (iI 0), .ref (ad21 56), .ref (ad31 57), .ref (ad41 58), .int (bI false), .int (iI 0), .int (iI 0), .ref (ad51 59), .ref (ad61 60), .int (iI 0), .ref (ad71 61), .ref (ad81 62), .ref (ad91 63), .ref (ad101 64), .ref (ad111 65)]) C dX6_init_121 (by omega) hs119 hX6_init_X6 tyX6_ok nmX6 rfl (by decide) kX6_init_46 rfl hnm rfl rfl rfl (Nat.le_of_ble_eq_true rfl) rfl (fun e127 hs128 ho129 => ?_)
    have hE00 : ∀ j, j < 54 → j ≠ 53 → e127 j = ev j := fun j hj h1 => (ho129 j (by omega)).trans (hE00 j hj h1)
    have hEv7 : ∀ j, j < 55 → j ≠ 53 → e127 j = e2 j := fun j hj h1 => (ho129 j (by omega)).trans (hEv7 j hj h1)
    have hEv17 : ∀ j, j < 56 → j ≠ 53 → e127 j = e12 j := fun j hj h1 => (ho129 j (by omega)).trans (hEv17 j hj h1)
    have hEv27 : ∀ j, j < 57 → j ≠ 53 → e127 j = e22 j := fun j hj h1 => (ho129 j (by omega)).trans (hEv27 j hj h1)
    have hEv37 : ∀ j, j < 58 → j ≠ 53 → e127 j = e32 j := fun j hj h1 => (ho129 j (by omega)).trans (hEv37 j hj h1)
    have hEv47 : ∀ j, j < 59 → j ≠ 53 → e127 j = e42 j := fun j hj h1 => (ho129 j (by omega)).trans (hEv47 j hj h1)
    have hEv57 : ∀ j, j < 60 → j ≠ 53 → e127 j = e52 j := fun j hj h1 => (ho129 j (by omega)).trans (hEv57 j hj h1)
    have hEv67 : ∀ j, j < 61 → j ≠ 53 → e127 j = e62 j := fun j hj h1 => (ho129 j (by omega)).trans (hEv67 j hj h1)
    have hEv77 : ∀ j, j < 62 → j ≠ 53 → e127 j = e72 j := fun j hj h1 => (ho129 j (by omega)).trans (hEv77 j hj h1)
    have hEv87 : ∀ j, j < 63 → j ≠ 53 → e127 j = e82 j := fun j hj h1 => (ho129 j (by omega)).trans (hEv87 j hj h1)
    have hEv97 : ∀ j, j < 64 → j ≠ 53 → e127 j = e92 j := fun j hj h1 => (ho129 j (by omega)).trans (hEv97 j hj h1)
    have hEv107 : ∀ j, j < 65 → j ≠ 53 → e127 j = e102 j := fun j hj h1 => (ho129 j (by omega)).trans (hEv107 j hj h1)
    have hEv117 : ∀ j, j < 66 → j ≠ 53 → e127 j = e112 j := fun j hj h1 => (ho129 j (by omega)).trans (hEv117 j hj h1)
    exact n_vretA C hr dX6_init_124 hG00 (⟨⟨false, fun _ => 0, fun _ => 0, fun _ => 0, fun _ => 0, fun _ => 0, fun _ => 0, fun _ => 0, fun _ => 0, fun _ => 0, fun _ => 0, fun _ => 0, fun _ => 0, ⟨by omega, by omega, by omega, fun _ => rfl⟩, hs128.trans (by unfold mO; rw [hGv7 54 (by omega), hGv17 55 (by omega), hGv27 56 (by omega), hGv37 57 (by omega), hGv47 58 (by omega), hGv57 59 (by omega), hGv67 60 (by omega), hGv77 61 (by omega), hGv87 62 (by omega), hGv97 63 (by omega), hGv107 64 (by omega)]; rfl), ⟨(hEv7 54 (by omega) (by omega)).trans hn5, (hEv17 55 (by omega) (by omega)).trans hn15, fun j hj => ⟨rfl, Nat.zero_le _, fun k hk => absurd hk (Nat.not_lt_zero k)⟩⟩, ⟨(hEv27 56 (by omega) (by omega)).trans hn25, (hEv37 57 (by omega) (by omega)).trans hn35, (hEv47 58 (by omega) (by omega)).trans hn45, fun j hj => absurd hj (Nat.not_lt_zero j), Nat.zero_le _⟩, ⟨(hEv57 59 (by omega) (by omega)).trans hn55, (hEv67 60 (by omega) (by omega)).trans hn65, fun j t h => by simp at h, Nat.zero_le _, fun j t h => by simp at h⟩, ⟨(hEv77 61 (by omega) (by omega)).trans hn75, fun j hj => absurd hj (Nat.not_lt_zero j), Nat.zero_le _⟩, (hEv87 62 (by omega) (by omega)).trans hn85, (hEv97 63 (by omega) (by omega)).trans hn95, (hEv107 64 (by omega) (by omega)).trans hn105, (hEv117 65 (by omega) (by omega)).trans hn115⟩, fun j hj => hE00 j (by omega) (by omega)⟩)
