set_option maxRecDepth 100000 in
theorem hL_law_X5 : ∀ w ∈ u_ws RX5 TX5 9, w ∈ wsL_law := mem_places [487, 488, 489, 490, 491, 492, 493, 494, 495] rfl
set_option maxRecDepth 100000 in
theorem hL_law_X6 : ∀ w ∈ u_ws RX6 TX6 19, w ∈ wsL_law := mem_places [496, 497, 498, 499, 500, 501, 502, 503, 504, 505, 506, 507, 508, 509, 510, 511, 512, 513, 514] rfl
theorem CmpAt.mv {G : GG} {ad ad2 : Nat → Nat} {ev e2 : Nat → va_E} {M : Nat → Nat → Int32} (h : CmpAt G ad ev 39 40 M) (ha : ∀ j, j < 53 → ad2 j = ad j) (he : ∀ j, j < 53 → e2 j = ev j) : CmpAt G ad2 e2 39 40 M := by
  refine ⟨?_, ?_, fun i hi => (he _ (by omega)).trans (h.2.2 i hi)⟩
  · rw [he 16 (by omega), h.1, ha 17 (by omega), ha 39 (by omega), ha 40 (by omega)]
  · rw [he 17 (by omega), h.2.1]
    congr 7
    funext i
    by_cases hi : i < 21
    · rw [if_pos hi, if_pos hi, ha (18 + i) (by omega)]
    · rw [if_neg hi, if_neg hi]
theorem DeskAt.mv {G : GG} {ad ad2 : Nat → Nat} {ev e2 : Nat → va_E} {lim : Int} {R : Nat → List Int32} {ops : List Tr} {ls : List Op} {lsz : Nat} {rs : List Int32} {M : Nat → Nat → Int32} (h : DeskAt G ad ev lim R ops ls lsz rs) (hc : CmpAt G ad ev 39 40 M) (ha : ∀ j, j < 53 → ad2 j = ad j) (he : ∀ j, j < 53 → e2 j = ev j) : DeskAt G ad2 e2 lim R ops ls lsz rs := by
  obtain ⟨rc, dc, ds, g, ⟨hb1, hb2, hb3, hb4, hrd⟩, k0, k1, hg, hr9, h8, h12, hw, hrr, hdd⟩ := h
  obtain ⟨-, h2, ⟨z1, h3⟩, ⟨z2, h4⟩, ⟨x0, a0, b0, h5⟩, ⟨x1, a1, b1, h6⟩, ⟨x2, a2, b2, h7⟩⟩ := hw
  refine ⟨rc, dc, ds, g, ⟨hb1, hb2, hb3, hb4, hrd⟩, ?_, ?_, ?_, ?_, ?_, ?_, ?_, ?_, ?_⟩
  · rw [he 0 (by omega), k0, ha 1 (by omega), ha 8 (by omega), ha 12 (by omega), ha 16 (by omega), ha 41 (by omega), ha rc (by omega), ha dc (by omega)]
  · rw [he 1 (by omega), k1]
  · intro j hj; rw [hg j hj, ha (2 + 2 * j) (by omega)]
  · intro j hj; exact (hr9 j hj).mv (ha _ (by omega)) (he _ (by omega)) (he _ (by omega))
  · exact h8.mv (fun j h1 h2 => ha j (by omega)) (fun j h1 h2 => he j (by omega))
  · exact h12.mv (fun j h1 h2 => ha j (by omega)) (fun j h1 h2 => he j (by omega))
  · exact ⟨⟨39, 40, M, hc.mv ha he⟩, by rw [he 41 (by omega), h2, ha 42 (by omega), ha 44 (by omega), ha 46 (by omega), ha 47 (by omega), ha 48 (by omega)], ⟨z1, h3.mv (ha _ (by omega)) (he _ (by omega)) (he _ (by omega))⟩, ⟨z2, h4.mv (ha _ (by omega)) (he _ (by omega)) (he _ (by omega))⟩, ⟨x0, a0, b0, (he _ (by omega)).trans h5⟩, ⟨x1, a1, b1, (he _ (by omega)).trans h6⟩, ⟨x2, a2, b2, (he _ (by omega)).trans h7⟩⟩
  · exact hrr.mv (ha _ (by omega)) (he _ (by omega)) (he _ (by omega))
  · exact hdd.mv (ha _ (by omega)) (he _ (by omega)) (he _ (by omega))
theorem MdlAt.mv {G : GG} {ad ad2 : Nat → Nat} {ev e2 : Nat → va_E} {lim thr : Int} {R : Nat → List Int32} {ops : List Tr} {ls : List Op} {lsz : Nat} {rs : List Int32} (h : MdlAt G ad ev lim thr R ops ls lsz rs) (ha : ∀ j, j < 66 → ad2 j = ad j) (he : ∀ j, j < 66 → e2 j = ev j) : MdlAt G ad2 e2 lim thr R ops ls lsz rs := by
  obtain ⟨cmp, fz, fy, fk, fp, fs, mk, mp, fr, fq, w1, w2, fd, hb, k53, h1, h2, h3, h4, h5⟩ := h
  have hF : Fr e2 ev (fun j => 66 ≤ j) := fun j hj => he j (by omega)
  refine ⟨cmp, fz, fy, fk, fp, fs, mk, mp, fr, fq, w1, w2, fd, hb, ?_, h1.fr hF (by omega) (by omega), h2.fr hF (by omega) (by omega) (by omega), h3.fr hF (by omega) (by omega), h4.fr hF (by omega), h5.fr hF (by omega) (by omega) (by omega) (by omega)⟩
  rw [he 53 (by omega), k53]
  unfold mO
  rw [ha 54 (by omega), ha 55 (by omega), ha 56 (by omega), ha 57 (by omega), ha 58 (by omega), ha 59 (by omega), ha 60 (by omega), ha 61 (by omega), ha 62 (by omega), ha 63 (by omega), ha 64 (by omega), ha 65 (by omega)]

set_option maxHeartbeats 8000000 in
set_option maxRecDepth 100000 in
theorem law_init {p : Program} (l : Launch) {E : Env} {s : State} {m : MethodId} {below : List Frame} {meth : Method} {c : Code} {G : GG} {A : Nat → Prop} {b L : Nat} {xs : Nat → Int32} {ad0 : Nat → Nat} {e0 : Nat → va_E} (C : Cx p s m #[Value.ref b] meth c G A 9 code RL wsL_law) (hlt : l.stackTraces = false) (hr : meth.sig.returnType = ret) (hX : KX s) (hXB : XB A s s.heap) (hSx : Sx A b L xs s) (hL : L ≤ 2049) (hA : ∀ q, A q → s.heap.size ≤ q) : V p l E room_1 s m #[Value.ref b] below meth c G A 9 (lw_Z below #[Value.ref b] s) 0 ad0 e0 0 0 0 [(0, .ref b)] [] := by
  obtain ⟨z0, hz0, hza, hzb⟩ := iI_of (if 0 < L then xs 0 else iI 0)
  refine n_new (ci := 5) (fs := [.int (iI 0), .null, .null, .null, .int (iI 0), .null, .null, .null, .null]) C dL_law_0 hL_law_X5 tyX5_ok (List.mem_of_getElem? (i := 0) rfl) (List.mem_of_getElem? (i := 1) rfl) (List.mem_of_getElem? (i := 2) rfl) rfl (by intro j hj; rcases (show j = 0 ∨ j = 1 ∨ j = 2 ∨ j = 3 ∨ j = 4 ∨ j = 5 ∨ j = 6 ∨ j = 7 ∨ j = 8 by omega) with rfl | rfl | rfl | rfl | rfl | rfl | rfl | rfl | rfl <;> rfl) (Nat.le_of_ble_eq_true rfl) (Nat.le_of_ble_eq_true rfl) (fun ad1 e1 hg1 hE1 hn1 => ?_)
  refine n_nm (N2 := 1) (c2 := 1) (s2 := 9) rfl rfl rfl ?_
  refine n_st (st2 := [.ref (ad1 0)]) rfl ?_
  refine n_dup C dL_law_3 rfl ?_
  refine n_aload_n C dL_law_4 0 rfl rfl ?_
  refine n_iconst C dL_law_5 ?_
  refine n_callSs (As := [.ref b, .int (iI 0)]) (rest := [.ref (ad1 0), .ref (ad1 0)]) C hSx dL_law_6 (TL_cell l hL) (va_cwS 2 C.2.2.2.2.1 gL_law_L_cell rfl rfl rfl cdL_cell.2 ⟨(Nat.le_of_ble_eq_true rfl), (Nat.le_of_ble_eq_true rfl)⟩) rfl rfl (Nat.le_of_ble_eq_true rfl) ⟨(Nat.le_of_ble_eq_true rfl), (Nat.le_of_ble_eq_true rfl)⟩ ?_
  rintro _ _ ⟨rfl, rfl⟩
  refine n_pc (pc2 := 9) rfl (n_st (st2 := [.int (iI z0), .ref (ad1 0), .ref (ad1 0)]) (by rw [hz0]; rfl) ?_)
  refine n_nm (N2 := 1) (c2 := 1) (s2 := 9) rfl rfl rfl ?_
  refine n_callI (As := [.int (iI z0)]) (rest := [.ref (ad1 0)]) C hX dL_law_9 (TX5_init l (q := ad1 0) rfl hn1 hza hzb) (cwI 1 C.2.2.2.2.1 gL_law_X5_init rfl rfl rfl (C.2.2.2.2.1 _ (List.mem_of_getElem? (i := 2) rfl)) (C.2.2.2.2.1 _ (List.mem_of_getElem? (i := 11) rfl)) (C.2.2.2.2.1 _ (List.mem_of_getElem? (i := 12) rfl)) rfl cdX5_init.2 ⟨(Nat.le_of_ble_eq_true rfl), (Nat.le_of_ble_eq_true rfl)⟩) rfl rfl (Nat.le_of_ble_eq_true rfl) ⟨(Nat.le_of_ble_eq_true rfl), (Nat.le_of_ble_eq_true rfl)⟩ ?_
  rintro ad9 e9 hg9 ⟨hD2, hc2⟩
  refine n_pc (pc2 := 12) rfl ?_
  refine n_nm (N2 := 61) (c2 := 61) (s2 := 1229) rfl rfl rfl ?_
  obtain ⟨ad2, ha2⟩ : ∃ x : Nat → Nat, x = fun k => ad9 (sg k) := ⟨_, rfl⟩
  obtain ⟨e2, he2⟩ : ∃ x : Nat → va_E, x = fun k => e9 (sg k) := ⟨_, rfl⟩
  rw [← ha2, ← he2] at hD2 hc2
  have hg2 : ad2 0 = ad1 0 := by
    rw [ha2]
    exact hg9 0 (by omega)
  refine n_rel sg (N2 := 53) sg_lt sg_inj ha2 he2 ?_
  refine n_st (st2 := [.ref (ad2 0)]) (by rw [hg2]) ?_
  refine n_astore_n (lv' := [(0, .ref b), (1, .ref (ad2 0))]) C dL_law_12 rfl (by decide) rfl ?_
  refine n_new (ci := 6) (fs := [.int (iI 0), .int (iI 0), .null, .null, .int (iI 0), .null, .null, .null, .int (bI false), .int (iI 0), .int (iI 0), .null, .null, .int (iI 0), .null, .null, .null, .null, .null]) C dL_law_13 hL_law_X6 tyX6_ok (List.mem_of_getElem? (i := 3) rfl) (List.mem_of_getElem? (i := 4) rfl) (List.mem_of_getElem? (i := 5) rfl) rfl (by intro j hj; rcases (show j = 0 ∨ j = 1 ∨ j = 2 ∨ j = 3 ∨ j = 4 ∨ j = 5 ∨ j = 6 ∨ j = 7 ∨ j = 8 ∨ j = 9 ∨ j = 10 ∨ j = 11 ∨ j = 12 ∨ j = 13 ∨ j = 14 ∨ j = 15 ∨ j = 16 ∨ j = 17 ∨ j = 18 by omega) with rfl | rfl | rfl | rfl | rfl | rfl | rfl | rfl | rfl | rfl | rfl | rfl | rfl | rfl | rfl | rfl | rfl | rfl | rfl <;> rfl) (Nat.le_of_ble_eq_true rfl) (Nat.le_of_ble_eq_true rfl) (fun ad3 e3 hg3 hE3 hn3 => ?_)
  refine n_nm (N2 := 54) (c2 := 62) (s2 := 1248) rfl rfl rfl ?_
  refine n_st (st2 := [.ref (ad3 53)]) rfl ?_
  refine n_dup C dL_law_16 rfl ?_
  refine n_aload_n C dL_law_17 0 rfl rfl ?_
  refine n_iconst C dL_law_18 ?_
  refine n_callSs (As := [.ref b, .int (iI 0)]) (rest := [.ref (ad3 53), .ref (ad3 53)]) C hSx dL_law_19 (TL_cell l hL) (va_cwS 2 C.2.2.2.2.1 gL_law_L_cell rfl rfl rfl cdL_cell.2 ⟨(Nat.le_of_ble_eq_true rfl), (Nat.le_of_ble_eq_true rfl)⟩) rfl rfl (Nat.le_of_ble_eq_true rfl) ⟨(Nat.le_of_ble_eq_true rfl), (Nat.le_of_ble_eq_true rfl)⟩ ?_
  rintro _ _ ⟨rfl, rfl⟩
  refine n_pc (pc2 := 22) rfl (n_st (st2 := [.int (iI z0), .ref (ad3 53), .ref (ad3 53)]) (by rw [hz0]; rfl) ?_)
  refine n_nm (N2 := 54) (c2 := 62) (s2 := 1248) rfl rfl rfl ?_
  refine n_callI (As := [.int (iI z0)]) (rest := [.ref (ad3 53)]) C hX dL_law_22 (TX6_init l (q := ad3 53) rfl hn3 hza hzb) (cwI 1 C.2.2.2.2.1 gL_law_X6_init rfl rfl rfl (C.2.2.2.2.1 _ (List.mem_of_getElem? (i := 5) rfl)) (C.2.2.2.2.1 _ (List.mem_of_getElem? (i := 93) rfl)) (C.2.2.2.2.1 _ (List.mem_of_getElem? (i := 94) rfl)) rfl cdX6_init.2 ⟨(Nat.le_of_ble_eq_true rfl), (Nat.le_of_ble_eq_true rfl)⟩) rfl rfl (Nat.le_of_ble_eq_true rfl) ⟨(Nat.le_of_ble_eq_true rfl), (Nat.le_of_ble_eq_true rfl)⟩ ?_
  rintro ad4 e4 hg4 ⟨hM4, hE4⟩
  refine n_pc (pc2 := 25) rfl ?_
  refine n_nm (N2 := 66) (c2 := 74) (s2 := 2224) rfl rfl rfl ?_
  refine n_st (st2 := [.ref (ad4 53)]) (by rw [hg4 53 (by omega)]) ?_
  refine n_astore_n (lv' := [(0, .ref b), (1, .ref (ad2 0)), (2, .ref (ad4 53))]) C dL_law_25 rfl (by decide) rfl ?_
  refine n_iconst C dL_law_26 ?_
  refine n_st (st2 := [.int (iI ((1 : Nat) : Int))]) rfl ?_
  refine n_newL (n := 1) C dL_law_27 (List.mem_of_getElem? (i := 6) rfl) (Nat.le_of_ble_eq_true rfl) (Nat.le_of_ble_eq_true rfl) (Nat.le_of_ble_eq_true rfl) (fun ad e5 hg5 hE5 hn5 => ?_)
  refine n_nm (N2 := 67) (c2 := 75) (s2 := 2225) rfl rfl rfl ?_
  refine n_st (st2 := [.ref (ad 66)]) rfl ?_
  refine n_astore_n (lv' := [(0, .ref b), (1, .ref (ad2 0)), (2, .ref (ad4 53)), (3, .ref (ad 66))]) C dL_law_29 rfl (by decide) rfl ?_
  refine n_iconst C dL_law_30 ?_
  refine n_istore (lv' := [(0, .ref b), (1, .ref (ad2 0)), (2, .ref (ad4 53)), (3, .ref (ad 66)), (4, .int (iI 1))]) C dL_law_31 (by decide) rfl ?_
  have hg : ∀ j, j < 53 → ad j = ad2 j := fun j hj => (hg5 j (by omega)).trans ((hg4 j (by omega)).trans (hg3 j hj))
  have hD := hD2.mv hc2 hg (fun j hj => (hE5 j (by omega)).trans ((hE4 j hj).trans (hE3 j hj)))
  have hM := hM4.mv hg5 hE5
  refine n_lv (lv2 := [(0, .ref b), (1, .ref (ad 0)), (2, .ref (ad 53)), (3, .ref (ad 66)), (4, .int (iI ((1 : Nat) : Int)))]) (by rw [hg 0 (by omega), hg5 53 (by omega)]; rfl) ?_
  refine n_widen (c2 := 75 + 1) (s2 := 2225 + 6 * 1) (Nat.le_of_ble_eq_true rfl) (Nat.le_of_ble_eq_true rfl) ?_
  exact law_loop l C hlt hr hXB hSx hL hA _ 1 _ _ _ _ _ _ _ _ e5 (Nat.lt_succ_self _) (by omega) (by omega) hD hM hn5
