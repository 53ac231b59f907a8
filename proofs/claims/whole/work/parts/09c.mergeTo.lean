/-- what a merge gives: the result, the conflicts -/
def mrg (xs0 xs1 xs2 : List Int32) : List Int32 × Nat := mg xs0 xs1 xs2 (kp xs0 xs1 0 0) (kp xs0 xs2 0 0) 0 0 0 0
/-- the objects that comparing and merging use on the way -/
def WrkAt (G : GG) (ad : Nat → Nat) (ev : Nat → va_E) : Prop :=
  (∃ (qa qb : Nat) (M : Nat → Nat → Int32), CmpAt G ad ev qa qb M) ∧ ev 41 = .inr (1, [.ref (ad 42), .ref (ad 44), .ref (ad 46), .ref (ad 47), .ref (ad 48)]) ∧ (∃ zs, RowAt G ad ev 42 zs 20) ∧ (∃ zs, RowAt G ad ev 44 zs 20) ∧ (∃ (x : Nat) (a b : Int), ev 46 = .inr (4, [.ref x, .int (iI a), .int (iI b)])) ∧ (∃ (x : Nat) (a b : Int), ev 47 = .inr (4, [.ref x, .int (iI a), .int (iI b)])) ∧ (∃ (x : Nat) (a b : Int), ev 48 = .inr (4, [.ref x, .int (iI a), .int (iI b)]))
theorem WrkAt.fr {G : GG} {ad : Nat → Nat} {ev e2 : Nat → va_E} {S : Nat → Prop} (h : WrkAt G ad ev) (hF : Fr e2 ev S) (hS : ∀ j, (16 ≤ j ∧ j < 39) ∨ (41 ≤ j ∧ j < 49) → ¬ S j) : WrkAt G ad e2 := by
  obtain ⟨⟨qa, qb, M, h1⟩, h2, ⟨z1, h3⟩, ⟨z2, h4⟩, ⟨x0, a0, b0, h5⟩, ⟨x1, a1, b1, h6⟩, ⟨x2, a2, b2, h7⟩⟩ := h
  exact ⟨⟨qa, qb, M, h1.fr hF (fun j p q => hS j (Or.inl ⟨p, q⟩))⟩, (hF _ (hS 41 (by omega))).trans h2, ⟨z1, h3.fr hF (hS 42 (by omega)) (hS 43 (by omega))⟩, ⟨z2, h4.fr hF (hS 44 (by omega)) (hS 45 (by omega))⟩, ⟨x0, a0, b0, (hF _ (hS 46 (by omega))).trans h5⟩, ⟨x1, a1, b1, (hF _ (hS 47 (by omega))).trans h6⟩, ⟨x2, a2, b2, (hF _ (hS 48 (by omega))).trans h7⟩⟩
def pX1_begin (G : GG) (ad : Nat → Nat) (ev : Nat → va_E) (xs0 xs1 xs2 : List Int32) : Option Value → (Nat → va_E) → Prop := fun v e2 => v = none ∧ (∃ M : Nat → Nat → Int32, CmpAt G ad e2 2 6 M) ∧ e2 41 = .inr (1, [.ref (ad 42), .ref (ad 44), .ref (ad 46), .ref (ad 47), .ref (ad 48)]) ∧ RowAt G ad e2 42 ((kp xs0 xs1 0 0).map iI) 20 ∧ RowAt G ad e2 44 ((kp xs0 xs2 0 0).map iI) 20 ∧ StrAt ad e2 46 2 0 0 ∧ StrAt ad e2 47 4 0 0 ∧ StrAt ad e2 48 6 0 0 ∧ Fr e2 ev (fun j => (16 ≤ j ∧ j < 39) ∨ (42 ≤ j ∧ j < 49))
def pX1_mergeTo (G : GG) (ad : Nat → Nat) (ev : Nat → va_E) (r : Nat) (xs0 xs1 xs2 : List Int32) : Option Value → (Nat → va_E) → Prop := fun v e2 => v = some (.int (iI ((mrg xs0 xs1 xs2).2 : Int))) ∧ RowAt G ad e2 r (mrg xs0 xs1 xs2).1 123 ∧ WrkAt G ad e2 ∧ Fr e2 ev (fun j => (16 ≤ j ∧ j < 39) ∨ (42 ≤ j ∧ j < 49) ∨ j = r ∨ j = r + 1)

set_option maxHeartbeats 4000000 in
set_option maxRecDepth 100000 in
theorem TX1_begin (l : Launch) {G : GG} {N : Nat} {ad : Nat → Nat} {ev : Nat → va_E} {xs0 xs1 xs2 : List Int32} (hN : 53 ≤ N) (hW : WrkAt G ad ev) (r2 : RowAt G ad ev 2 xs0 20) (r4 : RowAt G ad ev 4 xs1 20) (r6 : RowAt G ad ev 6 xs2 20) : Ct l yX1_begin wsX1_begin rmX1_begin [.ref (ad 41), .ref (ad 2), .ref (ad 4), .ref (ad 6), .ref (ad 16)] G N ad ev 0 0 (pX1_begin G ad ev xs0 xs1 xs2) := by
  obtain ⟨⟨qa, qb, M, hc⟩, k41, ⟨z1, r42⟩, ⟨z2, r44⟩, ⟨t0, a0, b0, s46⟩, ⟨t1, a1, b1, s47⟩, ⟨t2, a2, b2, s48⟩⟩ := hW
  refine Ct_of (cc := cX1_begin) (maxL := 5) (ret := none) (lv := [(0, .ref (ad 41)), (1, .ref (ad 2)), (2, .ref (ad 4)), (3, .ref (ad 6)), (4, .ref (ad 16))]) (by decide) rfl (Nat.le_of_ble_eq_true rfl) rfl ?_
  intro p E s m args below meth c A C hr hnm
  refine n_aload C dX1_begin_0 4 rfl ?_
  refine n_aload_n C dX1_begin_2 1 rfl rfl ?_
  refine n_aload_n C dX1_begin_3 2 rfl rfl ?_
  refine n_callV (rest := []) C dX1_begin_4 (TX0_compare l hN hc r2 r4 (by omega) (by omega)) (cwV 2 C.2.2.2.2.1 gX1_begin_X0_compare rfl rfl rfl cdX0_compare ⟨Nat.le_of_ble_eq_true rfl, Nat.le_of_ble_eq_true rfl⟩) (by omega) hc.1 rfl rfl rfl (Nat.le_of_ble_eq_true rfl) ⟨Nat.le_of_ble_eq_true rfl, Nat.le_of_ble_eq_true rfl⟩ ?_
  rintro _ x1 ⟨rfl, ⟨M1, hc, ok9⟩, hF1⟩
  refine n_pc (pc2 := 7) rfl (n_st (st2 := []) rfl ?_)
  have r2 := r2.fr hF1 (by omega) (by omega)
  have r4 := r4.fr hF1 (by omega) (by omega)
  have r6 := r6.fr hF1 (by omega) (by omega)
  have r42 := r42.fr hF1 (by omega) (by omega)
  have r44 := r44.fr hF1 (by omega) (by omega)
  have k41 := (hF1 _ (by omega)).trans k41
  have s46 := (hF1 _ (by omega)).trans s46
  have s47 := (hF1 _ (by omega)).trans s47
  have s48 := (hF1 _ (by omega)).trans s48
  refine n_aload C dX1_begin_7 4 rfl ?_
  refine n_aload_n C dX1_begin_9 0 rfl rfl ?_
  refine n_get (k9 := 0) C dX1_begin_10 (by omega) k41 hX1_begin_X1 rfl (by decide) kX1_begin_14 rfl ?_
  refine n_callV (rest := []) C dX1_begin_13 (TX0_pairTo l hN hc r2 r4 (by omega) (by omega) ok9 (k := 42) (by omega) (by omega) r42) (cwV 1 C.2.2.2.2.1 gX1_begin_X0_pairTo rfl rfl rfl cdX0_pairTo ⟨Nat.le_of_ble_eq_true rfl, Nat.le_of_ble_eq_true rfl⟩) (by omega) hc.1 rfl rfl rfl (Nat.le_of_ble_eq_true rfl) ⟨Nat.le_of_ble_eq_true rfl, Nat.le_of_ble_eq_true rfl⟩ ?_
  rintro _ x2 ⟨rfl, r42, hF2⟩
  refine n_pc (pc2 := 16) rfl (n_st (st2 := []) rfl ?_)
  have r2 := r2.fr hF2 (by omega) (by omega)
  have r4 := r4.fr hF2 (by omega) (by omega)
  have r6 := r6.fr hF2 (by omega) (by omega)
  have r44 := r44.fr hF2 (by omega) (by omega)
  have k41 := (hF2 _ (by omega)).trans k41
  have s46 := (hF2 _ (by omega)).trans s46
  have s47 := (hF2 _ (by omega)).trans s47
  have s48 := (hF2 _ (by omega)).trans s48
  have hc := hc.fr hF2 (fun j h1 h2 => by omega)
  refine n_aload C dX1_begin_16 4 rfl ?_
  refine n_aload_n C dX1_begin_18 1 rfl rfl ?_
  refine n_aload_n C dX1_begin_19 3 rfl rfl ?_
  refine n_callV (rest := []) C dX1_begin_20 (TX0_compare l hN hc r2 r6 (by omega) (by omega)) (cwV 2 C.2.2.2.2.1 gX1_begin_X0_compare rfl rfl rfl cdX0_compare ⟨Nat.le_of_ble_eq_true rfl, Nat.le_of_ble_eq_true rfl⟩) (by omega) hc.1 rfl rfl rfl (Nat.le_of_ble_eq_true rfl) ⟨Nat.le_of_ble_eq_true rfl, Nat.le_of_ble_eq_true rfl⟩ ?_
  rintro _ x3 ⟨rfl, ⟨M2, hc, ok9⟩, hF3⟩
  refine n_pc (pc2 := 23) rfl (n_st (st2 := []) rfl ?_)
  have r2 := r2.fr hF3 (by omega) (by omega)
  have r4 := r4.fr hF3 (by omega) (by omega)
  have r6 := r6.fr hF3 (by omega) (by omega)
  have r42 := r42.fr hF3 (by omega) (by omega)
  have r44 := r44.fr hF3 (by omega) (by omega)
  have k41 := (hF3 _ (by omega)).trans k41
  have s46 := (hF3 _ (by omega)).trans s46
  have s47 := (hF3 _ (by omega)).trans s47
  have s48 := (hF3 _ (by omega)).trans s48
  refine n_aload C dX1_begin_23 4 rfl ?_
  refine n_aload_n C dX1_begin_25 0 rfl rfl ?_
  refine n_get (k9 := 1) C dX1_begin_26 (by omega) k41 hX1_begin_X1 rfl (by decide) kX1_begin_20 rfl ?_
  refine n_callV (rest := []) C dX1_begin_29 (TX0_pairTo l hN hc r2 r6 (by omega) (by omega) ok9 (k := 44) (by omega) (by omega) r44) (cwV 1 C.2.2.2.2.1 gX1_begin_X0_pairTo rfl rfl rfl cdX0_pairTo ⟨Nat.le_of_ble_eq_true rfl, Nat.le_of_ble_eq_true rfl⟩) (by omega) hc.1 rfl rfl rfl (Nat.le_of_ble_eq_true rfl) ⟨Nat.le_of_ble_eq_true rfl, Nat.le_of_ble_eq_true rfl⟩ ?_
  rintro _ x4 ⟨rfl, r44, hF4⟩
  refine n_pc (pc2 := 32) rfl (n_st (st2 := []) rfl ?_)
  have r2 := r2.fr hF4 (by omega) (by omega)
  have r4 := r4.fr hF4 (by omega) (by omega)
  have r6 := r6.fr hF4 (by omega) (by omega)
  have r42 := r42.fr hF4 (by omega) (by omega)
  have k41 := (hF4 _ (by omega)).trans k41
  have s46 := (hF4 _ (by omega)).trans s46
  have s47 := (hF4 _ (by omega)).trans s47
  have s48 := (hF4 _ (by omega)).trans s48
  have hc := hc.fr hF4 (fun j h1 h2 => by omega)
  refine n_aload_n C dX1_begin_32 0 rfl rfl ?_
  refine n_get (k9 := 2) C dX1_begin_33 (by omega) k41 hX1_begin_X1 rfl (by decide) kX1_begin_26 rfl ?_
  refine n_aload_n C dX1_begin_36 1 rfl rfl ?_
  refine n_callV (rest := []) C dX1_begin_37 (TX4_begin l (q := 2) (by omega) s46) (cwV 1 C.2.2.2.2.1 gX1_begin_X4_begin rfl rfl rfl cdX4_begin ⟨Nat.le_of_ble_eq_true rfl, Nat.le_of_ble_eq_true rfl⟩) (by omega) s46 rfl rfl rfl (Nat.le_of_ble_eq_true rfl) ⟨Nat.le_of_ble_eq_true rfl, Nat.le_of_ble_eq_true rfl⟩ ?_
  rintro _ x5 ⟨rfl, s46, hF5⟩
  refine n_pc (pc2 := 40) rfl (n_st (st2 := []) rfl ?_)
  have r42 := r42.fr hF5 (by omega) (by omega)
  have r44 := r44.fr hF5 (by omega) (by omega)
  have k41 := (hF5 _ (by omega)).trans k41
  have s47 := (hF5 _ (by omega)).trans s47
  have s48 := (hF5 _ (by omega)).trans s48
  have hc := hc.fr hF5 (fun j h1 h2 => by omega)
  refine n_aload_n C dX1_begin_40 0 rfl rfl ?_
  refine n_get (k9 := 3) C dX1_begin_41 (by omega) k41 hX1_begin_X1 rfl (by decide) kX1_begin_30 rfl ?_
  refine n_aload_n C dX1_begin_44 2 rfl rfl ?_
  refine n_callV (rest := []) C dX1_begin_45 (TX4_begin l (q := 4) (by omega) s47) (cwV 1 C.2.2.2.2.1 gX1_begin_X4_begin rfl rfl rfl cdX4_begin ⟨Nat.le_of_ble_eq_true rfl, Nat.le_of_ble_eq_true rfl⟩) (by omega) s47 rfl rfl rfl (Nat.le_of_ble_eq_true rfl) ⟨Nat.le_of_ble_eq_true rfl, Nat.le_of_ble_eq_true rfl⟩ ?_
  rintro _ x6 ⟨rfl, s47, hF6⟩
  refine n_pc (pc2 := 48) rfl (n_st (st2 := []) rfl ?_)
  have r42 := r42.fr hF6 (by omega) (by omega)
  have r44 := r44.fr hF6 (by omega) (by omega)
  have k41 := (hF6 _ (by omega)).trans k41
  have s48 := (hF6 _ (by omega)).trans s48
  have s46 := s46.fr hF6 (by omega)
  have hc := hc.fr hF6 (fun j h1 h2 => by omega)
  refine n_aload_n C dX1_begin_48 0 rfl rfl ?_
  refine n_get (k9 := 4) C dX1_begin_49 (by omega) k41 hX1_begin_X1 rfl (by decide) kX1_begin_33 rfl ?_
  refine n_aload_n C dX1_begin_52 3 rfl rfl ?_
  refine n_callV (rest := []) C dX1_begin_53 (TX4_begin l (q := 6) (by omega) s48) (cwV 1 C.2.2.2.2.1 gX1_begin_X4_begin rfl rfl rfl cdX4_begin ⟨Nat.le_of_ble_eq_true rfl, Nat.le_of_ble_eq_true rfl⟩) (by omega) s48 rfl rfl rfl (Nat.le_of_ble_eq_true rfl) ⟨Nat.le_of_ble_eq_true rfl, Nat.le_of_ble_eq_true rfl⟩ ?_
  rintro _ x7 ⟨rfl, s48, hF7⟩
  refine n_pc (pc2 := 56) rfl (n_st (st2 := []) rfl ?_)
  have r42 := r42.fr hF7 (by omega) (by omega)
  have r44 := r44.fr hF7 (by omega) (by omega)
  have k41 := (hF7 _ (by omega)).trans k41
  have s46 := s46.fr hF7 (by omega)
  have s47 := s47.fr hF7 (by omega)
  have hc := hc.fr hF7 (fun j h1 h2 => by omega)
  exact n_vret C hr dX1_begin_56 (⟨rfl, ⟨M2, hc⟩, k41, r42, r44, s46, s47, s48, fun j hj => (hF7 j (by omega)).trans ((hF6 j (by omega)).trans ((hF5 j (by omega)).trans ((hF4 j (by omega)).trans ((hF3 j (by omega)).trans ((hF2 j (by omega)).trans (hF1 j (by omega)))))))⟩)

set_option maxHeartbeats 4000000 in
set_option maxRecDepth 100000 in
theorem TX1_mergeTo (l : Launch) {G : GG} {N : Nat} {ad : Nat → Nat} {ev : Nat → va_E} {r : Nat} {xs0 xs1 xs2 : List Int32} {M2 : Nat → Nat → Int32} (hN : 53 ≤ N) (hc : CmpAt G ad ev 2 6 M2) (k41 : ev 41 = .inr (1, [.ref (ad 42), .ref (ad 44), .ref (ad 46), .ref (ad 47), .ref (ad 48)])) (r42 : RowAt G ad ev 42 ((kp xs0 xs1 0 0).map iI) 20) (r44 : RowAt G ad ev 44 ((kp xs0 xs2 0 0).map iI) 20) (s46 : StrAt ad ev 46 2 0 0) (s47 : StrAt ad ev 47 4 0 0) (s48 : StrAt ad ev 48 6 0 0) (r2 : RowAt G ad ev 2 xs0 20) (r4 : RowAt G ad ev 4 xs1 20) (r6 : RowAt G ad ev 6 xs2 20) (hr49 : 49 ≤ r) (hrN : r + 1 < N) (rr : RowAt G ad ev r [] 123) : Ct l yX1_mergeTo wsX1_mergeTo rmX1_mergeTo [.ref (ad 41), .ref (ad r)] G N ad ev 0 0 (pX1_mergeTo G ad ev r xs0 xs1 xs2) := by
  have hl0 := r2.le
  have hl1 := r4.le
  have hl2 := r6.le
  have ok1 := okW_kp xs0 xs1
  have ok2 := okW_kp xs0 xs2
  refine Ct_of (cc := cX1_mergeTo) (maxL := 4) (ret := some .int) (lv := [(0, .ref (ad 41)), (1, .ref (ad r))]) (by decide) rfl (Nat.le_of_ble_eq_true rfl) rfl ?_
  intro p E s m args below meth c A C hr hnm
  refine n_iconst C dX1_mergeTo_0 ?_
  refine n_istore_n (lv' := [(0, .ref (ad 41)), (1, .ref (ad r)), (2, .int (iI 0))]) C dX1_mergeTo_1 rfl (by decide) rfl ?_
  refine n_iconst C dX1_mergeTo_2 ?_
  refine n_istore_n (lv' := [(0, .ref (ad 41)), (1, .ref (ad r)), (2, .int (iI 0)), (3, .int (iI 0))]) C dX1_mergeTo_3 rfl (by decide) rfl ?_
  have loop : ∀ (n9 : Nat) (k b x y cf : Nat) (t0 t1 t2 : Int) (zs : List Int32) (M2 : Nat → Nat → Int32) (ex : Nat → va_E), xs0.length + 1 - k < n9 → (k ≤ xs0.length) → (b ≤ k) → (frW (kp xs0 xs1 0 0) xs1.length k x) → (frW (kp xs0 xs2 0 0) xs2.length k y) → (zs ++ (mg xs0 xs1 xs2 (kp xs0 xs1 0 0) (kp xs0 xs2 0 0) k b x y).1 = (mrg xs0 xs1 xs2).1) → (cf + (mg xs0 xs1 xs2 (kp xs0 xs1 0 0) (kp xs0 xs2 0 0) k b x y).2 = (mrg xs0 xs1 xs2).2) → (zs.length ≤ x + y + 2 * k) → (StrAt ad ex 46 2 (b : Nat) t0) → (StrAt ad ex 47 4 (x : Nat) t1) → (StrAt ad ex 48 6 (y : Nat) t2) → (RowAt G ad ex r zs 123) → (RowAt G ad ex 42 ((kp xs0 xs1 0 0).map iI) 20) → (RowAt G ad ex 44 ((kp xs0 xs2 0 0).map iI) 20) → (CmpAt G ad ex 2 6 M2) → (RowAt G ad ex 2 xs0 20) → (RowAt G ad ex 4 xs1 20) → (RowAt G ad ex 6 xs2 20) → (ex 41 = .inr (1, [.ref (ad 42), .ref (ad 44), .ref (ad 46), .ref (ad 47), .ref (ad 48)])) → (Fr ex ev (fun j => (16 ≤ j ∧ j < 39) ∨ (42 ≤ j ∧ j < 49) ∨ j = r ∨ j = r + 1)) → V p l E rmX1_mergeTo s m args below meth c G A 4 (MQ below (Qg G N ad A (pX1_mergeTo G ad ev r xs0 xs1 xs2)) args s 0 0 A) N ad ex 0 0 4 [(0, .ref (ad 41)), (1, .ref (ad r)), (2, .int (iI (cf : Int))), (3, .int (iI (k : Int)))] [] := by
    intro n9
    induction n9 with
    | zero =>
      intro k b x y cf t0 t1 t2 zs M2 ex hm9
      exact absurd hm9 (Nat.not_lt_zero _)
    | succ n9 ih =>
      intro k b x y cf t0 t1 t2 zs M2 ex hm9 hk hbk fx fy hz hcf hzl s46 s47 s48 rr r42 r44 hc r2 r4 r6 k41 hFx
      have fx1 := fx.1
      have fy1 := fy.1
      refine n_iload_n C dX1_mergeTo_4 3 rfl rfl ?_
      refine n_aload_n C dX1_mergeTo_5 0 rfl rfl ?_
      refine n_get (k9 := 2) C dX1_mergeTo_6 (by omega) k41 hX1_mergeTo_X1 rfl (by decide) kX1_mergeTo_26 rfl ?_
      refine n_callV (rest := [.int (iI (k : Int))]) C dX1_mergeTo_9 (TX4_endOfRow l (by omega) s46 (by omega) r2) (cwV 0 C.2.2.2.2.1 gX1_mergeTo_X4_endOfRow rfl rfl rfl cdX4_endOfRow ⟨Nat.le_of_ble_eq_true rfl, Nat.le_of_ble_eq_true rfl⟩) (by omega) s46 rfl rfl rfl (Nat.le_of_ble_eq_true rfl) ⟨Nat.le_of_ble_eq_true rfl, Nat.le_of_ble_eq_true rfl⟩ ?_
      rintro _ _ ⟨rfl, rfl⟩
      refine n_pc (pc2 := 12) rfl (n_st (st2 := [.int (iI (xs0.length : Int)), .int (iI (k : Int))]) rfl ?_)
      refine n_icmp_ge C dX1_mergeTo_12 (by decide) (by omega) (by omega) (by omega) (by omega) (tgt := 77) (fun c1 => ?_) (fun c1 => ?_)
      · have hke : k = xs0.length := by omega
        subst hke
        rw [mg_end (Nat.le_refl _)] at hz hcf
        refine n_aload_n C dX1_mergeTo_77 0 rfl rfl ?_
        refine n_aload_n C dX1_mergeTo_78 0 rfl rfl ?_
        refine n_get (k9 := 2) C dX1_mergeTo_79 (by omega) k41 hX1_mergeTo_X1 rfl (by decide) kX1_mergeTo_26 rfl ?_
        refine n_callV (rest := [.ref (ad 41)]) C dX1_mergeTo_82 (TX4_endOfRow l (by omega) s46 (by omega) r2) (cwV 0 C.2.2.2.2.1 gX1_mergeTo_X4_endOfRow rfl rfl rfl cdX4_endOfRow ⟨Nat.le_of_ble_eq_true rfl, Nat.le_of_ble_eq_true rfl⟩) (by omega) s46 rfl rfl rfl (Nat.le_of_ble_eq_true rfl) ⟨Nat.le_of_ble_eq_true rfl, Nat.le_of_ble_eq_true rfl⟩ ?_
        rintro _ _ ⟨rfl, rfl⟩
        refine n_pc (pc2 := 85) rfl (n_st (st2 := [.int (iI (xs0.length : Int)), .ref (ad 41)]) rfl ?_)
        refine n_aload_n C dX1_mergeTo_85 0 rfl rfl ?_
        refine n_get (k9 := 3) C dX1_mergeTo_86 (by omega) k41 hX1_mergeTo_X1 rfl (by decide) kX1_mergeTo_30 rfl ?_
        refine n_callV (rest := [.int (iI (xs0.length : Int)), .ref (ad 41)]) C dX1_mergeTo_89 (TX4_endOfRow l (by omega) s47 (by omega) r4) (cwV 0 C.2.2.2.2.1 gX1_mergeTo_X4_endOfRow rfl rfl rfl cdX4_endOfRow ⟨Nat.le_of_ble_eq_true rfl, Nat.le_of_ble_eq_true rfl⟩) (by omega) s47 rfl rfl rfl (Nat.le_of_ble_eq_true rfl) ⟨Nat.le_of_ble_eq_true rfl, Nat.le_of_ble_eq_true rfl⟩ ?_
        rintro _ _ ⟨rfl, rfl⟩
        refine n_pc (pc2 := 92) rfl (n_st (st2 := [.int (iI (xs1.length : Int)), .int (iI (xs0.length : Int)), .ref (ad 41)]) rfl ?_)
        refine n_aload_n C dX1_mergeTo_92 0 rfl rfl ?_
        refine n_get (k9 := 4) C dX1_mergeTo_93 (by omega) k41 hX1_mergeTo_X1 rfl (by decide) kX1_mergeTo_33 rfl ?_
        refine n_callV (rest := [.int (iI (xs1.length : Int)), .int (iI (xs0.length : Int)), .ref (ad 41)]) C dX1_mergeTo_96 (TX4_endOfRow l (by omega) s48 (by omega) r6) (cwV 0 C.2.2.2.2.1 gX1_mergeTo_X4_endOfRow rfl rfl rfl cdX4_endOfRow ⟨Nat.le_of_ble_eq_true rfl, Nat.le_of_ble_eq_true rfl⟩) (by omega) s48 rfl rfl rfl (Nat.le_of_ble_eq_true rfl) ⟨Nat.le_of_ble_eq_true rfl, Nat.le_of_ble_eq_true rfl⟩ ?_
        rintro _ _ ⟨rfl, rfl⟩
        refine n_pc (pc2 := 99) rfl (n_st (st2 := [.int (iI (xs2.length : Int)), .int (iI (xs1.length : Int)), .int (iI (xs0.length : Int)), .ref (ad 41)]) rfl ?_)
        refine n_callV (rest := []) C dX1_mergeTo_99 (TX1_endStretches l hN k41 s46 s47 s48) (cwV 3 C.2.2.2.2.1 gX1_mergeTo_X1_endStretches rfl rfl rfl cdX1_endStretches ⟨Nat.le_of_ble_eq_true rfl, Nat.le_of_ble_eq_true rfl⟩) (by omega) k41 rfl rfl rfl (Nat.le_of_ble_eq_true rfl) ⟨Nat.le_of_ble_eq_true rfl, Nat.le_of_ble_eq_true rfl⟩ ?_
        rintro _ e1 ⟨rfl, s46, s47, s48, hG1⟩
        refine n_pc (pc2 := 102) rfl (n_st (st2 := []) rfl ?_)
        have r2 := r2.fr hG1 (by omega) (by omega)
        have r4 := r4.fr hG1 (by omega) (by omega)
        have r6 := r6.fr hG1 (by omega) (by omega)
        have rr := rr.fr hG1 (by omega) (by omega)
        have r42 := r42.fr hG1 (by omega) (by omega)
        have r44 := r44.fr hG1 (by omega) (by omega)
        have k41 := (hG1 _ (by omega)).trans k41
        have hc := hc.fr hG1 (fun j h1 h2 => by omega)
        refine n_iload_n C dX1_mergeTo_102 2 rfl rfl ?_
        refine n_aload_n C dX1_mergeTo_103 0 rfl rfl ?_
        refine n_aload_n C dX1_mergeTo_104 1 rfl rfl ?_
        refine n_callV (rest := [.int (iI (cf : Int))]) C dX1_mergeTo_105 (TX1_mergeStretch l hN k41 r2 r4 r6 hr49 hrN rr s46 s47 s48 (by omega) (by omega) (by omega) (by omega) (by omega) (by omega) (by omega)) (cwV 1 C.2.2.2.2.1 gX1_mergeTo_X1_mergeStretch rfl rfl rfl cdX1_mergeStretch ⟨Nat.le_of_ble_eq_true rfl, Nat.le_of_ble_eq_true rfl⟩) (by omega) k41 rfl rfl rfl (Nat.le_of_ble_eq_true rfl) ⟨Nat.le_of_ble_eq_true rfl, Nat.le_of_ble_eq_true rfl⟩ ?_
        rintro _ e2 ⟨rfl, rr, hG2⟩
        refine n_pc (pc2 := 108) rfl (n_st (st2 := [.int (iI ((mst (sl xs0 b xs0.length) (sl xs1 x xs1.length) (sl xs2 y xs2.length)).2 : Int)), .int (iI (cf : Int))]) rfl ?_)
        have r42 := r42.fr hG2 (by omega) (by omega)
        have r44 := r44.fr hG2 (by omega) (by omega)
        have k41 := (hG2 _ (by omega)).trans k41
        have s46 := s46.fr hG2 (by omega)
        have s47 := s47.fr hG2 (by omega)
        have s48 := s48.fr hG2 (by omega)
        have hc := hc.fr hG2 (fun j h1 h2 => by omega)
        refine n_iadd C dX1_mergeTo_108 ?_
        exact n_iret C hr dX1_mergeTo_109 (⟨by rw [← hcf]; simp, by rw [← hz]; exact rr, ⟨⟨2, 6, M2, hc⟩, k41, ⟨_, r42⟩, ⟨_, r44⟩, ⟨_, _, _, s46⟩, ⟨_, _, _, s47⟩, ⟨_, _, _, s48⟩⟩, fun j hj => (hG2 j (by omega)).trans ((hG1 j (by omega)).trans (hFx j hj))⟩)
      · obtain ⟨p9, hp9⟩ := some_of_lt (show k < (kp xs0 xs1 0 0).length by rw [ok1.1]; omega)
        obtain ⟨q9, hq9⟩ := some_of_lt (show k < (kp xs0 xs2 0 0).length by rw [ok2.1]; omega)
        have bp := ok1.2.1 k p9 hp9
        have bq := ok2.2.1 k q9 hq9
        refine n_aload_n C dX1_mergeTo_15 0 rfl rfl ?_
        refine n_iload_n C dX1_mergeTo_16 3 rfl rfl ?_
        refine n_callV (rest := []) C dX1_mergeTo_17 (TX1_isStable l hN k41 r42 r44 hp9 hq9 (by omega) (by omega) (by omega) (by omega)) (cwV 1 C.2.2.2.2.1 gX1_mergeTo_X1_isStable rfl rfl rfl cdX1_isStable ⟨Nat.le_of_ble_eq_true rfl, Nat.le_of_ble_eq_true rfl⟩) (by omega) k41 rfl rfl rfl (Nat.le_of_ble_eq_true rfl) ⟨Nat.le_of_ble_eq_true rfl, Nat.le_of_ble_eq_true rfl⟩ ?_
        rintro _ _ ⟨rfl, rfl⟩
        refine n_pc (pc2 := 20) rfl (n_st (st2 := [.int (bI (decide (p9 ≠ -1 ∧ q9 ≠ -1)))]) rfl ?_)
        refine n_if_eqB C dX1_mergeTo_20 (by decide) (tgt := 71) (fun c2 => ?_) (fun c2 => ?_)
        · have hns := of_decide_eq_false c2
          rw [mg_no (by omega) hp9 hq9 (by omega)] at hz hcf
          refine n_iinc (lv' := [(0, .ref (ad 41)), (1, .ref (ad r)), (2, .int (iI (cf : Int))), (3, .int (iI ((k : Int) + 1)))]) C dX1_mergeTo_71 3 rfl (by decide) rfl ?_
          refine n_goto (tgt := 4) C dX1_mergeTo_74 (by decide) ?_
          refine n_lv (lv2 := [(0, .ref (ad 41)), (1, .ref (ad r)), (2, .int (iI (cf : Int))), (3, .int (iI ((k + 1 : Nat) : Int)))]) (by simp) ?_
          exact ih (k + 1) b x y cf t0 t1 t2 zs M2 ex (by omega) (by omega) (by omega) (frW_no fx) (frW_no fy) hz hcf (by omega) s46 s47 s48 rr r42 r44 hc r2 r4 r6 k41 hFx
        · have hst := of_decide_eq_true c2
          have gx := fx.2 k p9 (Nat.le_refl k) hp9 hst.1
          have gy := fy.2 k q9 (Nat.le_refl k) hq9 hst.2
          obtain ⟨p, rfl⟩ : ∃ p : Nat, p9 = (p : Int) := ⟨p9.toNat, by omega⟩
          obtain ⟨q, rfl⟩ : ∃ q : Nat, q9 = (q : Int) := ⟨q9.toNat, by omega⟩
          obtain ⟨s9, hs9⟩ := some_of_lt (show k < xs0.length by omega)
          rw [mg_st (by omega) hp9 hq9 hs9] at hz hcf
          have m1 : ((kp xs0 xs1 0 0).map iI)[k]? = some (iI (p : Int)) := by rw [List.getElem?_map, hp9]; rfl
          have m2 : ((kp xs0 xs2 0 0).map iI)[k]? = some (iI (q : Int)) := by rw [List.getElem?_map, hq9]; rfl
          refine n_aload_n C dX1_mergeTo_23 0 rfl rfl ?_
          refine n_iload_n C dX1_mergeTo_24 3 rfl rfl ?_
          refine n_aload_n C dX1_mergeTo_25 0 rfl rfl ?_
          refine n_get (k9 := 0) C dX1_mergeTo_26 (by omega) k41 hX1_mergeTo_X1 rfl (by decide) kX1_mergeTo_14 rfl ?_
          refine n_iload_n C dX1_mergeTo_29 3 rfl rfl ?_
          refine n_iconst C dX1_mergeTo_30 ?_
          refine n_callV (rest := [.int (iI (k : Int)), .ref (ad 41)]) C dX1_mergeTo_31 (TX2_at l (i := 42) (by omega) r42 (by omega) (by omega)) (cwV 2 C.2.2.2.2.1 gX1_mergeTo_X2_at rfl rfl rfl cdX2_at ⟨Nat.le_of_ble_eq_true rfl, Nat.le_of_ble_eq_true rfl⟩) (by omega) r42.obj rfl rfl rfl (Nat.le_of_ble_eq_true rfl) ⟨Nat.le_of_ble_eq_true rfl, Nat.le_of_ble_eq_true rfl⟩ ?_
          rintro _ _ ⟨rfl, rfl⟩
          refine n_pc (pc2 := 34) rfl (n_st (st2 := [.int (atD ((kp xs0 xs1 0 0).map iI) (k : Int) (iI (-1))), .int (iI (k : Int)), .ref (ad 41)]) rfl ?_)
          refine n_topI (y := (iI (p : Int))) (atD_in rfl (by rw [List.length_map, ok1.1]; omega) m1) ?_
          refine n_aload_n C dX1_mergeTo_34 0 rfl rfl ?_
          refine n_get (k9 := 1) C dX1_mergeTo_35 (by omega) k41 hX1_mergeTo_X1 rfl (by decide) kX1_mergeTo_20 rfl ?_
          refine n_iload_n C dX1_mergeTo_38 3 rfl rfl ?_
          refine n_iconst C dX1_mergeTo_39 ?_
          refine n_callV (rest := [.int (iI (p : Int)), .int (iI (k : Int)), .ref (ad 41)]) C dX1_mergeTo_40 (TX2_at l (i := 44) (by omega) r44 (by omega) (by omega)) (cwV 2 C.2.2.2.2.1 gX1_mergeTo_X2_at rfl rfl rfl cdX2_at ⟨Nat.le_of_ble_eq_true rfl, Nat.le_of_ble_eq_true rfl⟩) (by omega) r44.obj rfl rfl rfl (Nat.le_of_ble_eq_true rfl) ⟨Nat.le_of_ble_eq_true rfl, Nat.le_of_ble_eq_true rfl⟩ ?_
          rintro _ _ ⟨rfl, rfl⟩
          refine n_pc (pc2 := 43) rfl (n_st (st2 := [.int (atD ((kp xs0 xs2 0 0).map iI) (k : Int) (iI (-1))), .int (iI (p : Int)), .int (iI (k : Int)), .ref (ad 41)]) rfl ?_)
          refine n_topI (y := (iI (q : Int))) (atD_in rfl (by rw [List.length_map, ok2.1]; omega) m2) ?_
          refine n_callV (rest := []) C dX1_mergeTo_43 (TX1_endStretches l hN k41 s46 s47 s48) (cwV 3 C.2.2.2.2.1 gX1_mergeTo_X1_endStretches rfl rfl rfl cdX1_endStretches ⟨Nat.le_of_ble_eq_true rfl, Nat.le_of_ble_eq_true rfl⟩) (by omega) k41 rfl rfl rfl (Nat.le_of_ble_eq_true rfl) ⟨Nat.le_of_ble_eq_true rfl, Nat.le_of_ble_eq_true rfl⟩ ?_
          rintro _ e1 ⟨rfl, s46, s47, s48, hG1⟩
          refine n_pc (pc2 := 46) rfl (n_st (st2 := []) rfl ?_)
          have r2 := r2.fr hG1 (by omega) (by omega)
          have r4 := r4.fr hG1 (by omega) (by omega)
          have r6 := r6.fr hG1 (by omega) (by omega)
          have rr := rr.fr hG1 (by omega) (by omega)
          have r42 := r42.fr hG1 (by omega) (by omega)
          have r44 := r44.fr hG1 (by omega) (by omega)
          have k41 := (hG1 _ (by omega)).trans k41
          have hc := hc.fr hG1 (fun j h1 h2 => by omega)
          have hm9 := (mst_le (sl xs0 b k) (sl xs1 x p) (sl xs2 y q)).1
          rw [sl_len (by omega), sl_len (by omega)] at hm9
          refine n_iload_n C dX1_mergeTo_46 2 rfl rfl ?_
          refine n_aload_n C dX1_mergeTo_47 0 rfl rfl ?_
          refine n_aload_n C dX1_mergeTo_48 1 rfl rfl ?_
          refine n_callV (rest := [.int (iI (cf : Int))]) C dX1_mergeTo_49 (TX1_mergeStretch l hN k41 r2 r4 r6 hr49 hrN rr s46 s47 s48 (by omega) (by omega) (by omega) (by omega) (by omega) (by omega) (by omega)) (cwV 1 C.2.2.2.2.1 gX1_mergeTo_X1_mergeStretch rfl rfl rfl cdX1_mergeStretch ⟨Nat.le_of_ble_eq_true rfl, Nat.le_of_ble_eq_true rfl⟩) (by omega) k41 rfl rfl rfl (Nat.le_of_ble_eq_true rfl) ⟨Nat.le_of_ble_eq_true rfl, Nat.le_of_ble_eq_true rfl⟩ ?_
          rintro _ e2 ⟨rfl, rr, hG2⟩
          refine n_pc (pc2 := 52) rfl (n_st (st2 := [.int (iI ((mst (sl xs0 b k) (sl xs1 x p) (sl xs2 y q)).2 : Int)), .int (iI (cf : Int))]) rfl ?_)
          have r2 := r2.fr hG2 (by omega) (by omega)
          have r4 := r4.fr hG2 (by omega) (by omega)
          have r6 := r6.fr hG2 (by omega) (by omega)
          have r42 := r42.fr hG2 (by omega) (by omega)
          have r44 := r44.fr hG2 (by omega) (by omega)
          have k41 := (hG2 _ (by omega)).trans k41
          have s46 := s46.fr hG2 (by omega)
          have s47 := s47.fr hG2 (by omega)
          have s48 := s48.fr hG2 (by omega)
          have hc := hc.fr hG2 (fun j h1 h2 => by omega)
          refine n_iadd C dX1_mergeTo_52 ?_
          refine n_istore_n (lv' := [(0, .ref (ad 41)), (1, .ref (ad r)), (2, .int (iI ((cf : Int) + ((mst (sl xs0 b k) (sl xs1 x p) (sl xs2 y q)).2 : Int)))), (3, .int (iI (k : Int)))]) C dX1_mergeTo_53 rfl (by decide) rfl ?_
          refine n_aload_n C dX1_mergeTo_54 1 rfl rfl ?_
          refine n_aload_n C dX1_mergeTo_55 0 rfl rfl ?_
          refine n_get (k9 := 2) C dX1_mergeTo_56 (by omega) k41 hX1_mergeTo_X1 rfl (by decide) kX1_mergeTo_26 rfl ?_
          refine n_iload_n C dX1_mergeTo_59 3 rfl rfl ?_
          refine n_callV (rest := [.ref (ad r)]) C dX1_mergeTo_60 (TX4_symbolAt l (by omega) s46 (by omega) r2 (by omega) (by omega)) (cwV 1 C.2.2.2.2.1 gX1_mergeTo_X4_symbolAt rfl rfl rfl cdX4_symbolAt ⟨Nat.le_of_ble_eq_true rfl, Nat.le_of_ble_eq_true rfl⟩) (by omega) s46 rfl rfl rfl (Nat.le_of_ble_eq_true rfl) ⟨Nat.le_of_ble_eq_true rfl, Nat.le_of_ble_eq_true rfl⟩ ?_
          rintro _ _ ⟨rfl, rfl⟩
          refine n_pc (pc2 := 63) rfl (n_st (st2 := [.int (atD xs0 (k : Int) (iI (-1))), .ref (ad r)]) rfl ?_)
          refine n_topI (y := s9) (atD_in rfl (by omega) hs9) ?_
          refine n_callV (rest := []) C dX1_mergeTo_63 (TX2_add l (i := r) hrN rr (x := s9)) (cwV 1 C.2.2.2.2.1 gX1_mergeTo_X2_add rfl rfl rfl cdX2_add ⟨Nat.le_of_ble_eq_true rfl, Nat.le_of_ble_eq_true rfl⟩) (by omega) rr.obj rfl rfl rfl (Nat.le_of_ble_eq_true rfl) ⟨Nat.le_of_ble_eq_true rfl, Nat.le_of_ble_eq_true rfl⟩ ?_
          rintro _ e3 ⟨rfl, rr, hG3⟩
          refine n_pc (pc2 := 66) rfl (n_st (st2 := [.int (bI (decide ((zs ++ (mst (sl xs0 b k) (sl xs1 x p) (sl xs2 y q)).1).length < 123)))]) rfl ?_)
          rw [if_pos (by rw [List.length_append]; omega)] at rr
          have r2 := r2.fr hG3 (by omega) (by omega)
          have r4 := r4.fr hG3 (by omega) (by omega)
          have r6 := r6.fr hG3 (by omega) (by omega)
          have r42 := r42.fr hG3 (by omega) (by omega)
          have r44 := r44.fr hG3 (by omega) (by omega)
          have k41 := (hG3 _ (by omega)).trans k41
          have s46 := s46.fr hG3 (by omega)
          have s47 := s47.fr hG3 (by omega)
          have s48 := s48.fr hG3 (by omega)
          have hc := hc.fr hG3 (fun j h1 h2 => by omega)
          refine n_pop C dX1_mergeTo_66 rfl ?_
          refine n_aload_n C dX1_mergeTo_67 0 rfl rfl ?_
          refine n_callV (rest := []) C dX1_mergeTo_68 (TX1_goOnBehindStable l hN k41 s46 s47 s48) (cwV 0 C.2.2.2.2.1 gX1_mergeTo_X1_goOnBehindStable rfl rfl rfl cdX1_goOnBehindStable ⟨Nat.le_of_ble_eq_true rfl, Nat.le_of_ble_eq_true rfl⟩) (by omega) k41 rfl rfl rfl (Nat.le_of_ble_eq_true rfl) ⟨Nat.le_of_ble_eq_true rfl, Nat.le_of_ble_eq_true rfl⟩ ?_
          rintro _ e4 ⟨rfl, s46, s47, s48, hG4⟩
          refine n_pc (pc2 := 71) rfl (n_st (st2 := []) rfl ?_)
          have r2 := r2.fr hG4 (by omega) (by omega)
          have r4 := r4.fr hG4 (by omega) (by omega)
          have r6 := r6.fr hG4 (by omega) (by omega)
          have rr := rr.fr hG4 (by omega) (by omega)
          have r42 := r42.fr hG4 (by omega) (by omega)
          have r44 := r44.fr hG4 (by omega) (by omega)
          have k41 := (hG4 _ (by omega)).trans k41
          have hc := hc.fr hG4 (fun j h1 h2 => by omega)
          refine n_iinc (lv' := [(0, .ref (ad 41)), (1, .ref (ad r)), (2, .int (iI ((cf : Int) + ((mst (sl xs0 b k) (sl xs1 x p) (sl xs2 y q)).2 : Int)))), (3, .int (iI ((k : Int) + 1)))]) C dX1_mergeTo_71 3 rfl (by decide) rfl ?_
          refine n_goto (tgt := 4) C dX1_mergeTo_74 (by decide) ?_
          refine n_lv (lv2 := [(0, .ref (ad 41)), (1, .ref (ad r)), (2, .int (iI ((cf + (mst (sl xs0 b k) (sl xs1 x p) (sl xs2 y q)).2 : Nat) : Int))), (3, .int (iI ((k + 1 : Nat) : Int)))]) (by simp) ?_
          exact ih (k + 1) (k + 1) (p + 1) (q + 1) _ _ _ _ _ M2 e4 (by omega) (by omega) (Nat.le_refl _) (frW_st ok1 hp9) (frW_st ok2 hq9) (by rw [← hz]; simp only [List.append_assoc]) (by rw [← hcf]; omega) (by simp only [List.length_append, List.length_cons, List.length_nil]; omega) s46 s47 s48 rr r42 r44 hc r2 r4 r6 k41 (fun j hj => (hG4 j (by omega)).trans ((hG3 j (by omega)).trans ((hG2 j (by omega)).trans ((hG1 j (by omega)).trans (hFx j hj)))))
  exact loop _ 0 0 0 0 0 0 0 0 [] M2 ev (Nat.lt_succ_self _) (Nat.zero_le _) (Nat.le_refl _) (frW_0 ok1) (frW_0 ok2) rfl (Nat.zero_add _) (Nat.zero_le _) s46 s47 s48 rr r42 r44 hc r2 r4 r6 k41 Fr.rf
