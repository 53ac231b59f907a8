/-- what a merge gives: the result, the conflicts -/
def mrg (xs0 xs1 xs2 : List Int32) : List Int32 × Nat := mg xs0 xs1 xs2 (kp xs0 xs1 0 0) (kp xs0 xs2 0 0) 0 0 0 0
/-- the objects that comparing and merging use on the way -/
def WrkAt (G : GG) (ad : Nat → Nat) (ev : Nat → va_E) : Prop :=
  (∃ (qa qb : Nat) (M : Nat → Nat → Int32), CmpAt G ad ev qa qb M) ∧ ev 41 = .inr (1, [.ref (ad 2), .ref (ad 4), .ref (ad 6), .ref (ad 42), .ref (ad 44), .ref (ad 46), .ref (ad 47), .ref (ad 48)]) ∧ (∃ zs, RowAt G ad ev 42 zs 20) ∧ (∃ zs, RowAt G ad ev 44 zs 20) ∧ (∃ a b : Int, StrAt ad ev 46 2 a b) ∧ (∃ a b : Int, StrAt ad ev 47 4 a b) ∧ ∃ a b : Int, StrAt ad ev 48 6 a b
theorem WrkAt.fr {G : GG} {ad : Nat → Nat} {ev e2 : Nat → va_E} {S : Nat → Prop} (h : WrkAt G ad ev) (hF : Fr e2 ev S) (hS : ∀ j, (16 ≤ j ∧ j < 39) ∨ (41 ≤ j ∧ j < 49) → ¬ S j) : WrkAt G ad e2 := by
  obtain ⟨⟨qa, qb, M, h1⟩, h2, ⟨z1, h3⟩, ⟨z2, h4⟩, ⟨a0, b0, h5⟩, ⟨a1, b1, h6⟩, ⟨a2, b2, h7⟩⟩ := h
  exact ⟨⟨qa, qb, M, h1.fr hF (fun j p q => hS j (Or.inl ⟨p, q⟩))⟩, (hF _ (hS 41 (by omega))).trans h2, ⟨z1, h3.fr hF (hS 42 (by omega)) (hS 43 (by omega))⟩, ⟨z2, h4.fr hF (hS 44 (by omega)) (hS 45 (by omega))⟩, ⟨a0, b0, h5.fr hF (hS 46 (by omega))⟩, ⟨a1, b1, h6.fr hF (hS 47 (by omega))⟩, ⟨a2, b2, h7.fr hF (hS 48 (by omega))⟩⟩
def pX1_mergeTo (G : GG) (ad : Nat → Nat) (ev : Nat → va_E) (r : Nat) (xs0 xs1 xs2 : List Int32) : Option Value → (Nat → va_E) → Prop := fun v e2 => v = some (.int (iI ((mrg xs0 xs1 xs2).2 : Int))) ∧ RowAt G ad e2 r (mrg xs0 xs1 xs2).1 123 ∧ WrkAt G ad e2 ∧ Fr e2 ev (fun j => (16 ≤ j ∧ j < 39) ∨ (42 ≤ j ∧ j < 49) ∨ j = r ∨ j = r + 1)

set_option maxHeartbeats 4000000 in
set_option maxRecDepth 100000 in
theorem TX1_mergeTo (l : Launch) {G : GG} {N : Nat} {ad : Nat → Nat} {ev : Nat → va_E} {r : Nat} {xs0 xs1 xs2 : List Int32} (hN : 53 ≤ N) (hW : WrkAt G ad ev) (r2 : RowAt G ad ev 2 xs0 20) (r4 : RowAt G ad ev 4 xs1 20) (r6 : RowAt G ad ev 6 xs2 20) (hr49 : 49 ≤ r) (hrN : r + 1 < N) (rr : RowAt G ad ev r [] 123) : Ct l yX1_mergeTo wsX1_mergeTo rmX1_mergeTo [.ref (ad 41), .ref (ad r), .ref (ad 16)] G N ad ev 0 0 (pX1_mergeTo G ad ev r xs0 xs1 xs2) := by
  have hl0 := r2.le
  have hl1 := r4.le
  have hl2 := r6.le
  obtain ⟨⟨qa, qb, M, hc⟩, k41, ⟨z1, r42⟩, ⟨z2, r44⟩, ⟨a0, b0, s46⟩, ⟨a1, b1, s47⟩, ⟨a2, b2, s48⟩⟩ := hW
  have ok1 := okW_kp xs0 xs1
  have ok2 := okW_kp xs0 xs2
  refine Ct_of (cc := cX1_mergeTo) (maxL := 5) (ret := some .int) (lv := [(0, .ref (ad 41)), (1, .ref (ad r)), (2, .ref (ad 16))]) (by decide) rfl (Nat.le_of_ble_eq_true rfl) rfl ?_
  intro p E s m args below meth c A C hr hnm
  refine n_aload_n C dX1_mergeTo_0 2 rfl rfl ?_
  refine n_aload_n C dX1_mergeTo_1 0 rfl rfl ?_
  refine n_get (k9 := 0) C dX1_mergeTo_2 (by omega) k41 hX1_mergeTo_X1 rfl (by decide) kX1_mergeTo_9 rfl ?_
  refine n_aload_n C dX1_mergeTo_5 0 rfl rfl ?_
  refine n_get (k9 := 1) C dX1_mergeTo_6 (by omega) k41 hX1_mergeTo_X1 rfl (by decide) kX1_mergeTo_15 rfl ?_
  refine n_callV (rest := []) C dX1_mergeTo_9 (TX0_compare l hN hc r2 r4 (by omega) (by omega)) (cwV 2 C.2.2.2.2.1 gX1_mergeTo_X0_compare rfl rfl rfl cdX0_compare ⟨Nat.le_of_ble_eq_true rfl, Nat.le_of_ble_eq_true rfl⟩) (by omega) hc.1 rfl rfl rfl (Nat.le_of_ble_eq_true rfl) ⟨Nat.le_of_ble_eq_true rfl, Nat.le_of_ble_eq_true rfl⟩ ?_
  rintro _ x1 ⟨rfl, ⟨M1, hc, ok9⟩, hF1⟩
  refine n_pc (pc2 := 12) rfl (n_st (st2 := []) rfl ?_)
  have r2 := r2.fr hF1 (by omega) (by omega)
  have r4 := r4.fr hF1 (by omega) (by omega)
  have r6 := r6.fr hF1 (by omega) (by omega)
  have r42 := r42.fr hF1 (by omega) (by omega)
  have r44 := r44.fr hF1 (by omega) (by omega)
  have rr := rr.fr hF1 (by omega) (by omega)
  have k41 := (hF1 _ (by omega)).trans k41
  have s46 := s46.fr hF1 (by omega)
  have s47 := s47.fr hF1 (by omega)
  have s48 := s48.fr hF1 (by omega)
  refine n_aload_n C dX1_mergeTo_12 2 rfl rfl ?_
  refine n_aload_n C dX1_mergeTo_13 0 rfl rfl ?_
  refine n_get (k9 := 3) C dX1_mergeTo_14 (by omega) k41 hX1_mergeTo_X1 rfl (by decide) kX1_mergeTo_26 rfl ?_
  refine n_callV (rest := []) C dX1_mergeTo_17 (TX0_pairTo l hN hc r2 r4 (by omega) (by omega) ok9 (k := 42) (by omega) (by omega) r42) (cwV 1 C.2.2.2.2.1 gX1_mergeTo_X0_pairTo rfl rfl rfl cdX0_pairTo ⟨Nat.le_of_ble_eq_true rfl, Nat.le_of_ble_eq_true rfl⟩) (by omega) hc.1 rfl rfl rfl (Nat.le_of_ble_eq_true rfl) ⟨Nat.le_of_ble_eq_true rfl, Nat.le_of_ble_eq_true rfl⟩ ?_
  rintro _ x2 ⟨rfl, r42, hF2⟩
  refine n_pc (pc2 := 20) rfl (n_st (st2 := []) rfl ?_)
  have r2 := r2.fr hF2 (by omega) (by omega)
  have r4 := r4.fr hF2 (by omega) (by omega)
  have r6 := r6.fr hF2 (by omega) (by omega)
  have r44 := r44.fr hF2 (by omega) (by omega)
  have rr := rr.fr hF2 (by omega) (by omega)
  have k41 := (hF2 _ (by omega)).trans k41
  have s46 := s46.fr hF2 (by omega)
  have s47 := s47.fr hF2 (by omega)
  have s48 := s48.fr hF2 (by omega)
  have hc := hc.fr hF2 (fun j h1 h2 => by omega)
  refine n_aload_n C dX1_mergeTo_20 2 rfl rfl ?_
  refine n_aload_n C dX1_mergeTo_21 0 rfl rfl ?_
  refine n_get (k9 := 0) C dX1_mergeTo_22 (by omega) k41 hX1_mergeTo_X1 rfl (by decide) kX1_mergeTo_9 rfl ?_
  refine n_aload_n C dX1_mergeTo_25 0 rfl rfl ?_
  refine n_get (k9 := 2) C dX1_mergeTo_26 (by omega) k41 hX1_mergeTo_X1 rfl (by decide) kX1_mergeTo_18 rfl ?_
  refine n_callV (rest := []) C dX1_mergeTo_29 (TX0_compare l hN hc r2 r6 (by omega) (by omega)) (cwV 2 C.2.2.2.2.1 gX1_mergeTo_X0_compare rfl rfl rfl cdX0_compare ⟨Nat.le_of_ble_eq_true rfl, Nat.le_of_ble_eq_true rfl⟩) (by omega) hc.1 rfl rfl rfl (Nat.le_of_ble_eq_true rfl) ⟨Nat.le_of_ble_eq_true rfl, Nat.le_of_ble_eq_true rfl⟩ ?_
  rintro _ x3 ⟨rfl, ⟨M2, hc, ok9⟩, hF3⟩
  refine n_pc (pc2 := 32) rfl (n_st (st2 := []) rfl ?_)
  have r2 := r2.fr hF3 (by omega) (by omega)
  have r4 := r4.fr hF3 (by omega) (by omega)
  have r6 := r6.fr hF3 (by omega) (by omega)
  have r42 := r42.fr hF3 (by omega) (by omega)
  have r44 := r44.fr hF3 (by omega) (by omega)
  have rr := rr.fr hF3 (by omega) (by omega)
  have k41 := (hF3 _ (by omega)).trans k41
  have s46 := s46.fr hF3 (by omega)
  have s47 := s47.fr hF3 (by omega)
  have s48 := s48.fr hF3 (by omega)
  refine n_aload_n C dX1_mergeTo_32 2 rfl rfl ?_
  refine n_aload_n C dX1_mergeTo_33 0 rfl rfl ?_
  refine n_get (k9 := 4) C dX1_mergeTo_34 (by omega) k41 hX1_mergeTo_X1 rfl (by decide) kX1_mergeTo_29 rfl ?_
  refine n_callV (rest := []) C dX1_mergeTo_37 (TX0_pairTo l hN hc r2 r6 (by omega) (by omega) ok9 (k := 44) (by omega) (by omega) r44) (cwV 1 C.2.2.2.2.1 gX1_mergeTo_X0_pairTo rfl rfl rfl cdX0_pairTo ⟨Nat.le_of_ble_eq_true rfl, Nat.le_of_ble_eq_true rfl⟩) (by omega) hc.1 rfl rfl rfl (Nat.le_of_ble_eq_true rfl) ⟨Nat.le_of_ble_eq_true rfl, Nat.le_of_ble_eq_true rfl⟩ ?_
  rintro _ x4 ⟨rfl, r44, hF4⟩
  refine n_pc (pc2 := 40) rfl (n_st (st2 := []) rfl ?_)
  have r2 := r2.fr hF4 (by omega) (by omega)
  have r4 := r4.fr hF4 (by omega) (by omega)
  have r6 := r6.fr hF4 (by omega) (by omega)
  have r42 := r42.fr hF4 (by omega) (by omega)
  have rr := rr.fr hF4 (by omega) (by omega)
  have k41 := (hF4 _ (by omega)).trans k41
  have s46 := s46.fr hF4 (by omega)
  have s47 := s47.fr hF4 (by omega)
  have s48 := s48.fr hF4 (by omega)
  have hc := hc.fr hF4 (fun j h1 h2 => by omega)
  refine n_aload_n C dX1_mergeTo_40 0 rfl rfl ?_
  refine n_get (k9 := 5) C dX1_mergeTo_41 (by omega) k41 hX1_mergeTo_X1 rfl (by decide) kX1_mergeTo_37 rfl ?_
  refine n_callV (rest := []) C dX1_mergeTo_44 (TX4_begin l (by omega) s46) (cwV 0 C.2.2.2.2.1 gX1_mergeTo_X4_begin rfl rfl rfl cdX4_begin ⟨Nat.le_of_ble_eq_true rfl, Nat.le_of_ble_eq_true rfl⟩) (by omega) s46 rfl rfl rfl (Nat.le_of_ble_eq_true rfl) ⟨Nat.le_of_ble_eq_true rfl, Nat.le_of_ble_eq_true rfl⟩ ?_
  rintro _ x5 ⟨rfl, s46, hF5⟩
  refine n_pc (pc2 := 47) rfl (n_st (st2 := []) rfl ?_)
  have r2 := r2.fr hF5 (by omega) (by omega)
  have r4 := r4.fr hF5 (by omega) (by omega)
  have r6 := r6.fr hF5 (by omega) (by omega)
  have r42 := r42.fr hF5 (by omega) (by omega)
  have r44 := r44.fr hF5 (by omega) (by omega)
  have rr := rr.fr hF5 (by omega) (by omega)
  have k41 := (hF5 _ (by omega)).trans k41
  have s47 := s47.fr hF5 (by omega)
  have s48 := s48.fr hF5 (by omega)
  have hc := hc.fr hF5 (fun j h1 h2 => by omega)
  refine n_aload_n C dX1_mergeTo_47 0 rfl rfl ?_
  refine n_get (k9 := 6) C dX1_mergeTo_48 (by omega) k41 hX1_mergeTo_X1 rfl (by decide) kX1_mergeTo_41 rfl ?_
  refine n_callV (rest := []) C dX1_mergeTo_51 (TX4_begin l (by omega) s47) (cwV 0 C.2.2.2.2.1 gX1_mergeTo_X4_begin rfl rfl rfl cdX4_begin ⟨Nat.le_of_ble_eq_true rfl, Nat.le_of_ble_eq_true rfl⟩) (by omega) s47 rfl rfl rfl (Nat.le_of_ble_eq_true rfl) ⟨Nat.le_of_ble_eq_true rfl, Nat.le_of_ble_eq_true rfl⟩ ?_
  rintro _ x6 ⟨rfl, s47, hF6⟩
  refine n_pc (pc2 := 54) rfl (n_st (st2 := []) rfl ?_)
  have r2 := r2.fr hF6 (by omega) (by omega)
  have r4 := r4.fr hF6 (by omega) (by omega)
  have r6 := r6.fr hF6 (by omega) (by omega)
  have r42 := r42.fr hF6 (by omega) (by omega)
  have r44 := r44.fr hF6 (by omega) (by omega)
  have rr := rr.fr hF6 (by omega) (by omega)
  have k41 := (hF6 _ (by omega)).trans k41
  have s46 := s46.fr hF6 (by omega)
  have s48 := s48.fr hF6 (by omega)
  have hc := hc.fr hF6 (fun j h1 h2 => by omega)
  refine n_aload_n C dX1_mergeTo_54 0 rfl rfl ?_
  refine n_get (k9 := 7) C dX1_mergeTo_55 (by omega) k41 hX1_mergeTo_X1 rfl (by decide) kX1_mergeTo_44 rfl ?_
  refine n_callV (rest := []) C dX1_mergeTo_58 (TX4_begin l (by omega) s48) (cwV 0 C.2.2.2.2.1 gX1_mergeTo_X4_begin rfl rfl rfl cdX4_begin ⟨Nat.le_of_ble_eq_true rfl, Nat.le_of_ble_eq_true rfl⟩) (by omega) s48 rfl rfl rfl (Nat.le_of_ble_eq_true rfl) ⟨Nat.le_of_ble_eq_true rfl, Nat.le_of_ble_eq_true rfl⟩ ?_
  rintro _ x7 ⟨rfl, s48, hF7⟩
  refine n_pc (pc2 := 61) rfl (n_st (st2 := []) rfl ?_)
  have r2 := r2.fr hF7 (by omega) (by omega)
  have r4 := r4.fr hF7 (by omega) (by omega)
  have r6 := r6.fr hF7 (by omega) (by omega)
  have r42 := r42.fr hF7 (by omega) (by omega)
  have r44 := r44.fr hF7 (by omega) (by omega)
  have rr := rr.fr hF7 (by omega) (by omega)
  have k41 := (hF7 _ (by omega)).trans k41
  have s46 := s46.fr hF7 (by omega)
  have s47 := s47.fr hF7 (by omega)
  have hc := hc.fr hF7 (fun j h1 h2 => by omega)
  refine n_iconst C dX1_mergeTo_61 ?_
  refine n_istore_n (lv' := [(0, .ref (ad 41)), (1, .ref (ad r)), (2, .ref (ad 16)), (3, .int (iI 0))]) C dX1_mergeTo_62 rfl (by decide) rfl ?_
  refine n_iconst C dX1_mergeTo_63 ?_
  refine n_istore (lv' := [(0, .ref (ad 41)), (1, .ref (ad r)), (2, .ref (ad 16)), (3, .int (iI 0)), (4, .int (iI 0))]) C dX1_mergeTo_64 (by decide) rfl ?_
  have hFx : Fr x7 ev (fun j => (16 ≤ j ∧ j < 39) ∨ (42 ≤ j ∧ j < 49) ∨ j = r ∨ j = r + 1) := fun j hj => (hF7 j (by omega)).trans ((hF6 j (by omega)).trans ((hF5 j (by omega)).trans ((hF4 j (by omega)).trans ((hF3 j (by omega)).trans ((hF2 j (by omega)).trans (hF1 j (by omega)))))))
  clear hF1 hF2 hF3 hF4 hF5 hF6 hF7
  have loop : ∀ (n9 : Nat) (k b x y cf : Nat) (t0 t1 t2 : Int) (zs : List Int32) (M2 : Nat → Nat → Int32) (ex : Nat → va_E), xs0.length + 1 - k < n9 → (k ≤ xs0.length) → (b ≤ k) → (frW (kp xs0 xs1 0 0) xs1.length k x) → (frW (kp xs0 xs2 0 0) xs2.length k y) → (zs ++ (mg xs0 xs1 xs2 (kp xs0 xs1 0 0) (kp xs0 xs2 0 0) k b x y).1 = (mrg xs0 xs1 xs2).1) → (cf + (mg xs0 xs1 xs2 (kp xs0 xs1 0 0) (kp xs0 xs2 0 0) k b x y).2 = (mrg xs0 xs1 xs2).2) → (zs.length ≤ x + y + 2 * k) → (StrAt ad ex 46 2 (b : Nat) t0) → (StrAt ad ex 47 4 (x : Nat) t1) → (StrAt ad ex 48 6 (y : Nat) t2) → (RowAt G ad ex r zs 123) → (RowAt G ad ex 42 ((kp xs0 xs1 0 0).map iI) 20) → (RowAt G ad ex 44 ((kp xs0 xs2 0 0).map iI) 20) → (CmpAt G ad ex 2 6 M2) → (RowAt G ad ex 2 xs0 20) → (RowAt G ad ex 4 xs1 20) → (RowAt G ad ex 6 xs2 20) → (ex 41 = .inr (1, [.ref (ad 2), .ref (ad 4), .ref (ad 6), .ref (ad 42), .ref (ad 44), .ref (ad 46), .ref (ad 47), .ref (ad 48)])) → (Fr ex ev (fun j => (16 ≤ j ∧ j < 39) ∨ (42 ≤ j ∧ j < 49) ∨ j = r ∨ j = r + 1)) → V p l E rmX1_mergeTo s m args below meth c G A 5 (MQ below (Qg G N ad A (pX1_mergeTo G ad ev r xs0 xs1 xs2)) args s 0 0 A) N ad ex 0 0 66 [(0, .ref (ad 41)), (1, .ref (ad r)), (2, .ref (ad 16)), (3, .int (iI (cf : Int))), (4, .int (iI (k : Int)))] [] := by
    intro n9
    induction n9 with
    | zero =>
      intro k b x y cf t0 t1 t2 zs M2 ex hm9
      exact absurd hm9 (Nat.not_lt_zero _)
    | succ n9 ih =>
      intro k b x y cf t0 t1 t2 zs M2 ex hm9 hk hbk fx fy hz hcf hzl s46 s47 s48 rr r42 r44 hc r2 r4 r6 k41 hFx
      have fx1 := fx.1
      have fy1 := fy.1
      refine n_iload C dX1_mergeTo_66 4 rfl ?_
      refine n_aload_n C dX1_mergeTo_68 0 rfl rfl ?_
      refine n_get (k9 := 0) C dX1_mergeTo_69 (by omega) k41 hX1_mergeTo_X1 rfl (by decide) kX1_mergeTo_9 rfl ?_
      refine n_getN (k9 := 1) C dX1_mergeTo_72 (by omega) r2.obj hX1_mergeTo_X2 rfl (by decide) kn_X1_59 rfl ?_
      refine n_icmp_ge C dX1_mergeTo_75 (by decide) (by omega) (by omega) (by omega) (by omega) (tgt := 146) (fun c1 => ?_) (fun c1 => ?_)
      · have hke : k = xs0.length := by omega
        subst hke
        rw [mg_end (Nat.le_refl _)] at hz hcf
        refine n_aload_n C dX1_mergeTo_146 0 rfl rfl ?_
        refine n_aload_n C dX1_mergeTo_147 0 rfl rfl ?_
        refine n_get (k9 := 0) C dX1_mergeTo_148 (by omega) k41 hX1_mergeTo_X1 rfl (by decide) kX1_mergeTo_9 rfl ?_
        refine n_getN (k9 := 1) C dX1_mergeTo_151 (by omega) r2.obj hX1_mergeTo_X2 rfl (by decide) kn_X1_59 rfl ?_
        refine n_aload_n C dX1_mergeTo_154 0 rfl rfl ?_
        refine n_get (k9 := 1) C dX1_mergeTo_155 (by omega) k41 hX1_mergeTo_X1 rfl (by decide) kX1_mergeTo_15 rfl ?_
        refine n_getN (k9 := 1) C dX1_mergeTo_158 (by omega) r4.obj hX1_mergeTo_X2 rfl (by decide) kn_X1_59 rfl ?_
        refine n_aload_n C dX1_mergeTo_161 0 rfl rfl ?_
        refine n_get (k9 := 2) C dX1_mergeTo_162 (by omega) k41 hX1_mergeTo_X1 rfl (by decide) kX1_mergeTo_18 rfl ?_
        refine n_getN (k9 := 1) C dX1_mergeTo_165 (by omega) r6.obj hX1_mergeTo_X2 rfl (by decide) kn_X1_59 rfl ?_
        refine n_callV (rest := []) C dX1_mergeTo_168 (TX1_endStretches l hN k41 s46 s47 s48) (cwV 3 C.2.2.2.2.1 gX1_mergeTo_X1_endStretches rfl rfl rfl cdX1_endStretches ⟨Nat.le_of_ble_eq_true rfl, Nat.le_of_ble_eq_true rfl⟩) (by omega) k41 rfl rfl rfl (Nat.le_of_ble_eq_true rfl) ⟨Nat.le_of_ble_eq_true rfl, Nat.le_of_ble_eq_true rfl⟩ ?_
        rintro _ e1 ⟨rfl, s46, s47, s48, hG1⟩
        refine n_pc (pc2 := 171) rfl (n_st (st2 := []) rfl ?_)
        have r2 := r2.fr hG1 (by omega) (by omega)
        have r4 := r4.fr hG1 (by omega) (by omega)
        have r6 := r6.fr hG1 (by omega) (by omega)
        have rr := rr.fr hG1 (by omega) (by omega)
        have r42 := r42.fr hG1 (by omega) (by omega)
        have r44 := r44.fr hG1 (by omega) (by omega)
        have k41 := (hG1 _ (by omega)).trans k41
        have hc := hc.fr hG1 (fun j h1 h2 => by omega)
        refine n_iload_n C dX1_mergeTo_171 3 rfl rfl ?_
        refine n_aload_n C dX1_mergeTo_172 0 rfl rfl ?_
        refine n_aload_n C dX1_mergeTo_173 1 rfl rfl ?_
        refine n_callV (rest := [.int (iI (cf : Int))]) C dX1_mergeTo_174 (TX1_mergeStretch l hN k41 r2 r4 r6 hr49 hrN rr s46 s47 s48 (by omega) (by omega) (by omega) (by omega) (by omega) (by omega) (by omega)) (cwV 1 C.2.2.2.2.1 gX1_mergeTo_X1_mergeStretch rfl rfl rfl cdX1_mergeStretch ⟨Nat.le_of_ble_eq_true rfl, Nat.le_of_ble_eq_true rfl⟩) (by omega) k41 rfl rfl rfl (Nat.le_of_ble_eq_true rfl) ⟨Nat.le_of_ble_eq_true rfl, Nat.le_of_ble_eq_true rfl⟩ ?_
        rintro _ e2 ⟨rfl, rr, hG2⟩
        refine n_pc (pc2 := 177) rfl (n_st (st2 := [.int (iI ((mst (sl xs0 b xs0.length) (sl xs1 x xs1.length) (sl xs2 y xs2.length)).2 : Int)), .int (iI (cf : Int))]) rfl ?_)
        have r42 := r42.fr hG2 (by omega) (by omega)
        have r44 := r44.fr hG2 (by omega) (by omega)
        have k41 := (hG2 _ (by omega)).trans k41
        have s46 := s46.fr hG2 (by omega)
        have s47 := s47.fr hG2 (by omega)
        have s48 := s48.fr hG2 (by omega)
        have hc := hc.fr hG2 (fun j h1 h2 => by omega)
        refine n_iadd C dX1_mergeTo_177 ?_
        exact n_iret C hr dX1_mergeTo_178 (⟨by rw [← hcf]; simp, by rw [← hz]; exact rr, ⟨⟨2, 6, M2, hc⟩, k41, ⟨_, r42⟩, ⟨_, r44⟩, ⟨_, _, s46⟩, ⟨_, _, s47⟩, ⟨_, _, s48⟩⟩, fun j hj => (hG2 j (by omega)).trans ((hG1 j (by omega)).trans (hFx j hj))⟩)
      · obtain ⟨p9, hp9⟩ := some_of_lt (show k < (kp xs0 xs1 0 0).length by rw [ok1.1]; omega)
        obtain ⟨q9, hq9⟩ := some_of_lt (show k < (kp xs0 xs2 0 0).length by rw [ok2.1]; omega)
        have bp := ok1.2.1 k p9 hp9
        have bq := ok2.2.1 k q9 hq9
        refine n_aload_n C dX1_mergeTo_78 0 rfl rfl ?_
        refine n_iload C dX1_mergeTo_79 4 rfl ?_
        refine n_callV (rest := []) C dX1_mergeTo_81 (TX1_isStable l hN k41 r42 r44 hp9 hq9 (by omega) (by omega) (by omega) (by omega)) (cwV 1 C.2.2.2.2.1 gX1_mergeTo_X1_isStable rfl rfl rfl cdX1_isStable ⟨Nat.le_of_ble_eq_true rfl, Nat.le_of_ble_eq_true rfl⟩) (by omega) k41 rfl rfl rfl (Nat.le_of_ble_eq_true rfl) ⟨Nat.le_of_ble_eq_true rfl, Nat.le_of_ble_eq_true rfl⟩ ?_
        rintro _ _ ⟨rfl, rfl⟩
        refine n_pc (pc2 := 84) rfl (n_st (st2 := [.int (bI (decide (p9 ≠ -1 ∧ q9 ≠ -1)))]) rfl ?_)
        refine n_if_eqB C dX1_mergeTo_84 (by decide) (tgt := 140) (fun c2 => ?_) (fun c2 => ?_)
        · have hns := of_decide_eq_false c2
          rw [mg_no (by omega) hp9 hq9 (by omega)] at hz hcf
          refine n_iinc (lv' := [(0, .ref (ad 41)), (1, .ref (ad r)), (2, .ref (ad 16)), (3, .int (iI (cf : Int))), (4, .int (iI ((k : Int) + 1)))]) C dX1_mergeTo_140 4 rfl (by decide) rfl ?_
          refine n_goto (tgt := 66) C dX1_mergeTo_143 (by decide) ?_
          refine n_lv (lv2 := [(0, .ref (ad 41)), (1, .ref (ad r)), (2, .ref (ad 16)), (3, .int (iI (cf : Int))), (4, .int (iI ((k + 1 : Nat) : Int)))]) (by simp) ?_
          exact ih (k + 1) b x y cf t0 t1 t2 zs M2 ex (by omega) (by omega) (by omega) (frW_no fx) (frW_no fy) hz hcf (by omega) s46 s47 s48 rr r42 r44 hc r2 r4 r6 k41 hFx
        · have hst := of_decide_eq_true c2
          have gx := fx.2 k p9 (Nat.le_refl k) hp9 hst.1
          have gy := fy.2 k q9 (Nat.le_refl k) hq9 hst.2
          obtain ⟨p, rfl⟩ : ∃ p : Nat, p9 = (p : Int) := ⟨p9.toNat, by omega⟩
          obtain ⟨q, rfl⟩ : ∃ q : Nat, q9 = (q : Int) := ⟨q9.toNat, by omega⟩
          obtain ⟨s9, hs9⟩ := some_of_lt (show k < xs0.length by omega)
          rw [mg_st (by omega) hp9 hq9 hs9] at hz hcf
          have m1 : ((kp xs0 xs1 0 0).map iI)[k]? = some (iI (p : Int)) := by rw [List.getElem?_map, hp9]; rfl
          have m2 : ((kp xs0 xs2 0 0).map iI)[k]? = some (iI (q : Int)) := by rw [List.getElem?_map, hq9]; rfl
          refine n_aload_n C dX1_mergeTo_87 0 rfl rfl ?_
          refine n_iload C dX1_mergeTo_88 4 rfl ?_
          refine n_aload_n C dX1_mergeTo_90 0 rfl rfl ?_
          refine n_get (k9 := 3) C dX1_mergeTo_91 (by omega) k41 hX1_mergeTo_X1 rfl (by decide) kX1_mergeTo_26 rfl ?_
          refine n_iload C dX1_mergeTo_94 4 rfl ?_
          refine n_iconst C dX1_mergeTo_96 ?_
          refine n_callV (rest := [.int (iI (k : Int)), .ref (ad 41)]) C dX1_mergeTo_97 (TX2_at l (i := 42) (by omega) r42 (by omega) (by omega)) (cwV 2 C.2.2.2.2.1 gX1_mergeTo_X2_at rfl rfl rfl cdX2_at ⟨Nat.le_of_ble_eq_true rfl, Nat.le_of_ble_eq_true rfl⟩) (by omega) r42.obj rfl rfl rfl (Nat.le_of_ble_eq_true rfl) ⟨Nat.le_of_ble_eq_true rfl, Nat.le_of_ble_eq_true rfl⟩ ?_
          rintro _ _ ⟨rfl, rfl⟩
          refine n_pc (pc2 := 100) rfl (n_st (st2 := [.int (atD ((kp xs0 xs1 0 0).map iI) (k : Int) (iI (-1))), .int (iI (k : Int)), .ref (ad 41)]) rfl ?_)
          refine n_topI (y := (iI (p : Int))) (atD_in rfl (by rw [List.length_map, ok1.1]; omega) m1) ?_
          refine n_aload_n C dX1_mergeTo_100 0 rfl rfl ?_
          refine n_get (k9 := 4) C dX1_mergeTo_101 (by omega) k41 hX1_mergeTo_X1 rfl (by decide) kX1_mergeTo_29 rfl ?_
          refine n_iload C dX1_mergeTo_104 4 rfl ?_
          refine n_iconst C dX1_mergeTo_106 ?_
          refine n_callV (rest := [.int (iI (p : Int)), .int (iI (k : Int)), .ref (ad 41)]) C dX1_mergeTo_107 (TX2_at l (i := 44) (by omega) r44 (by omega) (by omega)) (cwV 2 C.2.2.2.2.1 gX1_mergeTo_X2_at rfl rfl rfl cdX2_at ⟨Nat.le_of_ble_eq_true rfl, Nat.le_of_ble_eq_true rfl⟩) (by omega) r44.obj rfl rfl rfl (Nat.le_of_ble_eq_true rfl) ⟨Nat.le_of_ble_eq_true rfl, Nat.le_of_ble_eq_true rfl⟩ ?_
          rintro _ _ ⟨rfl, rfl⟩
          refine n_pc (pc2 := 110) rfl (n_st (st2 := [.int (atD ((kp xs0 xs2 0 0).map iI) (k : Int) (iI (-1))), .int (iI (p : Int)), .int (iI (k : Int)), .ref (ad 41)]) rfl ?_)
          refine n_topI (y := (iI (q : Int))) (atD_in rfl (by rw [List.length_map, ok2.1]; omega) m2) ?_
          refine n_callV (rest := []) C dX1_mergeTo_110 (TX1_endStretches l hN k41 s46 s47 s48) (cwV 3 C.2.2.2.2.1 gX1_mergeTo_X1_endStretches rfl rfl rfl cdX1_endStretches ⟨Nat.le_of_ble_eq_true rfl, Nat.le_of_ble_eq_true rfl⟩) (by omega) k41 rfl rfl rfl (Nat.le_of_ble_eq_true rfl) ⟨Nat.le_of_ble_eq_true rfl, Nat.le_of_ble_eq_true rfl⟩ ?_
          rintro _ e1 ⟨rfl, s46, s47, s48, hG1⟩
          refine n_pc (pc2 := 113) rfl (n_st (st2 := []) rfl ?_)
          have r2 := r2.fr hG1 (by omega) (by omega)
          have r4 := r4.fr hG1 (by omega) (by omega)
          have r6 := r6.fr hG1 (by omega) (by omega)
          have rr := rr.fr hG1 (by omega) (by omega)
          have r42 := r42.fr hG1 (by omega) (by omega)
          have r44 := r44.fr hG1 (by omega) (by omega)
          have k41 := (hG1 _ (by omega)).trans k41
          have hc := hc.fr hG1 (fun j h1 h2 => by omega)
          have hm9 := (mst_le (sl xs0 b k) (sl xs1 x p) (sl xs2 y q)).1
          rw [sl_len (by omega), sl_len (by omega)] at hm9
          refine n_iload_n C dX1_mergeTo_113 3 rfl rfl ?_
          refine n_aload_n C dX1_mergeTo_114 0 rfl rfl ?_
          refine n_aload_n C dX1_mergeTo_115 1 rfl rfl ?_
          refine n_callV (rest := [.int (iI (cf : Int))]) C dX1_mergeTo_116 (TX1_mergeStretch l hN k41 r2 r4 r6 hr49 hrN rr s46 s47 s48 (by omega) (by omega) (by omega) (by omega) (by omega) (by omega) (by omega)) (cwV 1 C.2.2.2.2.1 gX1_mergeTo_X1_mergeStretch rfl rfl rfl cdX1_mergeStretch ⟨Nat.le_of_ble_eq_true rfl, Nat.le_of_ble_eq_true rfl⟩) (by omega) k41 rfl rfl rfl (Nat.le_of_ble_eq_true rfl) ⟨Nat.le_of_ble_eq_true rfl, Nat.le_of_ble_eq_true rfl⟩ ?_
          rintro _ e2 ⟨rfl, rr, hG2⟩
          refine n_pc (pc2 := 119) rfl (n_st (st2 := [.int (iI ((mst (sl xs0 b k) (sl xs1 x p) (sl xs2 y q)).2 : Int)), .int (iI (cf : Int))]) rfl ?_)
          have r2 := r2.fr hG2 (by omega) (by omega)
          have r4 := r4.fr hG2 (by omega) (by omega)
          have r6 := r6.fr hG2 (by omega) (by omega)
          have r42 := r42.fr hG2 (by omega) (by omega)
          have r44 := r44.fr hG2 (by omega) (by omega)
          have k41 := (hG2 _ (by omega)).trans k41
          have s46 := s46.fr hG2 (by omega)
          have s47 := s47.fr hG2 (by omega)
          have s48 := s48.fr hG2 (by omega)
          have hc := hc.fr hG2 (fun j h1 h2 => by omega)
          refine n_iadd C dX1_mergeTo_119 ?_
          refine n_istore_n (lv' := [(0, .ref (ad 41)), (1, .ref (ad r)), (2, .ref (ad 16)), (3, .int (iI ((cf : Int) + ((mst (sl xs0 b k) (sl xs1 x p) (sl xs2 y q)).2 : Int)))), (4, .int (iI (k : Int)))]) C dX1_mergeTo_120 rfl (by decide) rfl ?_
          refine n_aload_n C dX1_mergeTo_121 1 rfl rfl ?_
          refine n_aload_n C dX1_mergeTo_122 0 rfl rfl ?_
          refine n_get (k9 := 0) C dX1_mergeTo_123 (by omega) k41 hX1_mergeTo_X1 rfl (by decide) kX1_mergeTo_9 rfl ?_
          refine n_iload C dX1_mergeTo_126 4 rfl ?_
          refine n_iconst C dX1_mergeTo_128 ?_
          refine n_callV (rest := [.ref (ad r)]) C dX1_mergeTo_129 (TX2_at l (i := 2) (by omega) r2 (by omega) (by omega)) (cwV 2 C.2.2.2.2.1 gX1_mergeTo_X2_at rfl rfl rfl cdX2_at ⟨Nat.le_of_ble_eq_true rfl, Nat.le_of_ble_eq_true rfl⟩) (by omega) r2.obj rfl rfl rfl (Nat.le_of_ble_eq_true rfl) ⟨Nat.le_of_ble_eq_true rfl, Nat.le_of_ble_eq_true rfl⟩ ?_
          rintro _ _ ⟨rfl, rfl⟩
          refine n_pc (pc2 := 132) rfl (n_st (st2 := [.int (atD xs0 (k : Int) (iI (-1))), .ref (ad r)]) rfl ?_)
          refine n_topI (y := s9) (atD_in rfl (by omega) hs9) ?_
          refine n_callV (rest := []) C dX1_mergeTo_132 (TX2_add l (i := r) hrN rr (x := s9)) (cwV 1 C.2.2.2.2.1 gX1_mergeTo_X2_add rfl rfl rfl cdX2_add ⟨Nat.le_of_ble_eq_true rfl, Nat.le_of_ble_eq_true rfl⟩) (by omega) rr.obj rfl rfl rfl (Nat.le_of_ble_eq_true rfl) ⟨Nat.le_of_ble_eq_true rfl, Nat.le_of_ble_eq_true rfl⟩ ?_
          rintro _ e3 ⟨rfl, rr, hG3⟩
          refine n_pc (pc2 := 135) rfl (n_st (st2 := [.int (bI (decide ((zs ++ (mst (sl xs0 b k) (sl xs1 x p) (sl xs2 y q)).1).length < 123)))]) rfl ?_)
          rw [if_pos (by rw [List.length_append]; omega)] at rr
          have r2 := r2.fr hG3 (by omega) (by omega)
          have r4 := r4.fr hG3 (by omega) (by omega)
          have r6 := r6.fr hG3 (by omega) (by omega)
          have r42 := r42.fr hG3 (by omega) (by omega)
          have r44 := r44.fr hG3 (by omega) (by omega)
          have k41 := (hG3 _ (by omega)).trans k41
          have s46 := s46.fr hG3 (by omega)
          have s47 := s47.fr hG3 (by omega)
          have s48 := s48.fr hG3 (by omega)
          have hc := hc.fr hG3 (fun j h1 h2 => by omega)
          refine n_pop C dX1_mergeTo_135 rfl ?_
          refine n_aload_n C dX1_mergeTo_136 0 rfl rfl ?_
          refine n_callV (rest := []) C dX1_mergeTo_137 (TX1_goOnBehindStable l hN k41 s46 s47 s48) (cwV 0 C.2.2.2.2.1 gX1_mergeTo_X1_goOnBehindStable rfl rfl rfl cdX1_goOnBehindStable ⟨Nat.le_of_ble_eq_true rfl, Nat.le_of_ble_eq_true rfl⟩) (by omega) k41 rfl rfl rfl (Nat.le_of_ble_eq_true rfl) ⟨Nat.le_of_ble_eq_true rfl, Nat.le_of_ble_eq_true rfl⟩ ?_
          rintro _ e4 ⟨rfl, s46, s47, s48, hG4⟩
          refine n_pc (pc2 := 140) rfl (n_st (st2 := []) rfl ?_)
          have r2 := r2.fr hG4 (by omega) (by omega)
          have r4 := r4.fr hG4 (by omega) (by omega)
          have r6 := r6.fr hG4 (by omega) (by omega)
          have rr := rr.fr hG4 (by omega) (by omega)
          have r42 := r42.fr hG4 (by omega) (by omega)
          have r44 := r44.fr hG4 (by omega) (by omega)
          have k41 := (hG4 _ (by omega)).trans k41
          have hc := hc.fr hG4 (fun j h1 h2 => by omega)
          refine n_iinc (lv' := [(0, .ref (ad 41)), (1, .ref (ad r)), (2, .ref (ad 16)), (3, .int (iI ((cf : Int) + ((mst (sl xs0 b k) (sl xs1 x p) (sl xs2 y q)).2 : Int)))), (4, .int (iI ((k : Int) + 1)))]) C dX1_mergeTo_140 4 rfl (by decide) rfl ?_
          refine n_goto (tgt := 66) C dX1_mergeTo_143 (by decide) ?_
          refine n_lv (lv2 := [(0, .ref (ad 41)), (1, .ref (ad r)), (2, .ref (ad 16)), (3, .int (iI ((cf + (mst (sl xs0 b k) (sl xs1 x p) (sl xs2 y q)).2 : Nat) : Int))), (4, .int (iI ((k + 1 : Nat) : Int)))]) (by simp) ?_
          exact ih (k + 1) (k + 1) (p + 1) (q + 1) _ _ _ _ _ M2 e4 (by omega) (by omega) (Nat.le_refl _) (frW_st ok1 hp9) (frW_st ok2 hq9) (by rw [← hz]; simp only [List.append_assoc]) (by rw [← hcf]; omega) (by simp only [List.length_append, List.length_cons, List.length_nil]; omega) s46 s47 s48 rr r42 r44 hc r2 r4 r6 k41 (fun j hj => (hG4 j (by omega)).trans ((hG3 j (by omega)).trans ((hG2 j (by omega)).trans ((hG1 j (by omega)).trans (hFx j hj)))))
  exact loop _ 0 0 0 0 0 0 0 0 [] M2 x7 (Nat.lt_succ_self _) (Nat.zero_le _) (Nat.le_refl _) (frW_0 ok1) (frW_0 ok2) rfl (Nat.zero_add _) (Nat.zero_le _) s46 s47 s48 rr r42 r44 hc r2 r4 r6 k41 hFx
