def pX0_writeTo (G : GG) (ad : Nat → Nat) (ev : Nat → va_E) (k : Nat) (xs ys : List Int32) : Option Value → (Nat → va_E) → Prop := fun v e2 => v = none ∧ ScrAt G ad e2 k ((sc xs ys 0 0).map encO) ∧ Fr e2 ev (fun j => j = k ∨ j = k + 1 ∨ j = k + 2 ∨ j = k + 3)

set_option maxHeartbeats 4000000 in
set_option maxRecDepth 100000 in
theorem TX0_writeTo (l : Launch) {G : GG} {N : Nat} {ad : Nat → Nat} {ev : Nat → va_E} {qa qb k : Nat} {M : Nat → Nat → Int32} {xs ys : List Int32} {ops : List Tr} (hN : 53 ≤ N) (hC : CmpAt G ad ev qa qb M) (r1 : RowAt G ad ev qa xs 20) (r2 : RowAt G ad ev qb ys 20) (ha : qa + 1 < 8) (hb : qb + 1 < 8) (hok : okM M xs ys) (hk : 8 ≤ k) (hk2 : k + 3 < 16) (hR : ScrAt G ad ev k ops) : Ct l yX0_writeTo wsX0_writeTo rmX0_writeTo [.ref (ad 16), .ref (ad k)] G N ad ev 0 0 (pX0_writeTo G ad ev k xs ys) := by
  have hl1 := r1.le
  have hl2 := r2.le
  obtain ⟨k0, k1, k2⟩ := id hC
  obtain ⟨f0, g0, g1, g2, -⟩ := id r1
  obtain ⟨f3, g3, g4, g5, -⟩ := id r2
  obtain ⟨fk, fp, fs, h0, h1, h2, h3, hf, hlc⟩ := id hR
  have hlen := (sc_facts xs ys _ 0 0 (Nat.zero_le _) (Nat.zero_le _) (Nat.le_refl _)).1
  refine Ct_of (cc := cX0_writeTo) (maxL := 5) (ret := none) (lv := [(0, .ref (ad 16)), (1, .ref (ad k))]) (by decide) rfl (Nat.le_of_ble_eq_true rfl) rfl ?_
  intro p E s m args below meth c A C hr hnm
  refine n_aload_n C dX0_writeTo_0 1 rfl rfl ?_
  refine n_callV (rest := []) C dX0_writeTo_1 (TX3_empty l (i := k) (by omega) hR) (cwV 0 C.2.2.2.2.1 gX0_writeTo_X3_empty rfl rfl rfl cdX3_empty ⟨Nat.le_of_ble_eq_true rfl, Nat.le_of_ble_eq_true rfl⟩) (by omega) h0 rfl rfl rfl (Nat.le_of_ble_eq_true rfl) ⟨Nat.le_of_ble_eq_true rfl, Nat.le_of_ble_eq_true rfl⟩ ?_
  rintro _ ea ⟨rfl, s1, hFa⟩
  refine n_pc (pc2 := 4) rfl (n_st (st2 := []) rfl ?_)
  refine n_iconst C dX0_writeTo_4 ?_
  refine n_istore_n (lv' := [(0, .ref (ad 16)), (1, .ref (ad k)), (2, .int (iI 0))]) C dX0_writeTo_5 rfl (by decide) rfl ?_
  refine n_iconst C dX0_writeTo_6 ?_
  refine n_istore_n (lv' := [(0, .ref (ad 16)), (1, .ref (ad k)), (2, .int (iI 0)), (3, .int (iI 0))]) C dX0_writeTo_7 rfl (by decide) rfl ?_
  have loop : ∀ (n9 : Nat) (i j : Nat) (pre : List Op) (ex : Nat → va_E), xs.length + ys.length + 1 - (i + j) < n9 → (i ≤ xs.length) → (j ≤ ys.length) → (ScrAt G ad ex k (pre.map encO)) → (pre ++ sc xs ys i j = sc xs ys 0 0) → (Fr ex ev (fun j => j = k ∨ j = k + 1 ∨ j = k + 2 ∨ j = k + 3)) → V p l E rmX0_writeTo s m args below meth c G A 5 (MQ below (Qg G N ad A (pX0_writeTo G ad ev k xs ys)) args s 0 0 A) N ad ex 0 0 8 [(0, .ref (ad 16)), (1, .ref (ad k)), (2, .int (iI (i : Int))), (3, .int (iI (j : Int)))] [] := by
    intro n9
    induction n9 with
    | zero =>
      intro i j pre ex hm9
      exact absurd hm9 (Nat.not_lt_zero _)
    | succ n9 ih =>
      intro i j pre ex hm9 hi hj s1 hpre hF
      have hc := hC.fr hF (fun j h1 h2 => by omega)
      have p1 := r1.fr hF (by omega) (by omega)
      have p2 := r2.fr hF (by omega) (by omega)
      obtain ⟨k0, k1, k2⟩ := id hc
      obtain ⟨f0, g0, g1, g2, -⟩ := id p1
      obtain ⟨f3, g3, g4, g5, -⟩ := id p2
      obtain ⟨fk, fp, fs, h0, h1, h2, h3, hf, hlc⟩ := id s1
      refine n_iload_n C dX0_writeTo_8 2 rfl rfl ?_
      refine n_iload_n C dX0_writeTo_9 3 rfl rfl ?_
      refine n_iadd C dX0_writeTo_10 ?_
      refine n_aload_n C dX0_writeTo_11 0 rfl rfl ?_
      refine n_get (k9 := 1) C dX0_writeTo_12 (by omega) k0 hX0_writeTo_X0 rfl (by decide) kX0_writeTo_21 rfl ?_
      refine n_getN (k9 := 1) C dX0_writeTo_15 (by omega) g0 hX0_writeTo_X2 rfl (by decide) kn_X0_28 rfl ?_
      refine n_aload_n C dX0_writeTo_18 0 rfl rfl ?_
      refine n_get (k9 := 2) C dX0_writeTo_19 (by omega) k0 hX0_writeTo_X0 rfl (by decide) kX0_writeTo_25 rfl ?_
      refine n_getN (k9 := 1) C dX0_writeTo_22 (by omega) g3 hX0_writeTo_X2 rfl (by decide) kn_X0_28 rfl ?_
      refine n_iadd C dX0_writeTo_25 ?_
      refine n_icmp_ge C dX0_writeTo_26 (by decide) (by omega) (by omega) (by omega) (by omega) (tgt := 113) (fun c1 => ?_) (fun c1 => ?_)
      · rw [sc_end (by omega), List.append_nil] at hpre
        exact n_vret C hr dX0_writeTo_113 (⟨rfl, by rw [← hpre]; exact s1, hF⟩)
      · have hij : i + j < xs.length + ys.length := by omega
        refine n_aload_n C dX0_writeTo_29 0 rfl rfl ?_
        refine n_iload_n C dX0_writeTo_30 2 rfl rfl ?_
        refine n_iload_n C dX0_writeTo_31 3 rfl rfl ?_
        refine n_callV (rest := []) C dX0_writeTo_32 (TX0_stepAt l hN hc p1 p2 (by omega) (by omega) hok hi hj) (cwV 2 C.2.2.2.2.1 gX0_writeTo_X0_stepAt rfl rfl rfl cdX0_stepAt ⟨Nat.le_of_ble_eq_true rfl, Nat.le_of_ble_eq_true rfl⟩) (by omega) k0 rfl rfl rfl (Nat.le_of_ble_eq_true rfl) ⟨Nat.le_of_ble_eq_true rfl, Nat.le_of_ble_eq_true rfl⟩ ?_
        rintro _ _ ⟨rfl, rfl⟩
        refine n_pc (pc2 := 35) rfl (n_st (st2 := [.int (iI (stp xs ys i j))]) rfl ?_)
        rcases stp_3 xs ys i j with hs | hs | hs
        · have hi2 := stp_del hs
          obtain ⟨x9, hx9⟩ := some_of_lt hi2
          rw [sc_0 hi hj hij hs hx9] at hpre
          have hl9 := congrArg List.length hpre
          simp only [List.length_append, List.length_cons] at hl9
          refine n_topI (y := (iI 0)) (by rw [hs]) ?_
          refine n_istore (lv' := [(0, .ref (ad 16)), (1, .ref (ad k)), (2, .int (iI (i : Int))), (3, .int (iI (j : Int))), (4, .int (iI 0))]) C dX0_writeTo_35 (by decide) rfl ?_
          refine n_iload C dX0_writeTo_37 4 rfl ?_
          refine n_if_ne C dX0_writeTo_39 (by decide) (by omega) (by omega) (tgt := 61) (fun c9 => absurd c9 (by omega)) (fun _ => ?_)
          refine n_aload_n C dX0_writeTo_42 1 rfl rfl ?_
          refine n_iconst C dX0_writeTo_43 ?_
          refine n_iload_n C dX0_writeTo_44 2 rfl rfl ?_
          refine n_aload_n C dX0_writeTo_45 0 rfl rfl ?_
          refine n_get (k9 := 1) C dX0_writeTo_46 (by omega) k0 hX0_writeTo_X0 rfl (by decide) kX0_writeTo_21 rfl ?_
          refine n_iload_n C dX0_writeTo_49 2 rfl rfl ?_
          refine n_iconst C dX0_writeTo_50 ?_
          refine n_callV (rest := [.int (iI (i : Int)), .int (iI 0), .ref (ad k)]) C dX0_writeTo_51 (TX2_at l (by omega) p1 (by omega) (by omega)) (cwV 2 C.2.2.2.2.1 gX0_writeTo_X2_at rfl rfl rfl cdX2_at ⟨Nat.le_of_ble_eq_true rfl, Nat.le_of_ble_eq_true rfl⟩) (by omega) g0 rfl rfl rfl (Nat.le_of_ble_eq_true rfl) ⟨Nat.le_of_ble_eq_true rfl, Nat.le_of_ble_eq_true rfl⟩ ?_
          rintro _ _ ⟨rfl, rfl⟩
          refine n_pc (pc2 := 54) rfl (n_st (st2 := [.int (atD xs (i : Int) (iI (-1))), .int (iI (i : Int)), .int (iI 0), .ref (ad k)]) rfl ?_)
          refine n_topI (y := x9) (atD_in rfl hi2 hx9) ?_
          refine n_callV (rest := []) C dX0_writeTo_54 (TX3_add l (i := k) (by omega) s1 (x := iI 0) (y := iI (i : Int)) (z := x9)) (cwV 3 C.2.2.2.2.1 gX0_writeTo_X3_add rfl rfl rfl cdX3_add ⟨Nat.le_of_ble_eq_true rfl, Nat.le_of_ble_eq_true rfl⟩) (by omega) h0 rfl rfl rfl (Nat.le_of_ble_eq_true rfl) ⟨Nat.le_of_ble_eq_true rfl, Nat.le_of_ble_eq_true rfl⟩ ?_
          rintro _ e2 ⟨rfl, s2, hF2⟩
          refine n_pc (pc2 := 57) rfl (n_st (st2 := [.int (bI (decide ((pre.map encO).length < 60)))]) rfl ?_)
          rw [if_pos (by rw [List.length_map]; omega)] at s2
          refine n_pop C dX0_writeTo_57 rfl ?_
          refine n_goto (tgt := 83) C dX0_writeTo_58 (by decide) ?_
          refine n_iload_n C dX0_writeTo_83 2 rfl rfl ?_
          refine n_iload C dX0_writeTo_84 4 rfl ?_
          refine n_iconst C dX0_writeTo_86 ?_
          refine n_icmp_ne C dX0_writeTo_87 (by decide) (by omega) (by omega) (by omega) (by omega) (tgt := 94) (fun _ => ?_) (fun c9 => absurd c9 (by omega))
          refine n_iconst C dX0_writeTo_94 ?_
          refine n_iadd C dX0_writeTo_95 ?_
          refine n_istore_n (lv' := [(0, .ref (ad 16)), (1, .ref (ad k)), (2, .int (iI ((i : Int) + 1))), (3, .int (iI (j : Int))), (4, .int (iI 0))]) C dX0_writeTo_96 rfl (by decide) rfl ?_
          refine n_iload_n C dX0_writeTo_97 3 rfl rfl ?_
          refine n_iload C dX0_writeTo_98 4 rfl ?_
          refine n_if_ne C dX0_writeTo_100 (by decide) (by omega) (by omega) (tgt := 107) (fun c9 => absurd c9 (by omega)) (fun _ => ?_)
          refine n_iconst C dX0_writeTo_103 ?_
          refine n_goto (tgt := 108) C dX0_writeTo_104 (by decide) ?_
          refine n_iadd C dX0_writeTo_108 ?_
          refine n_istore_n (lv' := [(0, .ref (ad 16)), (1, .ref (ad k)), (2, .int (iI ((i : Int) + 1))), (3, .int (iI ((j : Int) + 0))), (4, .int (iI 0))]) C dX0_writeTo_109 rfl (by decide) rfl ?_
          refine n_goto (tgt := 8) C dX0_writeTo_110 (by decide) ?_
          refine n_sub (lv2 := [(0, .ref (ad 16)), (1, .ref (ad k)), (2, .int (iI ((i : Int) + 1))), (3, .int (iI ((j : Int) + 0)))]) [0, 1, 2, 3] rfl ?_
          refine n_lv (lv2 := [(0, .ref (ad 16)), (1, .ref (ad k)), (2, .int (iI ((i + 1 : Nat) : Int))), (3, .int (iI ((j : Nat) : Int)))]) (by simp) ?_
          exact ih (i + 1) (j) (pre ++ [(true, i, x9)]) e2 (by omega) (by omega) (by omega) (by rw [List.map_append]; exact s2) (by rw [← hpre, List.append_assoc]; rfl) (hF2.tr hF)
        · have hj2 := stp_ins hi hj hij hs
          obtain ⟨y9, hy9⟩ := some_of_lt hj2
          rw [sc_1 hi hj hij hs hy9] at hpre
          have hl9 := congrArg List.length hpre
          simp only [List.length_append, List.length_cons] at hl9
          refine n_topI (y := (iI 1)) (by rw [hs]) ?_
          refine n_istore (lv' := [(0, .ref (ad 16)), (1, .ref (ad k)), (2, .int (iI (i : Int))), (3, .int (iI (j : Int))), (4, .int (iI 1))]) C dX0_writeTo_35 (by decide) rfl ?_
          refine n_iload C dX0_writeTo_37 4 rfl ?_
          refine n_if_ne C dX0_writeTo_39 (by decide) (by omega) (by omega) (tgt := 61) (fun _ => ?_) (fun c9 => absurd c9 (by omega))
          refine n_iload C dX0_writeTo_61 4 rfl ?_
          refine n_iconst C dX0_writeTo_63 ?_
          refine n_icmp_ne C dX0_writeTo_64 (by decide) (by omega) (by omega) (by omega) (by omega) (tgt := 83) (fun c9 => absurd c9 (by omega)) (fun _ => ?_)
          refine n_aload_n C dX0_writeTo_67 1 rfl rfl ?_
          refine n_iconst C dX0_writeTo_68 ?_
          refine n_iload_n C dX0_writeTo_69 2 rfl rfl ?_
          refine n_aload_n C dX0_writeTo_70 0 rfl rfl ?_
          refine n_get (k9 := 2) C dX0_writeTo_71 (by omega) k0 hX0_writeTo_X0 rfl (by decide) kX0_writeTo_25 rfl ?_
          refine n_iload_n C dX0_writeTo_74 3 rfl rfl ?_
          refine n_iconst C dX0_writeTo_75 ?_
          refine n_callV (rest := [.int (iI (i : Int)), .int (iI 1), .ref (ad k)]) C dX0_writeTo_76 (TX2_at l (by omega) p2 (by omega) (by omega)) (cwV 2 C.2.2.2.2.1 gX0_writeTo_X2_at rfl rfl rfl cdX2_at ⟨Nat.le_of_ble_eq_true rfl, Nat.le_of_ble_eq_true rfl⟩) (by omega) g3 rfl rfl rfl (Nat.le_of_ble_eq_true rfl) ⟨Nat.le_of_ble_eq_true rfl, Nat.le_of_ble_eq_true rfl⟩ ?_
          rintro _ _ ⟨rfl, rfl⟩
          refine n_pc (pc2 := 79) rfl (n_st (st2 := [.int (atD ys (j : Int) (iI (-1))), .int (iI (i : Int)), .int (iI 1), .ref (ad k)]) rfl ?_)
          refine n_topI (y := y9) (atD_in rfl hj2 hy9) ?_
          refine n_callV (rest := []) C dX0_writeTo_79 (TX3_add l (i := k) (by omega) s1 (x := iI 1) (y := iI (i : Int)) (z := y9)) (cwV 3 C.2.2.2.2.1 gX0_writeTo_X3_add rfl rfl rfl cdX3_add ⟨Nat.le_of_ble_eq_true rfl, Nat.le_of_ble_eq_true rfl⟩) (by omega) h0 rfl rfl rfl (Nat.le_of_ble_eq_true rfl) ⟨Nat.le_of_ble_eq_true rfl, Nat.le_of_ble_eq_true rfl⟩ ?_
          rintro _ e2 ⟨rfl, s2, hF2⟩
          refine n_pc (pc2 := 82) rfl (n_st (st2 := [.int (bI (decide ((pre.map encO).length < 60)))]) rfl ?_)
          rw [if_pos (by rw [List.length_map]; omega)] at s2
          refine n_pop C dX0_writeTo_82 rfl ?_
          refine n_iload_n C dX0_writeTo_83 2 rfl rfl ?_
          refine n_iload C dX0_writeTo_84 4 rfl ?_
          refine n_iconst C dX0_writeTo_86 ?_
          refine n_icmp_ne C dX0_writeTo_87 (by decide) (by omega) (by omega) (by omega) (by omega) (tgt := 94) (fun c9 => absurd c9 (by omega)) (fun _ => ?_)
          refine n_iconst C dX0_writeTo_90 ?_
          refine n_goto (tgt := 95) C dX0_writeTo_91 (by decide) ?_
          refine n_iadd C dX0_writeTo_95 ?_
          refine n_istore_n (lv' := [(0, .ref (ad 16)), (1, .ref (ad k)), (2, .int (iI ((i : Int) + 0))), (3, .int (iI (j : Int))), (4, .int (iI 1))]) C dX0_writeTo_96 rfl (by decide) rfl ?_
          refine n_iload_n C dX0_writeTo_97 3 rfl rfl ?_
          refine n_iload C dX0_writeTo_98 4 rfl ?_
          refine n_if_ne C dX0_writeTo_100 (by decide) (by omega) (by omega) (tgt := 107) (fun _ => ?_) (fun c9 => absurd c9 (by omega))
          refine n_iconst C dX0_writeTo_107 ?_
          refine n_iadd C dX0_writeTo_108 ?_
          refine n_istore_n (lv' := [(0, .ref (ad 16)), (1, .ref (ad k)), (2, .int (iI ((i : Int) + 0))), (3, .int (iI ((j : Int) + 1))), (4, .int (iI 1))]) C dX0_writeTo_109 rfl (by decide) rfl ?_
          refine n_goto (tgt := 8) C dX0_writeTo_110 (by decide) ?_
          refine n_sub (lv2 := [(0, .ref (ad 16)), (1, .ref (ad k)), (2, .int (iI ((i : Int) + 0))), (3, .int (iI ((j : Int) + 1)))]) [0, 1, 2, 3] rfl ?_
          refine n_lv (lv2 := [(0, .ref (ad 16)), (1, .ref (ad k)), (2, .int (iI ((i : Nat) : Int))), (3, .int (iI ((j + 1 : Nat) : Int)))]) (by simp) ?_
          exact ih (i) (j + 1) (pre ++ [(false, i, y9)]) e2 (by omega) (by omega) (by omega) (by rw [List.map_append]; exact s2) (by rw [← hpre, List.append_assoc]; rfl) (hF2.tr hF)
        · obtain ⟨hi2, hj2, -⟩ := stp_keep hs
          rw [sc_2 hi hj hij hs] at hpre
          refine n_topI (y := (iI 2)) (by rw [hs]) ?_
          refine n_istore (lv' := [(0, .ref (ad 16)), (1, .ref (ad k)), (2, .int (iI (i : Int))), (3, .int (iI (j : Int))), (4, .int (iI 2))]) C dX0_writeTo_35 (by decide) rfl ?_
          refine n_iload C dX0_writeTo_37 4 rfl ?_
          refine n_if_ne C dX0_writeTo_39 (by decide) (by omega) (by omega) (tgt := 61) (fun _ => ?_) (fun c9 => absurd c9 (by omega))
          refine n_iload C dX0_writeTo_61 4 rfl ?_
          refine n_iconst C dX0_writeTo_63 ?_
          refine n_icmp_ne C dX0_writeTo_64 (by decide) (by omega) (by omega) (by omega) (by omega) (tgt := 83) (fun _ => ?_) (fun c9 => absurd c9 (by omega))
          refine n_iload_n C dX0_writeTo_83 2 rfl rfl ?_
          refine n_iload C dX0_writeTo_84 4 rfl ?_
          refine n_iconst C dX0_writeTo_86 ?_
          refine n_icmp_ne C dX0_writeTo_87 (by decide) (by omega) (by omega) (by omega) (by omega) (tgt := 94) (fun _ => ?_) (fun c9 => absurd c9 (by omega))
          refine n_iconst C dX0_writeTo_94 ?_
          refine n_iadd C dX0_writeTo_95 ?_
          refine n_istore_n (lv' := [(0, .ref (ad 16)), (1, .ref (ad k)), (2, .int (iI ((i : Int) + 1))), (3, .int (iI (j : Int))), (4, .int (iI 2))]) C dX0_writeTo_96 rfl (by decide) rfl ?_
          refine n_iload_n C dX0_writeTo_97 3 rfl rfl ?_
          refine n_iload C dX0_writeTo_98 4 rfl ?_
          refine n_if_ne C dX0_writeTo_100 (by decide) (by omega) (by omega) (tgt := 107) (fun _ => ?_) (fun c9 => absurd c9 (by omega))
          refine n_iconst C dX0_writeTo_107 ?_
          refine n_iadd C dX0_writeTo_108 ?_
          refine n_istore_n (lv' := [(0, .ref (ad 16)), (1, .ref (ad k)), (2, .int (iI ((i : Int) + 1))), (3, .int (iI ((j : Int) + 1))), (4, .int (iI 2))]) C dX0_writeTo_109 rfl (by decide) rfl ?_
          refine n_goto (tgt := 8) C dX0_writeTo_110 (by decide) ?_
          refine n_sub (lv2 := [(0, .ref (ad 16)), (1, .ref (ad k)), (2, .int (iI ((i : Int) + 1))), (3, .int (iI ((j : Int) + 1)))]) [0, 1, 2, 3] rfl ?_
          refine n_lv (lv2 := [(0, .ref (ad 16)), (1, .ref (ad k)), (2, .int (iI ((i + 1 : Nat) : Int))), (3, .int (iI ((j + 1 : Nat) : Int)))]) (by simp) ?_
          exact ih (i + 1) (j + 1) pre ex (by omega) (by omega) (by omega) s1 hpre hF
  exact loop _ 0 0 [] ea (Nat.lt_succ_self _) (Nat.zero_le _) (Nat.zero_le _) s1 rfl hFa

def pX0_pairTo (G : GG) (ad : Nat → Nat) (ev : Nat → va_E) (k : Nat) (xs ys : List Int32) : Option Value → (Nat → va_E) → Prop := fun v e2 => v = none ∧ RowAt G ad e2 k ((kp xs ys 0 0).map iI) 20 ∧ Fr e2 ev (fun j => j = k ∨ j = k + 1)

set_option maxHeartbeats 4000000 in
set_option maxRecDepth 100000 in
theorem TX0_pairTo (l : Launch) {G : GG} {N : Nat} {ad : Nat → Nat} {ev : Nat → va_E} {qa qb k : Nat} {M : Nat → Nat → Int32} {xs ys zs : List Int32} (hN : 53 ≤ N) (hC : CmpAt G ad ev qa qb M) (r1 : RowAt G ad ev qa xs 20) (r2 : RowAt G ad ev qb ys 20) (ha : qa + 1 < 8) (hb : qb + 1 < 8) (hok : okM M xs ys) (hk : 39 ≤ k) (hk2 : k + 1 < N) (hR : RowAt G ad ev k zs 20) : Ct l yX0_pairTo wsX0_pairTo rmX0_pairTo [.ref (ad 16), .ref (ad k)] G N ad ev 0 0 (pX0_pairTo G ad ev k xs ys) := by
  have hl1 := r1.le
  have hl2 := r2.le
  obtain ⟨k0, k1, k2⟩ := id hC
  obtain ⟨f0, g0, g1, g2, -⟩ := id r1
  obtain ⟨f3, g3, g4, g5, -⟩ := id r2
  obtain ⟨f6, g6, g7, g8, -⟩ := id hR
  have hlen := (kp_facts xs ys _ 0 0 (Nat.zero_le _) (Nat.zero_le _) (Nat.le_refl _)).1
  refine Ct_of (cc := cX0_pairTo) (maxL := 5) (ret := none) (lv := [(0, .ref (ad 16)), (1, .ref (ad k))]) (by decide) rfl (Nat.le_of_ble_eq_true rfl) rfl ?_
  intro p E s m args below meth c A C hr hnm
  refine n_aload_n C dX0_pairTo_0 1 rfl rfl ?_
  refine n_callV (rest := []) C dX0_pairTo_1 (TX2_empty l (i := k) hk2 hR) (cwV 0 C.2.2.2.2.1 gX0_pairTo_X2_empty rfl rfl rfl cdX2_empty ⟨Nat.le_of_ble_eq_true rfl, Nat.le_of_ble_eq_true rfl⟩) (by omega) g6 rfl rfl rfl (Nat.le_of_ble_eq_true rfl) ⟨Nat.le_of_ble_eq_true rfl, Nat.le_of_ble_eq_true rfl⟩ ?_
  rintro _ ea ⟨rfl, s1, hFa⟩
  refine n_pc (pc2 := 4) rfl (n_st (st2 := []) rfl ?_)
  refine n_iconst C dX0_pairTo_4 ?_
  refine n_istore_n (lv' := [(0, .ref (ad 16)), (1, .ref (ad k)), (2, .int (iI 0))]) C dX0_pairTo_5 rfl (by decide) rfl ?_
  refine n_iconst C dX0_pairTo_6 ?_
  refine n_istore_n (lv' := [(0, .ref (ad 16)), (1, .ref (ad k)), (2, .int (iI 0)), (3, .int (iI 0))]) C dX0_pairTo_7 rfl (by decide) rfl ?_
  have loop : ∀ (n9 : Nat) (i j : Nat) (pre : List Int) (ex : Nat → va_E), xs.length + ys.length + 1 - (i + j) < n9 → (i ≤ xs.length) → (j ≤ ys.length) → (RowAt G ad ex k (pre.map iI) 20) → (pre ++ kp xs ys i j = kp xs ys 0 0) → (Fr ex ev (fun j => j = k ∨ j = k + 1)) → V p l E rmX0_pairTo s m args below meth c G A 5 (MQ below (Qg G N ad A (pX0_pairTo G ad ev k xs ys)) args s 0 0 A) N ad ex 0 0 8 [(0, .ref (ad 16)), (1, .ref (ad k)), (2, .int (iI (i : Int))), (3, .int (iI (j : Int)))] [] := by
    intro n9
    induction n9 with
    | zero =>
      intro i j pre ex hm9
      exact absurd hm9 (Nat.not_lt_zero _)
    | succ n9 ih =>
      intro i j pre ex hm9 hi hj s1 hpre hF
      have hc := hC.fr hF (fun j h1 h2 => by omega)
      have p1 := r1.fr hF (by omega) (by omega)
      have p2 := r2.fr hF (by omega) (by omega)
      obtain ⟨k0, k1, k2⟩ := id hc
      obtain ⟨f0, g0, g1, g2, -⟩ := id p1
      obtain ⟨f3, g3, g4, g5, -⟩ := id p2
      obtain ⟨f6, g6, g7, g8, -⟩ := id s1
      refine n_iload_n C dX0_pairTo_8 2 rfl rfl ?_
      refine n_iload_n C dX0_pairTo_9 3 rfl rfl ?_
      refine n_iadd C dX0_pairTo_10 ?_
      refine n_aload_n C dX0_pairTo_11 0 rfl rfl ?_
      refine n_get (k9 := 1) C dX0_pairTo_12 (by omega) k0 hX0_pairTo_X0 rfl (by decide) kX0_pairTo_21 rfl ?_
      refine n_getN (k9 := 1) C dX0_pairTo_15 (by omega) g0 hX0_pairTo_X2 rfl (by decide) kn_X0_28 rfl ?_
      refine n_aload_n C dX0_pairTo_18 0 rfl rfl ?_
      refine n_get (k9 := 2) C dX0_pairTo_19 (by omega) k0 hX0_pairTo_X0 rfl (by decide) kX0_pairTo_25 rfl ?_
      refine n_getN (k9 := 1) C dX0_pairTo_22 (by omega) g3 hX0_pairTo_X2 rfl (by decide) kn_X0_28 rfl ?_
      refine n_iadd C dX0_pairTo_25 ?_
      refine n_icmp_ge C dX0_pairTo_26 (by decide) (by omega) (by omega) (by omega) (by omega) (tgt := 89) (fun c1 => ?_) (fun c1 => ?_)
      · rw [kp_end (by omega), List.append_nil] at hpre
        exact n_vret C hr dX0_pairTo_89 (⟨rfl, by rw [← hpre]; exact s1, hF⟩)
      · have hij : i + j < xs.length + ys.length := by omega
        refine n_aload_n C dX0_pairTo_29 0 rfl rfl ?_
        refine n_iload_n C dX0_pairTo_30 2 rfl rfl ?_
        refine n_iload_n C dX0_pairTo_31 3 rfl rfl ?_
        refine n_callV (rest := []) C dX0_pairTo_32 (TX0_stepAt l hN hc p1 p2 (by omega) (by omega) hok hi hj) (cwV 2 C.2.2.2.2.1 gX0_pairTo_X0_stepAt rfl rfl rfl cdX0_stepAt ⟨Nat.le_of_ble_eq_true rfl, Nat.le_of_ble_eq_true rfl⟩) (by omega) k0 rfl rfl rfl (Nat.le_of_ble_eq_true rfl) ⟨Nat.le_of_ble_eq_true rfl, Nat.le_of_ble_eq_true rfl⟩ ?_
        rintro _ _ ⟨rfl, rfl⟩
        refine n_pc (pc2 := 35) rfl (n_st (st2 := [.int (iI (stp xs ys i j))]) rfl ?_)
        rcases stp_3 xs ys i j with hs | hs | hs
        · have hi2 := stp_del hs
          rw [kp_0 hi hj hij hs] at hpre
          have hl9 := congrArg List.length hpre
          simp only [List.length_append, List.length_cons] at hl9
          refine n_topI (y := (iI 0)) (by rw [hs]) ?_
          refine n_istore (lv' := [(0, .ref (ad 16)), (1, .ref (ad k)), (2, .int (iI (i : Int))), (3, .int (iI (j : Int))), (4, .int (iI 0))]) C dX0_pairTo_35 (by decide) rfl ?_
          refine n_iload C dX0_pairTo_37 4 rfl ?_
          refine n_iconst C dX0_pairTo_39 ?_
          refine n_icmp_eq C dX0_pairTo_40 (by decide) (by omega) (by omega) (by omega) (by omega) (tgt := 59) (fun c9 => absurd c9 (by omega)) (fun _ => ?_)
          refine n_aload_n C dX0_pairTo_43 1 rfl rfl ?_
          refine n_iload C dX0_pairTo_44 4 rfl ?_
          refine n_iconst C dX0_pairTo_46 ?_
          refine n_icmp_ne C dX0_pairTo_47 (by decide) (by omega) (by omega) (by omega) (by omega) (tgt := 54) (fun _ => ?_) (fun c9 => absurd c9 (by omega))
          refine n_iconst C dX0_pairTo_54 ?_
          refine n_callV (rest := []) C dX0_pairTo_55 (TX2_add l (i := k) hk2 s1 (x := iI (-1))) (cwV 1 C.2.2.2.2.1 gX0_pairTo_X2_add rfl rfl rfl cdX2_add ⟨Nat.le_of_ble_eq_true rfl, Nat.le_of_ble_eq_true rfl⟩) (by omega) g6 rfl rfl rfl (Nat.le_of_ble_eq_true rfl) ⟨Nat.le_of_ble_eq_true rfl, Nat.le_of_ble_eq_true rfl⟩ ?_
          rintro _ e2 ⟨rfl, s2, hF2⟩
          refine n_pc (pc2 := 58) rfl (n_st (st2 := [.int (bI (decide ((pre.map iI).length < 20)))]) rfl ?_)
          rw [if_pos (by rw [List.length_map]; omega)] at s2
          refine n_pop C dX0_pairTo_58 rfl ?_
          refine n_iload_n C dX0_pairTo_59 2 rfl rfl ?_
          refine n_iload C dX0_pairTo_60 4 rfl ?_
          refine n_iconst C dX0_pairTo_62 ?_
          refine n_icmp_ne C dX0_pairTo_63 (by decide) (by omega) (by omega) (by omega) (by omega) (tgt := 70) (fun _ => ?_) (fun c9 => absurd c9 (by omega))
          refine n_iconst C dX0_pairTo_70 ?_
          refine n_iadd C dX0_pairTo_71 ?_
          refine n_istore_n (lv' := [(0, .ref (ad 16)), (1, .ref (ad k)), (2, .int (iI ((i : Int) + 1))), (3, .int (iI (j : Int))), (4, .int (iI 0))]) C dX0_pairTo_72 rfl (by decide) rfl ?_
          refine n_iload_n C dX0_pairTo_73 3 rfl rfl ?_
          refine n_iload C dX0_pairTo_74 4 rfl ?_
          refine n_if_ne C dX0_pairTo_76 (by decide) (by omega) (by omega) (tgt := 83) (fun c9 => absurd c9 (by omega)) (fun _ => ?_)
          refine n_iconst C dX0_pairTo_79 ?_
          refine n_goto (tgt := 84) C dX0_pairTo_80 (by decide) ?_
          refine n_iadd C dX0_pairTo_84 ?_
          refine n_istore_n (lv' := [(0, .ref (ad 16)), (1, .ref (ad k)), (2, .int (iI ((i : Int) + 1))), (3, .int (iI ((j : Int) + 0))), (4, .int (iI 0))]) C dX0_pairTo_85 rfl (by decide) rfl ?_
          refine n_goto (tgt := 8) C dX0_pairTo_86 (by decide) ?_
          refine n_sub (lv2 := [(0, .ref (ad 16)), (1, .ref (ad k)), (2, .int (iI ((i : Int) + 1))), (3, .int (iI ((j : Int) + 0)))]) [0, 1, 2, 3] rfl ?_
          refine n_lv (lv2 := [(0, .ref (ad 16)), (1, .ref (ad k)), (2, .int (iI ((i + 1 : Nat) : Int))), (3, .int (iI ((j : Nat) : Int)))]) (by simp) ?_
          exact ih (i + 1) (j) (pre ++ [-1]) e2 (by omega) (by omega) (by omega) (by rw [List.map_append]; exact s2) (by rw [← hpre, List.append_assoc]; rfl) (hF2.tr hF)
        · have hj2 := stp_ins hi hj hij hs
          rw [kp_1 hi hj hij hs] at hpre
          refine n_topI (y := (iI 1)) (by rw [hs]) ?_
          refine n_istore (lv' := [(0, .ref (ad 16)), (1, .ref (ad k)), (2, .int (iI (i : Int))), (3, .int (iI (j : Int))), (4, .int (iI 1))]) C dX0_pairTo_35 (by decide) rfl ?_
          refine n_iload C dX0_pairTo_37 4 rfl ?_
          refine n_iconst C dX0_pairTo_39 ?_
          refine n_icmp_eq C dX0_pairTo_40 (by decide) (by omega) (by omega) (by omega) (by omega) (tgt := 59) (fun _ => ?_) (fun c9 => absurd c9 (by omega))
          refine n_iload_n C dX0_pairTo_59 2 rfl rfl ?_
          refine n_iload C dX0_pairTo_60 4 rfl ?_
          refine n_iconst C dX0_pairTo_62 ?_
          refine n_icmp_ne C dX0_pairTo_63 (by decide) (by omega) (by omega) (by omega) (by omega) (tgt := 70) (fun c9 => absurd c9 (by omega)) (fun _ => ?_)
          refine n_iconst C dX0_pairTo_66 ?_
          refine n_goto (tgt := 71) C dX0_pairTo_67 (by decide) ?_
          refine n_iadd C dX0_pairTo_71 ?_
          refine n_istore_n (lv' := [(0, .ref (ad 16)), (1, .ref (ad k)), (2, .int (iI ((i : Int) + 0))), (3, .int (iI (j : Int))), (4, .int (iI 1))]) C dX0_pairTo_72 rfl (by decide) rfl ?_
          refine n_iload_n C dX0_pairTo_73 3 rfl rfl ?_
          refine n_iload C dX0_pairTo_74 4 rfl ?_
          refine n_if_ne C dX0_pairTo_76 (by decide) (by omega) (by omega) (tgt := 83) (fun _ => ?_) (fun c9 => absurd c9 (by omega))
          refine n_iconst C dX0_pairTo_83 ?_
          refine n_iadd C dX0_pairTo_84 ?_
          refine n_istore_n (lv' := [(0, .ref (ad 16)), (1, .ref (ad k)), (2, .int (iI ((i : Int) + 0))), (3, .int (iI ((j : Int) + 1))), (4, .int (iI 1))]) C dX0_pairTo_85 rfl (by decide) rfl ?_
          refine n_goto (tgt := 8) C dX0_pairTo_86 (by decide) ?_
          refine n_sub (lv2 := [(0, .ref (ad 16)), (1, .ref (ad k)), (2, .int (iI ((i : Int) + 0))), (3, .int (iI ((j : Int) + 1)))]) [0, 1, 2, 3] rfl ?_
          refine n_lv (lv2 := [(0, .ref (ad 16)), (1, .ref (ad k)), (2, .int (iI ((i : Nat) : Int))), (3, .int (iI ((j + 1 : Nat) : Int)))]) (by simp) ?_
          exact ih (i) (j + 1) pre ex (by omega) (by omega) (by omega) s1 hpre hF
        · obtain ⟨hi2, hj2, -⟩ := stp_keep hs
          rw [kp_2 hi hj hij hs] at hpre
          have hl9 := congrArg List.length hpre
          simp only [List.length_append, List.length_cons] at hl9
          refine n_topI (y := (iI 2)) (by rw [hs]) ?_
          refine n_istore (lv' := [(0, .ref (ad 16)), (1, .ref (ad k)), (2, .int (iI (i : Int))), (3, .int (iI (j : Int))), (4, .int (iI 2))]) C dX0_pairTo_35 (by decide) rfl ?_
          refine n_iload C dX0_pairTo_37 4 rfl ?_
          refine n_iconst C dX0_pairTo_39 ?_
          refine n_icmp_eq C dX0_pairTo_40 (by decide) (by omega) (by omega) (by omega) (by omega) (tgt := 59) (fun c9 => absurd c9 (by omega)) (fun _ => ?_)
          refine n_aload_n C dX0_pairTo_43 1 rfl rfl ?_
          refine n_iload C dX0_pairTo_44 4 rfl ?_
          refine n_iconst C dX0_pairTo_46 ?_
          refine n_icmp_ne C dX0_pairTo_47 (by decide) (by omega) (by omega) (by omega) (by omega) (tgt := 54) (fun c9 => absurd c9 (by omega)) (fun _ => ?_)
          refine n_iload_n C dX0_pairTo_50 3 rfl rfl ?_
          refine n_goto (tgt := 55) C dX0_pairTo_51 (by decide) ?_
          refine n_callV (rest := []) C dX0_pairTo_55 (TX2_add l (i := k) hk2 s1 (x := iI ((j : Int)))) (cwV 1 C.2.2.2.2.1 gX0_pairTo_X2_add rfl rfl rfl cdX2_add ⟨Nat.le_of_ble_eq_true rfl, Nat.le_of_ble_eq_true rfl⟩) (by omega) g6 rfl rfl rfl (Nat.le_of_ble_eq_true rfl) ⟨Nat.le_of_ble_eq_true rfl, Nat.le_of_ble_eq_true rfl⟩ ?_
          rintro _ e2 ⟨rfl, s2, hF2⟩
          refine n_pc (pc2 := 58) rfl (n_st (st2 := [.int (bI (decide ((pre.map iI).length < 20)))]) rfl ?_)
          rw [if_pos (by rw [List.length_map]; omega)] at s2
          refine n_pop C dX0_pairTo_58 rfl ?_
          refine n_iload_n C dX0_pairTo_59 2 rfl rfl ?_
          refine n_iload C dX0_pairTo_60 4 rfl ?_
          refine n_iconst C dX0_pairTo_62 ?_
          refine n_icmp_ne C dX0_pairTo_63 (by decide) (by omega) (by omega) (by omega) (by omega) (tgt := 70) (fun _ => ?_) (fun c9 => absurd c9 (by omega))
          refine n_iconst C dX0_pairTo_70 ?_
          refine n_iadd C dX0_pairTo_71 ?_
          refine n_istore_n (lv' := [(0, .ref (ad 16)), (1, .ref (ad k)), (2, .int (iI ((i : Int) + 1))), (3, .int (iI (j : Int))), (4, .int (iI 2))]) C dX0_pairTo_72 rfl (by decide) rfl ?_
          refine n_iload_n C dX0_pairTo_73 3 rfl rfl ?_
          refine n_iload C dX0_pairTo_74 4 rfl ?_
          refine n_if_ne C dX0_pairTo_76 (by decide) (by omega) (by omega) (tgt := 83) (fun _ => ?_) (fun c9 => absurd c9 (by omega))
          refine n_iconst C dX0_pairTo_83 ?_
          refine n_iadd C dX0_pairTo_84 ?_
          refine n_istore_n (lv' := [(0, .ref (ad 16)), (1, .ref (ad k)), (2, .int (iI ((i : Int) + 1))), (3, .int (iI ((j : Int) + 1))), (4, .int (iI 2))]) C dX0_pairTo_85 rfl (by decide) rfl ?_
          refine n_goto (tgt := 8) C dX0_pairTo_86 (by decide) ?_
          refine n_sub (lv2 := [(0, .ref (ad 16)), (1, .ref (ad k)), (2, .int (iI ((i : Int) + 1))), (3, .int (iI ((j : Int) + 1)))]) [0, 1, 2, 3] rfl ?_
          refine n_lv (lv2 := [(0, .ref (ad 16)), (1, .ref (ad k)), (2, .int (iI ((i + 1 : Nat) : Int))), (3, .int (iI ((j + 1 : Nat) : Int)))]) (by simp) ?_
          exact ih (i + 1) (j + 1) (pre ++ [(j : Int)]) e2 (by omega) (by omega) (by omega) (by rw [List.map_append]; exact s2) (by rw [← hpre, List.append_assoc]; rfl) (hF2.tr hF)
  exact loop _ 0 0 [] ea (Nat.lt_succ_self _) (Nat.zero_le _) (Nat.zero_le _) s1 rfl hFa
