set_option maxHeartbeats 4000000 in
set_option maxRecDepth 100000 in
theorem TX6_take (l : Launch) {G : GG} {N : Nat} {ad : Nat → Nat} {ev : Nat → va_E} {lim thr : Int} {no : Nat} {cmp : Bool} {nl lsz : Nat} {rs9 : List Int32} {fr : Nat → Int32} {x : Int32} (hN : 66 ≤ N) (k53 : ev 53 = mO ad lim thr no cmp nl lsz rs9.length) (m4 : MRes G ev rs9 fr) (hlt : rs9.length < 128) : Ct l yX6_take wsX6_take rmX6_take [.ref (ad 53), .int x] G N ad ev 0 0 (fun v e2 => v = none ∧ e2 53 = mO ad lim thr no cmp nl lsz (rs9.length + 1) ∧ (∃ fr : Nat → Int32, MRes G e2 (rs9 ++ [x]) fr) ∧ Fr e2 ev (fun j => j = 53 ∨ j = 61)) := by
  refine Ct_of (cc := cX6_take) (maxL := 2) (ret := none) (lv := [(0, .ref (ad 53)), (1, .int x)]) (by decide) rfl (Nat.le_of_ble_eq_true rfl) rfl ?_
  intro p E s m args below meth c A C hr hnm
  refine n_aload_n C dX6_take_0 0 rfl rfl ?_
  refine n_get (k9 := 14) C dX6_take_1 (by omega) k53 hX6_take_X6 rfl (by decide) kX6_take_31 rfl ?_
  refine n_aload_n C dX6_take_4 0 rfl rfl ?_
  refine n_get (k9 := 13) C dX6_take_5 (by omega) k53 hX6_take_X6 rfl (by decide) kX6_take_90 rfl ?_
  refine n_iload_n C dX6_take_8 1 rfl rfl ?_
  refine n_iast (j := rs9.length) C dX6_take_9 (by omega) m4.1 (by omega) (by omega) (by omega) (fun e1 hs2 ho3 => ?_)
  have qh4 := (ho3 53 (by decide)).trans k53
  refine n_aload_n C dX6_take_10 0 rfl rfl ?_
  refine n_dup C dX6_take_11 rfl ?_
  refine n_get (k9 := 13) C dX6_take_12 (by omega) qh4 hX6_take_X6 rfl (by decide) kX6_take_90 rfl ?_
  refine n_iconst C dX6_take_15 ?_
  refine n_iadd C dX6_take_16 ?_
  refine n_put (k9 := 13) (fs2 := [.int (iI lim), .int (iI thr), .ref (ad 54), .ref (ad 55), .int (iI (no : Int)), .ref (ad 56), .ref (ad 57), .ref (ad 58), .int (bI cmp), .int (iI (nl : Int)), .int (iI (lsz : Int)), .ref (ad 59), .ref (ad 60), .int (iI ((rs9.length : Int) + 1)), .ref (ad 61), .ref (ad 62), .ref (ad 63), .ref (ad 64), .ref (ad 65)]) C dX6_take_17 (by omega) qh4 hX6_take_X6 tyX6_ok nmX6 rfl (by decide) kX6_take_90 rfl rfl rfl (Nat.le_of_ble_eq_true rfl) rfl (fun e5 hs6 ho7 => ?_)
  have qh8 := (ho7 61 (by decide)).trans hs2
  exact n_vret C hr dX6_take_20 (⟨rfl, hs6, ⟨_, qh8, push_f m4.2.1, by simp; omega⟩, fun j hj => (ho7 j (by omega)).trans (ho3 j (by omega))⟩)

set_option maxHeartbeats 4000000 in
set_option maxRecDepth 100000 in
theorem TX6_keep (l : Launch) {G : GG} {N : Nat} {ad : Nat → Nat} {ev : Nat → va_E} {lim thr : Int} {no : Nat} {cmp : Bool} {nl lsz nr : Nat} {R9 : Nat → List Int32} {fz fy : Nat → Int32} {b wc : Nat} {fq fw : Nat → Int32} (hN : 66 ≤ N) (k53 : ev 53 = mO ad lim thr no cmp nl lsz nr) (m1 : MRows G ev R9 fz fy) (hb : b < 3) (k62 : ev 62 = .inl (G.2.1, 441, .inl fq)) (hwc : wc = 63 ∨ wc = 64) (kw : ev wc = .inl (G.2.1, 20, .inl fw)) : Ct l yX6_keep wsX6_keep rmX6_keep [.ref (ad 53), .int (iI (b : Int)), .ref (ad wc)] G N ad ev 0 0 (fun v e2 => v = none ∧ (∃ fq : Nat → Int32, e2 62 = .inl (G.2.1, 441, .inl fq)) ∧ (∃ fw : Nat → Int32, e2 wc = .inl (G.2.1, 20, .inl fw) ∧ ∀ (k : Nat) (t : Int), (kp (R9 0) (R9 b) 0 0)[k]? = some t → fw k = iI (t + 1)) ∧ Fr e2 ev (fun j => j = 62 ∨ j = wc)) := by
  obtain ⟨z0, l0, y0⟩ := m1.at (j := 0) (by omega)
  obtain ⟨zb, lb, yb⟩ := m1.at (j := b) hb
  have hlen := (kp_facts (R9 0) (R9 b) _ 0 0 (Nat.zero_le _) (Nat.zero_le _) (Nat.le_refl _)).1
  refine Ct_of (cc := cX6_keep) (maxL := 5) (ret := none) (lv := [(0, .ref (ad 53)), (1, .int (iI (b : Int))), (2, .ref (ad wc))]) (by decide) rfl (Nat.le_of_ble_eq_true rfl) rfl ?_
  intro p E s m args below meth c A C hr hnm
  refine n_aload_n C dX6_keep_0 0 rfl rfl ?_
  refine n_iconst C dX6_keep_1 ?_
  refine n_iload_n C dX6_keep_2 1 rfl rfl ?_
  refine n_callV (rest := []) C dX6_keep_3 (TX6_fill l hN k53 m1 (a := 0) (b := b) (by omega) hb k62) (cwV 2 C.2.2.2.2.1 gX6_keep_X6_fill rfl rfl rfl cdX6_fill ⟨Nat.le_of_ble_eq_true rfl, Nat.le_of_ble_eq_true rfl⟩) (by omega) k53 rfl rfl rfl (Nat.le_of_ble_eq_true rfl) ⟨Nat.le_of_ble_eq_true rfl, Nat.le_of_ble_eq_true rfl⟩ ?_
  rintro _ e1 ⟨rfl, ⟨fq2, k62, hok⟩, hF1⟩
  refine n_pc (pc2 := 6) rfl (n_st (st2 := []) rfl ?_)
  have k53 := (hF1 53 (by omega)).trans k53
  have m1 := m1.fr hF1 (by omega) (by omega)
  have kw := (hF1 wc (by omega)).trans kw
  refine n_iconst C dX6_keep_6 ?_
  refine n_istore_n (lv' := [(0, .ref (ad 53)), (1, .int (iI (b : Int))), (2, .ref (ad wc)), (3, .int (iI 0))]) C dX6_keep_7 rfl (by decide) rfl ?_
  refine n_iconst C dX6_keep_8 ?_
  refine n_istore (lv' := [(0, .ref (ad 53)), (1, .int (iI (b : Int))), (2, .ref (ad wc)), (3, .int (iI 0)), (4, .int (iI 0))]) C dX6_keep_9 (by decide) rfl ?_
  have loop : ∀ (n9 : Nat) (x y : Nat) (pre : List Int) (fw : Nat → Int32) (ex : Nat → va_E), (R9 0).length + (R9 b).length + 1 - (x + y) < n9 → (x ≤ (R9 0).length) → (y ≤ (R9 b).length) → (pre ++ kp (R9 0) (R9 b) x y = kp (R9 0) (R9 b) 0 0) → (pre.length = x) → (ex wc = .inl (G.2.1, 20, .inl fw)) → (∀ (k : Nat) (t : Int), (pre)[k]? = some t → fw k = iI (t + 1)) → (Fr ex e1 (fun j => j = wc)) → V p l E rmX6_keep s m args below meth c G A 5 (MQ below (Qg G N ad A (fun v e2 => v = none ∧ (∃ fq : Nat → Int32, e2 62 = .inl (G.2.1, 441, .inl fq)) ∧ (∃ fw : Nat → Int32, e2 wc = .inl (G.2.1, 20, .inl fw) ∧ ∀ (k : Nat) (t : Int), (kp (R9 0) (R9 b) 0 0)[k]? = some t → fw k = iI (t + 1)) ∧ Fr e2 ev (fun j => j = 62 ∨ j = wc))) args s 0 0 A) N ad ex 0 0 11 [(0, .ref (ad 53)), (1, .int (iI (b : Int))), (2, .ref (ad wc)), (3, .int (iI (x : Int))), (4, .int (iI (y : Int)))] [] := by
    intro n9
    induction n9 with
    | zero =>
      intro x y pre fw ex hm9
      exact absurd hm9 (Nat.not_lt_zero _)
    | succ n9 ih =>
      intro x y pre fw ex hm9 hx hy hpre hpl kw hfw hFx
      have k53 := (hFx 53 (by omega)).trans k53
      have m1 := m1.fr hFx (by omega) (by omega)
      have k62 := (hFx 62 (by omega)).trans k62
      refine n_iload_n C dX6_keep_11 3 rfl rfl ?_
      refine n_aload_n C dX6_keep_12 0 rfl rfl ?_
      refine n_get (k9 := 2) C dX6_keep_13 (by omega) k53 hX6_keep_X6 rfl (by decide) kX6_keep_7 rfl ?_
      refine n_iconst C dX6_keep_16 ?_
      refine n_iald (j := 0) C dX6_keep_17 (by omega) m1.1 (by omega) (by omega) (by omega) ?_
      refine n_topI (y := (iI ((R9 0).length : Int))) (z0) ?_
      refine n_icmp_lt C dX6_keep_18 (by decide) (by omega) (by omega) (by omega) (by omega) (tgt := 32) (fun c4 => ?_) (fun c4 => ?_)
      · have hxy : x + y < (R9 0).length + (R9 b).length := by omega
        refine n_iload_n C dX6_keep_32 3 rfl rfl ?_
        refine n_aload_n C dX6_keep_33 0 rfl rfl ?_
        refine n_get (k9 := 2) C dX6_keep_34 (by omega) k53 hX6_keep_X6 rfl (by decide) kX6_keep_7 rfl ?_
        refine n_iconst C dX6_keep_37 ?_
        refine n_iald (j := 0) C dX6_keep_38 (by omega) m1.1 (by omega) (by omega) (by omega) ?_
        refine n_topI (y := (iI ((R9 0).length : Int))) (z0) ?_
        refine n_icmp_ge C dX6_keep_39 (by decide) (by omega) (by omega) (by omega) (by omega) (tgt := 81) (fun c5 => ?_) (fun c5 => ?_)
        · have hsam : sam (R9 0) (R9 b) x y = false := sam_no (Or.inl (by omega))
          have hstp : stp (R9 0) (R9 b) x y = if x < (R9 0).length ∧ rs (R9 0) (R9 b) (x + 1) y < rs (R9 0) (R9 b) x y then 0 else 1 := by unfold stp; rw [hsam]; rfl
          refine n_aload_n C dX6_keep_81 0 rfl rfl ?_
          refine n_iconst C dX6_keep_82 ?_
          refine n_iload_n C dX6_keep_83 3 rfl rfl ?_
          refine n_iload C dX6_keep_84 4 rfl ?_
          refine n_callV (rest := []) C dX6_keep_86 (TX6_deletes l hN k53 m1 (a := 0) (b := b) (by omega) hb k62 hok hx hy) (cwV 3 C.2.2.2.2.1 gX6_keep_X6_deletes rfl rfl rfl cdX6_deletes ⟨Nat.le_of_ble_eq_true rfl, Nat.le_of_ble_eq_true rfl⟩) (by omega) k53 rfl rfl rfl (Nat.le_of_ble_eq_true rfl) ⟨Nat.le_of_ble_eq_true rfl, Nat.le_of_ble_eq_true rfl⟩ ?_
          rintro _ _ ⟨rfl, rfl⟩
          refine n_pc (pc2 := 89) rfl (n_st (st2 := [.int (bI (decide (x < (R9 0).length ∧ rs (R9 0) (R9 b) (x + 1) y < rs (R9 0) (R9 b) x y)))]) rfl ?_)
          refine n_if_eqB C dX6_keep_89 (by decide) (tgt := 102) (fun c8 => ?_) (fun c8 => ?_)
          · have hs : stp (R9 0) (R9 b) x y = 1 := by rw [hstp, if_neg (of_decide_eq_false c8)]
            have hy2 := stp_ins hx hy hxy hs
            rw [kp_1 hx hy hxy hs] at hpre
            refine n_iinc (lv' := [(0, .ref (ad 53)), (1, .int (iI (b : Int))), (2, .ref (ad wc)), (3, .int (iI (x : Int))), (4, .int (iI ((y : Int) + 1)))]) C dX6_keep_102 4 rfl (by decide) rfl ?_
            refine n_goto (tgt := 11) C dX6_keep_105 (by decide) ?_
            refine n_lv (lv2 := [(0, .ref (ad 53)), (1, .int (iI (b : Int))), (2, .ref (ad wc)), (3, .int (iI ((x : Nat) : Int))), (4, .int (iI ((y + 1 : Nat) : Int)))]) (by simp) ?_
            exact ih (x) (y + 1) pre fw ex (by omega) (by omega) (by omega) hpre hpl kw hfw hFx
          · have hs : stp (R9 0) (R9 b) x y = 0 := by rw [hstp, if_pos (of_decide_eq_true c8)]
            have hx2 := stp_del hs
            rw [kp_0 hx hy hxy hs] at hpre
            refine n_aload_n C dX6_keep_92 2 rfl rfl ?_
            refine n_iload_n C dX6_keep_93 3 rfl rfl ?_
            refine n_iconst C dX6_keep_94 ?_
            refine n_iast (j := x) C dX6_keep_95 (by omega) kw (by omega) (by omega) (by omega) (fun e1 hs2 ho3 => ?_)
            have qh4 := (ho3 53 (by omega)).trans k53
            refine n_iinc (lv' := [(0, .ref (ad 53)), (1, .int (iI (b : Int))), (2, .ref (ad wc)), (3, .int (iI ((x : Int) + 1))), (4, .int (iI (y : Int)))]) C dX6_keep_96 3 rfl (by decide) rfl ?_
            refine n_goto (tgt := 11) C dX6_keep_99 (by decide) ?_
            refine n_lv (lv2 := [(0, .ref (ad 53)), (1, .int (iI (b : Int))), (2, .ref (ad wc)), (3, .int (iI ((x + 1 : Nat) : Int))), (4, .int (iI ((y : Nat) : Int)))]) (by simp) ?_
            exact ih (x + 1) (y) (pre ++ [-1]) _ e1 (by omega) (by omega) (by omega) (by rw [← hpre, List.append_assoc]; rfl) (by rw [List.length_append, List.length_singleton]; omega) hs2 (fun k t hkt => by
              by_cases e : k = x
              · subst e
                rw [← hpl, List.getElem?_append_right (Nat.le_refl _), Nat.sub_self] at hkt
                have h9 : (-1 : Int) = t := by simpa using hkt
                rw [← h9]
                simp [upd]
              · have hk9 : k < pre.length := by
                  have := (List.getElem?_eq_some_iff.mp hkt).1
                  rw [List.length_append, List.length_singleton] at this
                  omega
                rw [List.getElem?_append_left hk9] at hkt
                simp only [upd, if_neg e]
                exact hfw k t hkt) (fun j9 hj9 => (ho3 j9 hj9).trans (hFx j9 hj9))
        · refine n_iload C dX6_keep_42 4 rfl ?_
          refine n_aload_n C dX6_keep_44 0 rfl rfl ?_
          refine n_get (k9 := 2) C dX6_keep_45 (by omega) k53 hX6_keep_X6 rfl (by decide) kX6_keep_7 rfl ?_
          refine n_iload_n C dX6_keep_48 1 rfl rfl ?_
          refine n_iald (j := b) C dX6_keep_49 (by omega) m1.1 (by omega) (by omega) (by omega) ?_
          refine n_topI (y := (iI ((R9 b).length : Int))) (zb) ?_
          refine n_icmp_ge C dX6_keep_50 (by decide) (by omega) (by omega) (by omega) (by omega) (tgt := 81) (fun c6 => ?_) (fun c6 => ?_)
          · have hsam : sam (R9 0) (R9 b) x y = false := sam_no (Or.inr (by omega))
            have hstp : stp (R9 0) (R9 b) x y = if x < (R9 0).length ∧ rs (R9 0) (R9 b) (x + 1) y < rs (R9 0) (R9 b) x y then 0 else 1 := by unfold stp; rw [hsam]; rfl
            refine n_aload_n C dX6_keep_81 0 rfl rfl ?_
            refine n_iconst C dX6_keep_82 ?_
            refine n_iload_n C dX6_keep_83 3 rfl rfl ?_
            refine n_iload C dX6_keep_84 4 rfl ?_
            refine n_callV (rest := []) C dX6_keep_86 (TX6_deletes l hN k53 m1 (a := 0) (b := b) (by omega) hb k62 hok hx hy) (cwV 3 C.2.2.2.2.1 gX6_keep_X6_deletes rfl rfl rfl cdX6_deletes ⟨Nat.le_of_ble_eq_true rfl, Nat.le_of_ble_eq_true rfl⟩) (by omega) k53 rfl rfl rfl (Nat.le_of_ble_eq_true rfl) ⟨Nat.le_of_ble_eq_true rfl, Nat.le_of_ble_eq_true rfl⟩ ?_
            rintro _ _ ⟨rfl, rfl⟩
            refine n_pc (pc2 := 89) rfl (n_st (st2 := [.int (bI (decide (x < (R9 0).length ∧ rs (R9 0) (R9 b) (x + 1) y < rs (R9 0) (R9 b) x y)))]) rfl ?_)
            refine n_if_eqB C dX6_keep_89 (by decide) (tgt := 102) (fun c8 => ?_) (fun c8 => ?_)
            · have hs : stp (R9 0) (R9 b) x y = 1 := by rw [hstp, if_neg (of_decide_eq_false c8)]
              have hy2 := stp_ins hx hy hxy hs
              rw [kp_1 hx hy hxy hs] at hpre
              refine n_iinc (lv' := [(0, .ref (ad 53)), (1, .int (iI (b : Int))), (2, .ref (ad wc)), (3, .int (iI (x : Int))), (4, .int (iI ((y : Int) + 1)))]) C dX6_keep_102 4 rfl (by decide) rfl ?_
              refine n_goto (tgt := 11) C dX6_keep_105 (by decide) ?_
              refine n_lv (lv2 := [(0, .ref (ad 53)), (1, .int (iI (b : Int))), (2, .ref (ad wc)), (3, .int (iI ((x : Nat) : Int))), (4, .int (iI ((y + 1 : Nat) : Int)))]) (by simp) ?_
              exact ih (x) (y + 1) pre fw ex (by omega) (by omega) (by omega) hpre hpl kw hfw hFx
            · have hs : stp (R9 0) (R9 b) x y = 0 := by rw [hstp, if_pos (of_decide_eq_true c8)]
              have hx2 := stp_del hs
              rw [kp_0 hx hy hxy hs] at hpre
              refine n_aload_n C dX6_keep_92 2 rfl rfl ?_
              refine n_iload_n C dX6_keep_93 3 rfl rfl ?_
              refine n_iconst C dX6_keep_94 ?_
              refine n_iast (j := x) C dX6_keep_95 (by omega) kw (by omega) (by omega) (by omega) (fun e5 hs6 ho7 => ?_)
              have qh8 := (ho7 53 (by omega)).trans k53
              refine n_iinc (lv' := [(0, .ref (ad 53)), (1, .int (iI (b : Int))), (2, .ref (ad wc)), (3, .int (iI ((x : Int) + 1))), (4, .int (iI (y : Int)))]) C dX6_keep_96 3 rfl (by decide) rfl ?_
              refine n_goto (tgt := 11) C dX6_keep_99 (by decide) ?_
              refine n_lv (lv2 := [(0, .ref (ad 53)), (1, .int (iI (b : Int))), (2, .ref (ad wc)), (3, .int (iI ((x + 1 : Nat) : Int))), (4, .int (iI ((y : Nat) : Int)))]) (by simp) ?_
              exact ih (x + 1) (y) (pre ++ [-1]) _ e5 (by omega) (by omega) (by omega) (by rw [← hpre, List.append_assoc]; rfl) (by rw [List.length_append, List.length_singleton]; omega) hs6 (fun k t hkt => by
                by_cases e : k = x
                · subst e
                  rw [← hpl, List.getElem?_append_right (Nat.le_refl _), Nat.sub_self] at hkt
                  have h9 : (-1 : Int) = t := by simpa using hkt
                  rw [← h9]
                  simp [upd]
                · have hk9 : k < pre.length := by
                    have := (List.getElem?_eq_some_iff.mp hkt).1
                    rw [List.length_append, List.length_singleton] at this
                    omega
                  rw [List.getElem?_append_left hk9] at hkt
                  simp only [upd, if_neg e]
                  exact hfw k t hkt) (fun j9 hj9 => (ho7 j9 hj9).trans (hFx j9 hj9))
          · refine n_aload_n C dX6_keep_53 0 rfl rfl ?_
            refine n_iconst C dX6_keep_54 ?_
            refine n_iload_n C dX6_keep_55 3 rfl rfl ?_
            refine n_iload_n C dX6_keep_56 1 rfl rfl ?_
            refine n_iload C dX6_keep_57 4 rfl ?_
            refine n_callV (rest := []) C dX6_keep_59 (TX6_same l hN k53 m1 (a := 0) (b := b) (by omega) hb (by omega) (by omega)) (cwV 4 C.2.2.2.2.1 gX6_keep_X6_same rfl rfl rfl cdX6_same ⟨Nat.le_of_ble_eq_true rfl, Nat.le_of_ble_eq_true rfl⟩) (by omega) k53 rfl rfl rfl (Nat.le_of_ble_eq_true rfl) ⟨Nat.le_of_ble_eq_true rfl, Nat.le_of_ble_eq_true rfl⟩ ?_
            rintro _ _ ⟨rfl, rfl⟩
            refine n_pc (pc2 := 62) rfl (n_st (st2 := [.int (bI (sam (R9 0) (R9 b) x y))]) rfl ?_)
            refine n_if_eqB C dX6_keep_62 (by decide) (tgt := 81) (fun c7 => ?_) (fun c7 => ?_)
            · have hsam : sam (R9 0) (R9 b) x y = false := c7
              have hstp : stp (R9 0) (R9 b) x y = if x < (R9 0).length ∧ rs (R9 0) (R9 b) (x + 1) y < rs (R9 0) (R9 b) x y then 0 else 1 := by unfold stp; rw [hsam]; rfl
              refine n_aload_n C dX6_keep_81 0 rfl rfl ?_
              refine n_iconst C dX6_keep_82 ?_
              refine n_iload_n C dX6_keep_83 3 rfl rfl ?_
              refine n_iload C dX6_keep_84 4 rfl ?_
              refine n_callV (rest := []) C dX6_keep_86 (TX6_deletes l hN k53 m1 (a := 0) (b := b) (by omega) hb k62 hok hx hy) (cwV 3 C.2.2.2.2.1 gX6_keep_X6_deletes rfl rfl rfl cdX6_deletes ⟨Nat.le_of_ble_eq_true rfl, Nat.le_of_ble_eq_true rfl⟩) (by omega) k53 rfl rfl rfl (Nat.le_of_ble_eq_true rfl) ⟨Nat.le_of_ble_eq_true rfl, Nat.le_of_ble_eq_true rfl⟩ ?_
              rintro _ _ ⟨rfl, rfl⟩
              refine n_pc (pc2 := 89) rfl (n_st (st2 := [.int (bI (decide (x < (R9 0).length ∧ rs (R9 0) (R9 b) (x + 1) y < rs (R9 0) (R9 b) x y)))]) rfl ?_)
              refine n_if_eqB C dX6_keep_89 (by decide) (tgt := 102) (fun c8 => ?_) (fun c8 => ?_)
              · have hs : stp (R9 0) (R9 b) x y = 1 := by rw [hstp, if_neg (of_decide_eq_false c8)]
                have hy2 := stp_ins hx hy hxy hs
                rw [kp_1 hx hy hxy hs] at hpre
                refine n_iinc (lv' := [(0, .ref (ad 53)), (1, .int (iI (b : Int))), (2, .ref (ad wc)), (3, .int (iI (x : Int))), (4, .int (iI ((y : Int) + 1)))]) C dX6_keep_102 4 rfl (by decide) rfl ?_
                refine n_goto (tgt := 11) C dX6_keep_105 (by decide) ?_
                refine n_lv (lv2 := [(0, .ref (ad 53)), (1, .int (iI (b : Int))), (2, .ref (ad wc)), (3, .int (iI ((x : Nat) : Int))), (4, .int (iI ((y + 1 : Nat) : Int)))]) (by simp) ?_
                exact ih (x) (y + 1) pre fw ex (by omega) (by omega) (by omega) hpre hpl kw hfw hFx
              · have hs : stp (R9 0) (R9 b) x y = 0 := by rw [hstp, if_pos (of_decide_eq_true c8)]
                have hx2 := stp_del hs
                rw [kp_0 hx hy hxy hs] at hpre
                refine n_aload_n C dX6_keep_92 2 rfl rfl ?_
                refine n_iload_n C dX6_keep_93 3 rfl rfl ?_
                refine n_iconst C dX6_keep_94 ?_
                refine n_iast (j := x) C dX6_keep_95 (by omega) kw (by omega) (by omega) (by omega) (fun e9 hs10 ho11 => ?_)
                have qh12 := (ho11 53 (by omega)).trans k53
                refine n_iinc (lv' := [(0, .ref (ad 53)), (1, .int (iI (b : Int))), (2, .ref (ad wc)), (3, .int (iI ((x : Int) + 1))), (4, .int (iI (y : Int)))]) C dX6_keep_96 3 rfl (by decide) rfl ?_
                refine n_goto (tgt := 11) C dX6_keep_99 (by decide) ?_
                refine n_lv (lv2 := [(0, .ref (ad 53)), (1, .int (iI (b : Int))), (2, .ref (ad wc)), (3, .int (iI ((x + 1 : Nat) : Int))), (4, .int (iI ((y : Nat) : Int)))]) (by simp) ?_
                exact ih (x + 1) (y) (pre ++ [-1]) _ e9 (by omega) (by omega) (by omega) (by rw [← hpre, List.append_assoc]; rfl) (by rw [List.length_append, List.length_singleton]; omega) hs10 (fun k t hkt => by
                  by_cases e : k = x
                  · subst e
                    rw [← hpl, List.getElem?_append_right (Nat.le_refl _), Nat.sub_self] at hkt
                    have h9 : (-1 : Int) = t := by simpa using hkt
                    rw [← h9]
                    simp [upd]
                  · have hk9 : k < pre.length := by
                      have := (List.getElem?_eq_some_iff.mp hkt).1
                      rw [List.length_append, List.length_singleton] at this
                      omega
                    rw [List.getElem?_append_left hk9] at hkt
                    simp only [upd, if_neg e]
                    exact hfw k t hkt) (fun j9 hj9 => (ho11 j9 hj9).trans (hFx j9 hj9))
            · have hs : stp (R9 0) (R9 b) x y = 2 := by unfold stp; rw [c7]; rfl
              rw [kp_2 hx hy hxy hs] at hpre
              refine n_aload_n C dX6_keep_65 2 rfl rfl ?_
              refine n_iload_n C dX6_keep_66 3 rfl rfl ?_
              refine n_iload C dX6_keep_67 4 rfl ?_
              refine n_iconst C dX6_keep_69 ?_
              refine n_iadd C dX6_keep_70 ?_
              refine n_iast (j := x) C dX6_keep_71 (by omega) kw (by omega) (by omega) (by omega) (fun e13 hs14 ho15 => ?_)
              have qh16 := (ho15 53 (by omega)).trans k53
              refine n_iinc (lv' := [(0, .ref (ad 53)), (1, .int (iI (b : Int))), (2, .ref (ad wc)), (3, .int (iI ((x : Int) + 1))), (4, .int (iI (y : Int)))]) C dX6_keep_72 3 rfl (by decide) rfl ?_
              refine n_iinc (lv' := [(0, .ref (ad 53)), (1, .int (iI (b : Int))), (2, .ref (ad wc)), (3, .int (iI ((x : Int) + 1))), (4, .int (iI ((y : Int) + 1)))]) C dX6_keep_75 4 rfl (by decide) rfl ?_
              refine n_goto (tgt := 11) C dX6_keep_78 (by decide) ?_
              refine n_lv (lv2 := [(0, .ref (ad 53)), (1, .int (iI (b : Int))), (2, .ref (ad wc)), (3, .int (iI ((x + 1 : Nat) : Int))), (4, .int (iI ((y + 1 : Nat) : Int)))]) (by simp) ?_
              exact ih (x + 1) (y + 1) (pre ++ [(y : Int)]) _ e13 (by omega) (by omega) (by omega) (by rw [← hpre, List.append_assoc]; rfl) (by rw [List.length_append, List.length_singleton]; omega) hs14 (fun k t hkt => by
                by_cases e : k = x
                · subst e
                  rw [← hpl, List.getElem?_append_right (Nat.le_refl _), Nat.sub_self] at hkt
                  have h9 : (y : Int) = t := by simpa using hkt
                  rw [← h9]
                  simp [upd]
                · have hk9 : k < pre.length := by
                    have := (List.getElem?_eq_some_iff.mp hkt).1
                    rw [List.length_append, List.length_singleton] at this
                    omega
                  rw [List.getElem?_append_left hk9] at hkt
                  simp only [upd, if_neg e]
                  exact hfw k t hkt) (fun j9 hj9 => (ho15 j9 hj9).trans (hFx j9 hj9))
      · refine n_iload C dX6_keep_21 4 rfl ?_
        refine n_aload_n C dX6_keep_23 0 rfl rfl ?_
        refine n_get (k9 := 2) C dX6_keep_24 (by omega) k53 hX6_keep_X6 rfl (by decide) kX6_keep_7 rfl ?_
        refine n_iload_n C dX6_keep_27 1 rfl rfl ?_
        refine n_iald (j := b) C dX6_keep_28 (by omega) m1.1 (by omega) (by omega) (by omega) ?_
        refine n_topI (y := (iI ((R9 b).length : Int))) (zb) ?_
        refine n_icmp_ge C dX6_keep_29 (by decide) (by omega) (by omega) (by omega) (by omega) (tgt := 108) (fun c9 => ?_) (fun c9 => ?_)
        · rw [kp_end (by omega), List.append_nil] at hpre
          exact n_vret C hr dX6_keep_108 (⟨rfl, ⟨fq2, k62⟩, ⟨fw, kw, by rw [← hpre]; exact hfw⟩, fun j9 hj9 => (hFx j9 (by omega)).trans (hF1 j9 (by omega))⟩)
        · have hxy : x + y < (R9 0).length + (R9 b).length := by omega
          refine n_iload_n C dX6_keep_32 3 rfl rfl ?_
          refine n_aload_n C dX6_keep_33 0 rfl rfl ?_
          refine n_get (k9 := 2) C dX6_keep_34 (by omega) k53 hX6_keep_X6 rfl (by decide) kX6_keep_7 rfl ?_
          refine n_iconst C dX6_keep_37 ?_
          refine n_iald (j := 0) C dX6_keep_38 (by omega) m1.1 (by omega) (by omega) (by omega) ?_
          refine n_topI (y := (iI ((R9 0).length : Int))) (z0) ?_
          refine n_icmp_ge C dX6_keep_39 (by decide) (by omega) (by omega) (by omega) (by omega) (tgt := 81) (fun c5 => ?_) (fun c5 => ?_)
          · have hsam : sam (R9 0) (R9 b) x y = false := sam_no (Or.inl (by omega))
            have hstp : stp (R9 0) (R9 b) x y = if x < (R9 0).length ∧ rs (R9 0) (R9 b) (x + 1) y < rs (R9 0) (R9 b) x y then 0 else 1 := by unfold stp; rw [hsam]; rfl
            refine n_aload_n C dX6_keep_81 0 rfl rfl ?_
            refine n_iconst C dX6_keep_82 ?_
            refine n_iload_n C dX6_keep_83 3 rfl rfl ?_
            refine n_iload C dX6_keep_84 4 rfl ?_
            refine n_callV (rest := []) C dX6_keep_86 (TX6_deletes l hN k53 m1 (a := 0) (b := b) (by omega) hb k62 hok hx hy) (cwV 3 C.2.2.2.2.1 gX6_keep_X6_deletes rfl rfl rfl cdX6_deletes ⟨Nat.le_of_ble_eq_true rfl, Nat.le_of_ble_eq_true rfl⟩) (by omega) k53 rfl rfl rfl (Nat.le_of_ble_eq_true rfl) ⟨Nat.le_of_ble_eq_true rfl, Nat.le_of_ble_eq_true rfl⟩ ?_
            rintro _ _ ⟨rfl, rfl⟩
            refine n_pc (pc2 := 89) rfl (n_st (st2 := [.int (bI (decide (x < (R9 0).length ∧ rs (R9 0) (R9 b) (x + 1) y < rs (R9 0) (R9 b) x y)))]) rfl ?_)
            refine n_if_eqB C dX6_keep_89 (by decide) (tgt := 102) (fun c8 => ?_) (fun c8 => ?_)
            · have hs : stp (R9 0) (R9 b) x y = 1 := by rw [hstp, if_neg (of_decide_eq_false c8)]
              have hy2 := stp_ins hx hy hxy hs
              rw [kp_1 hx hy hxy hs] at hpre
              refine n_iinc (lv' := [(0, .ref (ad 53)), (1, .int (iI (b : Int))), (2, .ref (ad wc)), (3, .int (iI (x : Int))), (4, .int (iI ((y : Int) + 1)))]) C dX6_keep_102 4 rfl (by decide) rfl ?_
              refine n_goto (tgt := 11) C dX6_keep_105 (by decide) ?_
              refine n_lv (lv2 := [(0, .ref (ad 53)), (1, .int (iI (b : Int))), (2, .ref (ad wc)), (3, .int (iI ((x : Nat) : Int))), (4, .int (iI ((y + 1 : Nat) : Int)))]) (by simp) ?_
              exact ih (x) (y + 1) pre fw ex (by omega) (by omega) (by omega) hpre hpl kw hfw hFx
            · have hs : stp (R9 0) (R9 b) x y = 0 := by rw [hstp, if_pos (of_decide_eq_true c8)]
              have hx2 := stp_del hs
              rw [kp_0 hx hy hxy hs] at hpre
              refine n_aload_n C dX6_keep_92 2 rfl rfl ?_
              refine n_iload_n C dX6_keep_93 3 rfl rfl ?_
              refine n_iconst C dX6_keep_94 ?_
              refine n_iast (j := x) C dX6_keep_95 (by omega) kw (by omega) (by omega) (by omega) (fun e17 hs18 ho19 => ?_)
              have qh20 := (ho19 53 (by omega)).trans k53
              refine n_iinc (lv' := [(0, .ref (ad 53)), (1, .int (iI (b : Int))), (2, .ref (ad wc)), (3, .int (iI ((x : Int) + 1))), (4, .int (iI (y : Int)))]) C dX6_keep_96 3 rfl (by decide) rfl ?_
              refine n_goto (tgt := 11) C dX6_keep_99 (by decide) ?_
              refine n_lv (lv2 := [(0, .ref (ad 53)), (1, .int (iI (b : Int))), (2, .ref (ad wc)), (3, .int (iI ((x + 1 : Nat) : Int))), (4, .int (iI ((y : Nat) : Int)))]) (by simp) ?_
              exact ih (x + 1) (y) (pre ++ [-1]) _ e17 (by omega) (by omega) (by omega) (by rw [← hpre, List.append_assoc]; rfl) (by rw [List.length_append, List.length_singleton]; omega) hs18 (fun k t hkt => by
                by_cases e : k = x
                · subst e
                  rw [← hpl, List.getElem?_append_right (Nat.le_refl _), Nat.sub_self] at hkt
                  have h9 : (-1 : Int) = t := by simpa using hkt
                  rw [← h9]
                  simp [upd]
                · have hk9 : k < pre.length := by
                    have := (List.getElem?_eq_some_iff.mp hkt).1
                    rw [List.length_append, List.length_singleton] at this
                    omega
                  rw [List.getElem?_append_left hk9] at hkt
                  simp only [upd, if_neg e]
                  exact hfw k t hkt) (fun j9 hj9 => (ho19 j9 hj9).trans (hFx j9 hj9))
          · refine n_iload C dX6_keep_42 4 rfl ?_
            refine n_aload_n C dX6_keep_44 0 rfl rfl ?_
            refine n_get (k9 := 2) C dX6_keep_45 (by omega) k53 hX6_keep_X6 rfl (by decide) kX6_keep_7 rfl ?_
            refine n_iload_n C dX6_keep_48 1 rfl rfl ?_
            refine n_iald (j := b) C dX6_keep_49 (by omega) m1.1 (by omega) (by omega) (by omega) ?_
            refine n_topI (y := (iI ((R9 b).length : Int))) (zb) ?_
            refine n_icmp_ge C dX6_keep_50 (by decide) (by omega) (by omega) (by omega) (by omega) (tgt := 81) (fun c6 => ?_) (fun c6 => ?_)
            · have hsam : sam (R9 0) (R9 b) x y = false := sam_no (Or.inr (by omega))
              have hstp : stp (R9 0) (R9 b) x y = if x < (R9 0).length ∧ rs (R9 0) (R9 b) (x + 1) y < rs (R9 0) (R9 b) x y then 0 else 1 := by unfold stp; rw [hsam]; rfl
              refine n_aload_n C dX6_keep_81 0 rfl rfl ?_
              refine n_iconst C dX6_keep_82 ?_
              refine n_iload_n C dX6_keep_83 3 rfl rfl ?_
              refine n_iload C dX6_keep_84 4 rfl ?_
              refine n_callV (rest := []) C dX6_keep_86 (TX6_deletes l hN k53 m1 (a := 0) (b := b) (by omega) hb k62 hok hx hy) (cwV 3 C.2.2.2.2.1 gX6_keep_X6_deletes rfl rfl rfl cdX6_deletes ⟨Nat.le_of_ble_eq_true rfl, Nat.le_of_ble_eq_true rfl⟩) (by omega) k53 rfl rfl rfl (Nat.le_of_ble_eq_true rfl) ⟨Nat.le_of_ble_eq_true rfl, Nat.le_of_ble_eq_true rfl⟩ ?_
              rintro _ _ ⟨rfl, rfl⟩
              refine n_pc (pc2 := 89) rfl (n_st (st2 := [.int (bI (decide (x < (R9 0).length ∧ rs (R9 0) (R9 b) (x + 1) y < rs (R9 0) (R9 b) x y)))]) rfl ?_)
              refine n_if_eqB C dX6_keep_89 (by decide) (tgt := 102) (fun c8 => ?_) (fun c8 => ?_)
              · have hs : stp (R9 0) (R9 b) x y = 1 := by rw [hstp, if_neg (of_decide_eq_false c8)]
                have hy2 := stp_ins hx hy hxy hs
                rw [kp_1 hx hy hxy hs] at hpre
                refine n_iinc (lv' := [(0, .ref (ad 53)), (1, .int (iI (b : Int))), (2, .ref (ad wc)), (3, .int (iI (x : Int))), (4, .int (iI ((y : Int) + 1)))]) C dX6_keep_102 4 rfl (by decide) rfl ?_
                refine n_goto (tgt := 11) C dX6_keep_105 (by decide) ?_
                refine n_lv (lv2 := [(0, .ref (ad 53)), (1, .int (iI (b : Int))), (2, .ref (ad wc)), (3, .int (iI ((x : Nat) : Int))), (4, .int (iI ((y + 1 : Nat) : Int)))]) (by simp) ?_
                exact ih (x) (y + 1) pre fw ex (by omega) (by omega) (by omega) hpre hpl kw hfw hFx
              · have hs : stp (R9 0) (R9 b) x y = 0 := by rw [hstp, if_pos (of_decide_eq_true c8)]
                have hx2 := stp_del hs
                rw [kp_0 hx hy hxy hs] at hpre
                refine n_aload_n C dX6_keep_92 2 rfl rfl ?_
                refine n_iload_n C dX6_keep_93 3 rfl rfl ?_
                refine n_iconst C dX6_keep_94 ?_
                refine n_iast (j := x) C dX6_keep_95 (by omega) kw (by omega) (by omega) (by omega) (fun e21 hs22 ho23 => ?_)
                have qh24 := (ho23 53 (by omega)).trans k53
                refine n_iinc (lv' := [(0, .ref (ad 53)), (1, .int (iI (b : Int))), (2, .ref (ad wc)), (3, .int (iI ((x : Int) + 1))), (4, .int (iI (y : Int)))]) C dX6_keep_96 3 rfl (by decide) rfl ?_
                refine n_goto (tgt := 11) C dX6_keep_99 (by decide) ?_
                refine n_lv (lv2 := [(0, .ref (ad 53)), (1, .int (iI (b : Int))), (2, .ref (ad wc)), (3, .int (iI ((x + 1 : Nat) : Int))), (4, .int (iI ((y : Nat) : Int)))]) (by simp) ?_
                exact ih (x + 1) (y) (pre ++ [-1]) _ e21 (by omega) (by omega) (by omega) (by rw [← hpre, List.append_assoc]; rfl) (by rw [List.length_append, List.length_singleton]; omega) hs22 (fun k t hkt => by
                  by_cases e : k = x
                  · subst e
                    rw [← hpl, List.getElem?_append_right (Nat.le_refl _), Nat.sub_self] at hkt
                    have h9 : (-1 : Int) = t := by simpa using hkt
                    rw [← h9]
                    simp [upd]
                  · have hk9 : k < pre.length := by
                      have := (List.getElem?_eq_some_iff.mp hkt).1
                      rw [List.length_append, List.length_singleton] at this
                      omega
                    rw [List.getElem?_append_left hk9] at hkt
                    simp only [upd, if_neg e]
                    exact hfw k t hkt) (fun j9 hj9 => (ho23 j9 hj9).trans (hFx j9 hj9))
            · refine n_aload_n C dX6_keep_53 0 rfl rfl ?_
              refine n_iconst C dX6_keep_54 ?_
              refine n_iload_n C dX6_keep_55 3 rfl rfl ?_
              refine n_iload_n C dX6_keep_56 1 rfl rfl ?_
              refine n_iload C dX6_keep_57 4 rfl ?_
              refine n_callV (rest := []) C dX6_keep_59 (TX6_same l hN k53 m1 (a := 0) (b := b) (by omega) hb (by omega) (by omega)) (cwV 4 C.2.2.2.2.1 gX6_keep_X6_same rfl rfl rfl cdX6_same ⟨Nat.le_of_ble_eq_true rfl, Nat.le_of_ble_eq_true rfl⟩) (by omega) k53 rfl rfl rfl (Nat.le_of_ble_eq_true rfl) ⟨Nat.le_of_ble_eq_true rfl, Nat.le_of_ble_eq_true rfl⟩ ?_
              rintro _ _ ⟨rfl, rfl⟩
              refine n_pc (pc2 := 62) rfl (n_st (st2 := [.int (bI (sam (R9 0) (R9 b) x y))]) rfl ?_)
              refine n_if_eqB C dX6_keep_62 (by decide) (tgt := 81) (fun c7 => ?_) (fun c7 => ?_)
              · have hsam : sam (R9 0) (R9 b) x y = false := c7
                have hstp : stp (R9 0) (R9 b) x y = if x < (R9 0).length ∧ rs (R9 0) (R9 b) (x + 1) y < rs (R9 0) (R9 b) x y then 0 else 1 := by unfold stp; rw [hsam]; rfl
                refine n_aload_n C dX6_keep_81 0 rfl rfl ?_
                refine n_iconst C dX6_keep_82 ?_
                refine n_iload_n C dX6_keep_83 3 rfl rfl ?_
                refine n_iload C dX6_keep_84 4 rfl ?_
                refine n_callV (rest := []) C dX6_keep_86 (TX6_deletes l hN k53 m1 (a := 0) (b := b) (by omega) hb k62 hok hx hy) (cwV 3 C.2.2.2.2.1 gX6_keep_X6_deletes rfl rfl rfl cdX6_deletes ⟨Nat.le_of_ble_eq_true rfl, Nat.le_of_ble_eq_true rfl⟩) (by omega) k53 rfl rfl rfl (Nat.le_of_ble_eq_true rfl) ⟨Nat.le_of_ble_eq_true rfl, Nat.le_of_ble_eq_true rfl⟩ ?_
                rintro _ _ ⟨rfl, rfl⟩
                refine n_pc (pc2 := 89) rfl (n_st (st2 := [.int (bI (decide (x < (R9 0).length ∧ rs (R9 0) (R9 b) (x + 1) y < rs (R9 0) (R9 b) x y)))]) rfl ?_)
                refine n_if_eqB C dX6_keep_89 (by decide) (tgt := 102) (fun c8 => ?_) (fun c8 => ?_)
                · have hs : stp (R9 0) (R9 b) x y = 1 := by rw [hstp, if_neg (of_decide_eq_false c8)]
                  have hy2 := stp_ins hx hy hxy hs
                  rw [kp_1 hx hy hxy hs] at hpre
                  refine n_iinc (lv' := [(0, .ref (ad 53)), (1, .int (iI (b : Int))), (2, .ref (ad wc)), (3, .int (iI (x : Int))), (4, .int (iI ((y : Int) + 1)))]) C dX6_keep_102 4 rfl (by decide) rfl ?_
                  refine n_goto (tgt := 11) C dX6_keep_105 (by decide) ?_
                  refine n_lv (lv2 := [(0, .ref (ad 53)), (1, .int (iI (b : Int))), (2, .ref (ad wc)), (3, .int (iI ((x : Nat) : Int))), (4, .int (iI ((y + 1 : Nat) : Int)))]) (by simp) ?_
                  exact ih (x) (y + 1) pre fw ex (by omega) (by omega) (by omega) hpre hpl kw hfw hFx
                · have hs : stp (R9 0) (R9 b) x y = 0 := by rw [hstp, if_pos (of_decide_eq_true c8)]
                  have hx2 := stp_del hs
                  rw [kp_0 hx hy hxy hs] at hpre
                  refine n_aload_n C dX6_keep_92 2 rfl rfl ?_
                  refine n_iload_n C dX6_keep_93 3 rfl rfl ?_
                  refine n_iconst C dX6_keep_94 ?_
                  refine n_iast (j := x) C dX6_keep_95 (by omega) kw (by omega) (by omega) (by omega) (fun e25 hs26 ho27 => ?_)
                  have qh28 := (ho27 53 (by omega)).trans k53
                  refine n_iinc (lv' := [(0, .ref (ad 53)), (1, .int (iI (b : Int))), (2, .ref (ad wc)), (3, .int (iI ((x : Int) + 1))), (4, .int (iI (y : Int)))]) C dX6_keep_96 3 rfl (by decide) rfl ?_
                  refine n_goto (tgt := 11) C dX6_keep_99 (by decide) ?_
                  refine n_lv (lv2 := [(0, .ref (ad 53)), (1, .int (iI (b : Int))), (2, .ref (ad wc)), (3, .int (iI ((x + 1 : Nat) : Int))), (4, .int (iI ((y : Nat) : Int)))]) (by simp) ?_
                  exact ih (x + 1) (y) (pre ++ [-1]) _ e25 (by omega) (by omega) (by omega) (by rw [← hpre, List.append_assoc]; rfl) (by rw [List.length_append, List.length_singleton]; omega) hs26 (fun k t hkt => by
                    by_cases e : k = x
                    · subst e
                      rw [← hpl, List.getElem?_append_right (Nat.le_refl _), Nat.sub_self] at hkt
                      have h9 : (-1 : Int) = t := by simpa using hkt
                      rw [← h9]
                      simp [upd]
                    · have hk9 : k < pre.length := by
                        have := (List.getElem?_eq_some_iff.mp hkt).1
                        rw [List.length_append, List.length_singleton] at this
                        omega
                      rw [List.getElem?_append_left hk9] at hkt
                      simp only [upd, if_neg e]
                      exact hfw k t hkt) (fun j9 hj9 => (ho27 j9 hj9).trans (hFx j9 hj9))
              · have hs : stp (R9 0) (R9 b) x y = 2 := by unfold stp; rw [c7]; rfl
                rw [kp_2 hx hy hxy hs] at hpre
                refine n_aload_n C dX6_keep_65 2 rfl rfl ?_
                refine n_iload_n C dX6_keep_66 3 rfl rfl ?_
                refine n_iload C dX6_keep_67 4 rfl ?_
                refine n_iconst C dX6_keep_69 ?_
                refine n_iadd C dX6_keep_70 ?_
                refine n_iast (j := x) C dX6_keep_71 (by omega) kw (by omega) (by omega) (by omega) (fun e29 hs30 ho31 => ?_)
                have qh32 := (ho31 53 (by omega)).trans k53
                refine n_iinc (lv' := [(0, .ref (ad 53)), (1, .int (iI (b : Int))), (2, .ref (ad wc)), (3, .int (iI ((x : Int) + 1))), (4, .int (iI (y : Int)))]) C dX6_keep_72 3 rfl (by decide) rfl ?_
                refine n_iinc (lv' := [(0, .ref (ad 53)), (1, .int (iI (b : Int))), (2, .ref (ad wc)), (3, .int (iI ((x : Int) + 1))), (4, .int (iI ((y : Int) + 1)))]) C dX6_keep_75 4 rfl (by decide) rfl ?_
                refine n_goto (tgt := 11) C dX6_keep_78 (by decide) ?_
                refine n_lv (lv2 := [(0, .ref (ad 53)), (1, .int (iI (b : Int))), (2, .ref (ad wc)), (3, .int (iI ((x + 1 : Nat) : Int))), (4, .int (iI ((y + 1 : Nat) : Int)))]) (by simp) ?_
                exact ih (x + 1) (y + 1) (pre ++ [(y : Int)]) _ e29 (by omega) (by omega) (by omega) (by rw [← hpre, List.append_assoc]; rfl) (by rw [List.length_append, List.length_singleton]; omega) hs30 (fun k t hkt => by
                  by_cases e : k = x
                  · subst e
                    rw [← hpl, List.getElem?_append_right (Nat.le_refl _), Nat.sub_self] at hkt
                    have h9 : (y : Int) = t := by simpa using hkt
                    rw [← h9]
                    simp [upd]
                  · have hk9 : k < pre.length := by
                      have := (List.getElem?_eq_some_iff.mp hkt).1
                      rw [List.length_append, List.length_singleton] at this
                      omega
                    rw [List.getElem?_append_left hk9] at hkt
                    simp only [upd, if_neg e]
                    exact hfw k t hkt) (fun j9 hj9 => (ho31 j9 hj9).trans (hFx j9 hj9))
  exact loop _ 0 0 [] fw e1 (Nat.lt_succ_self _) (Nat.zero_le _) (Nat.zero_le _) rfl rfl kw (fun k t h => by simp at h) Fr.rf

set_option maxHeartbeats 4000000 in
set_option maxRecDepth 100000 in
theorem TX6_alikeParts (l : Launch) {G : GG} {N : Nat} {ad : Nat → Nat} {ev : Nat → va_E} {lim thr : Int} {no : Nat} {cmp : Bool} {nl lsz nr : Nat} {R9 : Nat → List Int32} {fz fy : Nat → Int32} {a b i j n9 m9 : Nat} (hN : 66 ≤ N) (k53 : ev 53 = mO ad lim thr no cmp nl lsz nr) (m1 : MRows G ev R9 fz fy) (ha : a < 3) (hb : b < 3) (hi : i + n9 ≤ (R9 a).length) (hj : j + m9 ≤ (R9 b).length) : Ct l yX6_alikeParts wsX6_alikeParts rmX6_alikeParts [.ref (ad 53), .int (iI (a : Int)), .int (iI (i : Int)), .int (iI (n9 : Int)), .int (iI (b : Int)), .int (iI (j : Int)), .int (iI (m9 : Int))] G N ad ev 0 0 (fun v e2 => v = some (.int (bI (decide (sl (R9 a) i (i + n9) = sl (R9 b) j (j + m9))))) ∧ ev = e2) := by
  obtain ⟨za, la, ya⟩ := m1.at (j := a) ha
  obtain ⟨zb, lb, yb⟩ := m1.at (j := b) hb
  refine Ct_of (cc := cX6_alikeParts) (maxL := 9) (ret := some .boolean) (lv := [(0, .ref (ad 53)), (1, .int (iI (a : Int))), (2, .int (iI (i : Int))), (3, .int (iI (n9 : Int))), (4, .int (iI (b : Int))), (5, .int (iI (j : Int))), (6, .int (iI (m9 : Int)))]) (by decide) rfl (Nat.le_of_ble_eq_true rfl) rfl ?_
  intro p E s m args below meth c A C hr hnm
  refine n_iload_n C dX6_alikeParts_0 3 rfl rfl ?_
  refine n_iload C dX6_alikeParts_1 6 rfl ?_
  refine n_icmp_ne C dX6_alikeParts_3 (by decide) (by omega) (by omega) (by omega) (by omega) (tgt := 10) (fun c1 => ?_) (fun c1 => ?_)
  · refine n_iconst C dX6_alikeParts_10 ?_
    refine n_istore (lv' := [(0, .ref (ad 53)), (1, .int (iI (a : Int))), (2, .int (iI (i : Int))), (3, .int (iI (n9 : Int))), (4, .int (iI (b : Int))), (5, .int (iI (j : Int))), (6, .int (iI (m9 : Int))), (7, .int (iI 0))]) C dX6_alikeParts_11 (by decide) rfl ?_
    refine n_iconst C dX6_alikeParts_13 ?_
    refine n_istore (lv' := [(0, .ref (ad 53)), (1, .int (iI (a : Int))), (2, .int (iI (i : Int))), (3, .int (iI (n9 : Int))), (4, .int (iI (b : Int))), (5, .int (iI (j : Int))), (6, .int (iI (m9 : Int))), (7, .int (iI 0)), (8, .int (iI 0))]) C dX6_alikeParts_14 (by decide) rfl ?_
    have loop : ∀ (f9 : Nat) (k : Nat) (bb : Bool), n9 + 1 - k < f9 → (k ≤ n9) → (bb = true ↔ (n9 = m9 ∧ ∀ q, q < k → (R9 a)[i + q]? = (R9 b)[j + q]?)) → V p l E rmX6_alikeParts s m args below meth c G A 9 (MQ below (Qg G N ad A (fun v e2 => v = some (.int (bI (decide (sl (R9 a) i (i + n9) = sl (R9 b) j (j + m9))))) ∧ ev = e2)) args s 0 0 A) N ad ev 0 0 16 [(0, .ref (ad 53)), (1, .int (iI (a : Int))), (2, .int (iI (i : Int))), (3, .int (iI (n9 : Int))), (4, .int (iI (b : Int))), (5, .int (iI (j : Int))), (6, .int (iI (m9 : Int))), (7, .int (bI bb)), (8, .int (iI (k : Int)))] [] := by
      intro f9
      induction f9 with
      | zero =>
        intro k bb hm9
        exact absurd hm9 (Nat.not_lt_zero _)
      | succ f9 ih =>
        intro k bb hm9 hk hbb
        refine n_iload C dX6_alikeParts_16 8 rfl ?_
        refine n_iload_n C dX6_alikeParts_18 3 rfl rfl ?_
        refine n_icmp_ge C dX6_alikeParts_19 (by decide) (by omega) (by omega) (by omega) (by omega) (tgt := 51) (fun c2 => ?_) (fun c2 => ?_)
        · refine n_iload C dX6_alikeParts_51 7 rfl ?_
          cases hbf : bb
          · skip
            exact n_zret C hr dX6_alikeParts_53 (nar_b _) (⟨by
              have hnt : ¬ (sl (R9 a) i (i + n9) = sl (R9 b) j (j + m9)) := fun he => by
                have h1 : n9 = m9 := by
                  have := congrArg List.length he
                  rw [sl_len hi, sl_len hj] at this
                  omega
                have h2 : bb = true := hbb.mpr ⟨h1, fun q hq => by
                  have h3 : (sl (R9 a) i (i + n9))[q]? = (sl (R9 b) j (j + m9))[q]? := by rw [he]
                  rwa [sl_get (by omega) hi, sl_get (by omega) hj] at h3⟩
                cases hbf.symm.trans h2
              rw [decide_eq_false hnt], rfl⟩)
          · exact n_zret C hr dX6_alikeParts_53 (nar_b _) (⟨by
              have h1 := hbb.mp hbf
              rw [decide_eq_true (sl_eq (by omega) hi (by omega) hj (by omega) (fun q hq => h1.2 q (by omega)))], rfl⟩)
        · refine n_iload C dX6_alikeParts_22 7 rfl ?_
          refine n_if_eqB C dX6_alikeParts_24 (by decide) (tgt := 51) (fun hbf => ?_) (fun hbf => ?_)
          · refine n_iload C dX6_alikeParts_51 7 rfl ?_
            exact n_zret C hr dX6_alikeParts_53 (nar_b _) (⟨by
              have hnt : ¬ (sl (R9 a) i (i + n9) = sl (R9 b) j (j + m9)) := fun he => by
                have h1 : n9 = m9 := by
                  have := congrArg List.length he
                  rw [sl_len hi, sl_len hj] at this
                  omega
                have h2 : bb = true := hbb.mpr ⟨h1, fun q hq => by
                  have h3 : (sl (R9 a) i (i + n9))[q]? = (sl (R9 b) j (j + m9))[q]? := by rw [he]
                  rwa [sl_get (by omega) hi, sl_get (by omega) hj] at h3⟩
                rw [hbf] at h2
                cases h2
              rw [hbf, decide_eq_false hnt], rfl⟩)
          · have h1 := hbb.mp hbf
            refine n_aload_n C dX6_alikeParts_27 0 rfl rfl ?_
            refine n_iload_n C dX6_alikeParts_28 1 rfl rfl ?_
            refine n_iload_n C dX6_alikeParts_29 2 rfl rfl ?_
            refine n_iload C dX6_alikeParts_30 8 rfl ?_
            refine n_iadd C dX6_alikeParts_32 ?_
            refine n_iload C dX6_alikeParts_33 4 rfl ?_
            refine n_iload C dX6_alikeParts_35 5 rfl ?_
            refine n_iload C dX6_alikeParts_37 8 rfl ?_
            refine n_iadd C dX6_alikeParts_39 ?_
            refine n_st (st2 := [.int (iI ((j + k : Nat) : Int)), .int (iI (b : Int)), .int (iI ((i + k : Nat) : Int)), .int (iI (a : Int)), .ref (ad 53)]) (by simp) ?_
            refine n_callV (rest := []) C dX6_alikeParts_40 (TX6_same l hN k53 m1 (a := a) (b := b) (i := i + k) (j := j + k) ha hb (by omega) (by omega)) (cwV 4 C.2.2.2.2.1 gX6_alikeParts_X6_same rfl rfl rfl cdX6_same ⟨Nat.le_of_ble_eq_true rfl, Nat.le_of_ble_eq_true rfl⟩) (by omega) k53 rfl rfl rfl (Nat.le_of_ble_eq_true rfl) ⟨Nat.le_of_ble_eq_true rfl, Nat.le_of_ble_eq_true rfl⟩ ?_
            rintro _ _ ⟨rfl, rfl⟩
            refine n_pc (pc2 := 43) rfl (n_st (st2 := [.int (bI (sam (R9 a) (R9 b) (i + k) (j + k)))]) rfl ?_)
            refine n_istore (lv' := [(0, .ref (ad 53)), (1, .int (iI (a : Int))), (2, .int (iI (i : Int))), (3, .int (iI (n9 : Int))), (4, .int (iI (b : Int))), (5, .int (iI (j : Int))), (6, .int (iI (m9 : Int))), (7, .int (bI (sam (R9 a) (R9 b) (i + k) (j + k)))), (8, .int (iI (k : Int)))]) C dX6_alikeParts_43 (by decide) rfl ?_
            refine n_iinc (lv' := [(0, .ref (ad 53)), (1, .int (iI (a : Int))), (2, .int (iI (i : Int))), (3, .int (iI (n9 : Int))), (4, .int (iI (b : Int))), (5, .int (iI (j : Int))), (6, .int (iI (m9 : Int))), (7, .int (bI (sam (R9 a) (R9 b) (i + k) (j + k)))), (8, .int (iI ((k : Int) + 1)))]) C dX6_alikeParts_45 8 rfl (by decide) rfl ?_
            refine n_goto (tgt := 16) C dX6_alikeParts_48 (by decide) ?_
            refine n_lv (lv2 := [(0, .ref (ad 53)), (1, .int (iI (a : Int))), (2, .int (iI (i : Int))), (3, .int (iI (n9 : Int))), (4, .int (iI (b : Int))), (5, .int (iI (j : Int))), (6, .int (iI (m9 : Int))), (7, .int (bI (sam (R9 a) (R9 b) (i + k) (j + k)))), (8, .int (iI ((k + 1 : Nat) : Int)))]) (by simp) ?_
            exact ih (k + 1) _ (by omega) (by omega) ⟨fun h => ⟨h1.1, fun q hq => by
              rcases Nat.lt_or_ge q k with z | z
              · exact h1.2 q z
              · rw [show q = k by omega]; exact (of_decide_eq_true h).2.2⟩, fun h => decide_eq_true ⟨by omega, by omega, h.2 k (by omega)⟩⟩
    refine n_lv (lv2 := [(0, .ref (ad 53)), (1, .int (iI (a : Int))), (2, .int (iI (i : Int))), (3, .int (iI (n9 : Int))), (4, .int (iI (b : Int))), (5, .int (iI (j : Int))), (6, .int (iI (m9 : Int))), (7, .int (bI false)), (8, .int (iI ((0 : Nat) : Int)))]) rfl ?_
    exact loop _ 0 false (Nat.lt_succ_self _) (Nat.zero_le _) ⟨fun h => (by cases h), fun h => absurd h.1 (by omega)⟩
  · refine n_iconst C dX6_alikeParts_6 ?_
    refine n_goto (tgt := 11) C dX6_alikeParts_7 (by decide) ?_
    refine n_istore (lv' := [(0, .ref (ad 53)), (1, .int (iI (a : Int))), (2, .int (iI (i : Int))), (3, .int (iI (n9 : Int))), (4, .int (iI (b : Int))), (5, .int (iI (j : Int))), (6, .int (iI (m9 : Int))), (7, .int (iI 1))]) C dX6_alikeParts_11 (by decide) rfl ?_
    refine n_iconst C dX6_alikeParts_13 ?_
    refine n_istore (lv' := [(0, .ref (ad 53)), (1, .int (iI (a : Int))), (2, .int (iI (i : Int))), (3, .int (iI (n9 : Int))), (4, .int (iI (b : Int))), (5, .int (iI (j : Int))), (6, .int (iI (m9 : Int))), (7, .int (iI 1)), (8, .int (iI 0))]) C dX6_alikeParts_14 (by decide) rfl ?_
    have loop : ∀ (f9 : Nat) (k : Nat) (bb : Bool), n9 + 1 - k < f9 → (k ≤ n9) → (bb = true ↔ (n9 = m9 ∧ ∀ q, q < k → (R9 a)[i + q]? = (R9 b)[j + q]?)) → V p l E rmX6_alikeParts s m args below meth c G A 9 (MQ below (Qg G N ad A (fun v e2 => v = some (.int (bI (decide (sl (R9 a) i (i + n9) = sl (R9 b) j (j + m9))))) ∧ ev = e2)) args s 0 0 A) N ad ev 0 0 16 [(0, .ref (ad 53)), (1, .int (iI (a : Int))), (2, .int (iI (i : Int))), (3, .int (iI (n9 : Int))), (4, .int (iI (b : Int))), (5, .int (iI (j : Int))), (6, .int (iI (m9 : Int))), (7, .int (bI bb)), (8, .int (iI (k : Int)))] [] := by
      intro f9
      induction f9 with
      | zero =>
        intro k bb hm9
        exact absurd hm9 (Nat.not_lt_zero _)
      | succ f9 ih =>
        intro k bb hm9 hk hbb
        refine n_iload C dX6_alikeParts_16 8 rfl ?_
        refine n_iload_n C dX6_alikeParts_18 3 rfl rfl ?_
        refine n_icmp_ge C dX6_alikeParts_19 (by decide) (by omega) (by omega) (by omega) (by omega) (tgt := 51) (fun c2 => ?_) (fun c2 => ?_)
        · refine n_iload C dX6_alikeParts_51 7 rfl ?_
          cases hbf : bb
          · skip
            exact n_zret C hr dX6_alikeParts_53 (nar_b _) (⟨by
              have hnt : ¬ (sl (R9 a) i (i + n9) = sl (R9 b) j (j + m9)) := fun he => by
                have h1 : n9 = m9 := by
                  have := congrArg List.length he
                  rw [sl_len hi, sl_len hj] at this
                  omega
                have h2 : bb = true := hbb.mpr ⟨h1, fun q hq => by
                  have h3 : (sl (R9 a) i (i + n9))[q]? = (sl (R9 b) j (j + m9))[q]? := by rw [he]
                  rwa [sl_get (by omega) hi, sl_get (by omega) hj] at h3⟩
                cases hbf.symm.trans h2
              rw [decide_eq_false hnt], rfl⟩)
          · exact n_zret C hr dX6_alikeParts_53 (nar_b _) (⟨by
              have h1 := hbb.mp hbf
              rw [decide_eq_true (sl_eq (by omega) hi (by omega) hj (by omega) (fun q hq => h1.2 q (by omega)))], rfl⟩)
        · refine n_iload C dX6_alikeParts_22 7 rfl ?_
          refine n_if_eqB C dX6_alikeParts_24 (by decide) (tgt := 51) (fun hbf => ?_) (fun hbf => ?_)
          · refine n_iload C dX6_alikeParts_51 7 rfl ?_
            exact n_zret C hr dX6_alikeParts_53 (nar_b _) (⟨by
              have hnt : ¬ (sl (R9 a) i (i + n9) = sl (R9 b) j (j + m9)) := fun he => by
                have h1 : n9 = m9 := by
                  have := congrArg List.length he
                  rw [sl_len hi, sl_len hj] at this
                  omega
                have h2 : bb = true := hbb.mpr ⟨h1, fun q hq => by
                  have h3 : (sl (R9 a) i (i + n9))[q]? = (sl (R9 b) j (j + m9))[q]? := by rw [he]
                  rwa [sl_get (by omega) hi, sl_get (by omega) hj] at h3⟩
                rw [hbf] at h2
                cases h2
              rw [hbf, decide_eq_false hnt], rfl⟩)
          · have h1 := hbb.mp hbf
            refine n_aload_n C dX6_alikeParts_27 0 rfl rfl ?_
            refine n_iload_n C dX6_alikeParts_28 1 rfl rfl ?_
            refine n_iload_n C dX6_alikeParts_29 2 rfl rfl ?_
            refine n_iload C dX6_alikeParts_30 8 rfl ?_
            refine n_iadd C dX6_alikeParts_32 ?_
            refine n_iload C dX6_alikeParts_33 4 rfl ?_
            refine n_iload C dX6_alikeParts_35 5 rfl ?_
            refine n_iload C dX6_alikeParts_37 8 rfl ?_
            refine n_iadd C dX6_alikeParts_39 ?_
            refine n_st (st2 := [.int (iI ((j + k : Nat) : Int)), .int (iI (b : Int)), .int (iI ((i + k : Nat) : Int)), .int (iI (a : Int)), .ref (ad 53)]) (by simp) ?_
            refine n_callV (rest := []) C dX6_alikeParts_40 (TX6_same l hN k53 m1 (a := a) (b := b) (i := i + k) (j := j + k) ha hb (by omega) (by omega)) (cwV 4 C.2.2.2.2.1 gX6_alikeParts_X6_same rfl rfl rfl cdX6_same ⟨Nat.le_of_ble_eq_true rfl, Nat.le_of_ble_eq_true rfl⟩) (by omega) k53 rfl rfl rfl (Nat.le_of_ble_eq_true rfl) ⟨Nat.le_of_ble_eq_true rfl, Nat.le_of_ble_eq_true rfl⟩ ?_
            rintro _ _ ⟨rfl, rfl⟩
            refine n_pc (pc2 := 43) rfl (n_st (st2 := [.int (bI (sam (R9 a) (R9 b) (i + k) (j + k)))]) rfl ?_)
            refine n_istore (lv' := [(0, .ref (ad 53)), (1, .int (iI (a : Int))), (2, .int (iI (i : Int))), (3, .int (iI (n9 : Int))), (4, .int (iI (b : Int))), (5, .int (iI (j : Int))), (6, .int (iI (m9 : Int))), (7, .int (bI (sam (R9 a) (R9 b) (i + k) (j + k)))), (8, .int (iI (k : Int)))]) C dX6_alikeParts_43 (by decide) rfl ?_
            refine n_iinc (lv' := [(0, .ref (ad 53)), (1, .int (iI (a : Int))), (2, .int (iI (i : Int))), (3, .int (iI (n9 : Int))), (4, .int (iI (b : Int))), (5, .int (iI (j : Int))), (6, .int (iI (m9 : Int))), (7, .int (bI (sam (R9 a) (R9 b) (i + k) (j + k)))), (8, .int (iI ((k : Int) + 1)))]) C dX6_alikeParts_45 8 rfl (by decide) rfl ?_
            refine n_goto (tgt := 16) C dX6_alikeParts_48 (by decide) ?_
            refine n_lv (lv2 := [(0, .ref (ad 53)), (1, .int (iI (a : Int))), (2, .int (iI (i : Int))), (3, .int (iI (n9 : Int))), (4, .int (iI (b : Int))), (5, .int (iI (j : Int))), (6, .int (iI (m9 : Int))), (7, .int (bI (sam (R9 a) (R9 b) (i + k) (j + k)))), (8, .int (iI ((k + 1 : Nat) : Int)))]) (by simp) ?_
            exact ih (k + 1) _ (by omega) (by omega) ⟨fun h => ⟨h1.1, fun q hq => by
              rcases Nat.lt_or_ge q k with z | z
              · exact h1.2 q z
              · rw [show q = k by omega]; exact (of_decide_eq_true h).2.2⟩, fun h => decide_eq_true ⟨by omega, by omega, h.2 k (by omega)⟩⟩
    refine n_lv (lv2 := [(0, .ref (ad 53)), (1, .int (iI (a : Int))), (2, .int (iI (i : Int))), (3, .int (iI (n9 : Int))), (4, .int (iI (b : Int))), (5, .int (iI (j : Int))), (6, .int (iI (m9 : Int))), (7, .int (bI true)), (8, .int (iI ((0 : Nat) : Int)))]) rfl ?_
    exact loop _ 0 true (Nat.lt_succ_self _) (Nat.zero_le _) ⟨fun _ => ⟨by omega, fun q hq => absurd hq (Nat.not_lt_zero q)⟩, fun _ => rfl⟩

set_option maxHeartbeats 4000000 in
set_option maxRecDepth 100000 in
theorem TX6_copy (l : Launch) {G : GG} {N : Nat} {ad : Nat → Nat} {ev : Nat → va_E} {lim thr : Int} {no : Nat} {cmp : Bool} {nl lsz : Nat} {R9 : Nat → List Int32} {fz fy fr : Nat → Int32} {rs9 : List Int32} {a x0 x1 : Nat} (hN : 66 ≤ N) (k53 : ev 53 = mO ad lim thr no cmp nl lsz rs9.length) (m1 : MRows G ev R9 fz fy) (m4 : MRes G ev rs9 fr) (ha : a < 3) (hx1 : x1 ≤ (R9 a).length) (hcap : rs9.length + (x1 - x0) ≤ 128) (hx0 : x0 ≤ 1000) : Ct l yX6_copy wsX6_copy rmX6_copy [.ref (ad 53), .int (iI (a : Int)), .int (iI (x0 : Int)), .int (iI (x1 : Int))] G N ad ev 0 0 (fun v e2 => v = none ∧ e2 53 = mO ad lim thr no cmp nl lsz ((rs9 ++ sl (R9 a) x0 x1).length) ∧ (∃ fr : Nat → Int32, MRes G e2 (rs9 ++ sl (R9 a) x0 x1) fr) ∧ Fr e2 ev (fun j => j = 53 ∨ j = 61)) := by
  obtain ⟨za, la, ya⟩ := m1.at (j := a) ha
  refine Ct_of (cc := cX6_copy) (maxL := 5) (ret := none) (lv := [(0, .ref (ad 53)), (1, .int (iI (a : Int))), (2, .int (iI (x0 : Int))), (3, .int (iI (x1 : Int)))]) (by decide) rfl (Nat.le_of_ble_eq_true rfl) rfl ?_
  intro p E s m args below meth c A C hr hnm
  refine n_iload_n C dX6_copy_0 2 rfl rfl ?_
  refine n_istore (lv' := [(0, .ref (ad 53)), (1, .int (iI (a : Int))), (2, .int (iI (x0 : Int))), (3, .int (iI (x1 : Int))), (4, .int (iI (x0 : Int)))]) C dX6_copy_1 (by decide) rfl ?_
  have loop : ∀ (n9 : Nat) (k : Nat) (fr : Nat → Int32) (ex : Nat → va_E), x1 + 1 - k < n9 → (x0 ≤ k) → (k ≤ x1 ∨ k = x0) → (ex 53 = mO ad lim thr no cmp nl lsz ((rs9 ++ sl (R9 a) x0 k).length)) → (MRows G ex R9 fz fy) → (MRes G ex (rs9 ++ sl (R9 a) x0 k) fr) → (Fr ex ev (fun j => j = 53 ∨ j = 61)) → V p l E rmX6_copy s m args below meth c G A 5 (MQ below (Qg G N ad A (fun v e2 => v = none ∧ e2 53 = mO ad lim thr no cmp nl lsz ((rs9 ++ sl (R9 a) x0 x1).length) ∧ (∃ fr : Nat → Int32, MRes G e2 (rs9 ++ sl (R9 a) x0 x1) fr) ∧ Fr e2 ev (fun j => j = 53 ∨ j = 61))) args s 0 0 A) N ad ex 0 0 3 [(0, .ref (ad 53)), (1, .int (iI (a : Int))), (2, .int (iI (x0 : Int))), (3, .int (iI (x1 : Int))), (4, .int (iI (k : Int)))] [] := by
    intro n9
    induction n9 with
    | zero =>
      intro k fr ex hm9
      exact absurd hm9 (Nat.not_lt_zero _)
    | succ n9 ih =>
      intro k fr ex hm9 hak hkb k53 m1 m4 hF
      refine n_iload C dX6_copy_3 4 rfl ?_
      refine n_iload_n C dX6_copy_5 3 rfl rfl ?_
      refine n_icmp_ge C dX6_copy_6 (by decide) (by omega) (by omega) (by omega) (by omega) (tgt := 31) (fun c1 => ?_) (fun c1 => ?_)
      · have hs9 : sl (R9 a) x0 k = sl (R9 a) x0 x1 := by
          rcases hkb with h | h
          · rw [show k = x1 by omega]
          · rw [h, sl_none (Nat.le_refl _), sl_none (by omega)]
        rw [hs9] at k53 m4
        exact n_vret C hr dX6_copy_31 (⟨rfl, k53, ⟨fr, m4⟩, hF⟩)
      · have hg9 := ya k (by omega)
        have hl9 : (rs9 ++ sl (R9 a) x0 k).length < 128 := by rw [List.length_append, sl_len (by omega)]; omega
        refine n_aload_n C dX6_copy_9 0 rfl rfl ?_
        refine n_aload_n C dX6_copy_10 0 rfl rfl ?_
        refine n_get (k9 := 3) C dX6_copy_11 (by omega) k53 hX6_copy_X6 rfl (by decide) kX6_copy_13 rfl ?_
        refine n_bipush C dX6_copy_14 (by decide) ?_
        refine n_iload_n C dX6_copy_16 1 rfl rfl ?_
        refine n_imul C dX6_copy_17 ?_
        refine n_iload C dX6_copy_18 4 rfl ?_
        refine n_iadd C dX6_copy_20 ?_
        refine n_iald (j := 20 * a + k) C dX6_copy_21 (by omega) m1.2.1 (by omega) (by omega) (by omega) ?_
        refine n_callV (rest := []) C dX6_copy_22 (TX6_take l hN k53 m4 hl9) (cwV 1 C.2.2.2.2.1 gX6_copy_X6_take rfl rfl rfl cdX6_take ⟨Nat.le_of_ble_eq_true rfl, Nat.le_of_ble_eq_true rfl⟩) (by omega) k53 rfl rfl rfl (Nat.le_of_ble_eq_true rfl) ⟨Nat.le_of_ble_eq_true rfl, Nat.le_of_ble_eq_true rfl⟩ ?_
        rintro _ e2 ⟨rfl, k53, ⟨fr9, m4⟩, hF9⟩
        refine n_pc (pc2 := 25) rfl (n_st (st2 := []) rfl ?_)
        have m1 := m1.fr hF9 (by omega) (by omega)
        rw [List.append_assoc, ← sl_succ hak hg9] at m4
        have hln : (rs9 ++ sl (R9 a) x0 (k + 1)).length = (rs9 ++ sl (R9 a) x0 k).length + 1 := by rw [List.length_append, List.length_append, sl_len (by omega), sl_len (by omega)]; omega
        refine n_iinc (lv' := [(0, .ref (ad 53)), (1, .int (iI (a : Int))), (2, .int (iI (x0 : Int))), (3, .int (iI (x1 : Int))), (4, .int (iI ((k : Int) + 1)))]) C dX6_copy_25 4 rfl (by decide) rfl ?_
        refine n_goto (tgt := 3) C dX6_copy_28 (by decide) ?_
        refine n_lv (lv2 := [(0, .ref (ad 53)), (1, .int (iI (a : Int))), (2, .int (iI (x0 : Int))), (3, .int (iI (x1 : Int))), (4, .int (iI ((k + 1 : Nat) : Int)))]) (by simp) ?_
        exact ih (k + 1) fr9 e2 (by omega) (by omega) (by omega) (by rw [k53, hln]) m1 m4 (fun j9 hj9 => (hF9 j9 hj9).trans (hF j9 hj9))
  exact loop _ x0 fr ev (Nat.lt_succ_self _) (Nat.le_refl _) (Or.inr rfl) (by rw [sl_none (Nat.le_refl _), List.append_nil]; exact k53) m1 (by rw [sl_none (Nat.le_refl _), List.append_nil]; exact m4) Fr.rf
