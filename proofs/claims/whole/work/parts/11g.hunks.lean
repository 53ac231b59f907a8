theorem op_at {ls : List Op} {j : Nat} {t : Op} (h : ls[j]? = some t) : plI ls (j : Int) = (t.2.1 : Int) ∧ bhI ls (j : Int) = (t.2.1 : Int) + (if t.1 then 1 else 0) := by
  have hj : j < ls.length := (List.getElem?_eq_some_iff.mp h).1
  unfold plI bhI
  rw [if_pos ⟨by omega, by omega⟩, if_pos ⟨by omega, by omega⟩]
  simp [List.getD, h]
theorem MMade.at {G : GG} {ev : Nat → va_E} {ls : List Op} {mk mp : Nat → Int32} (m3 : MMade G ev ls mk mp) {j : Nat} {t : Op} (h : ls[j]? = some t) : mk j = (if t.1 then iI 0 else iI 1) ∧ mp j = iI (plI ls (j : Int)) ∧ bhI ls (j : Int) = plI ls (j : Int) + (if t.1 then 1 else 0) ∧ 0 ≤ plI ls (j : Int) ∧ plI ls (j : Int) ≤ 20 := by
  obtain ⟨h1, h2⟩ := m3.2.2.1 j t h
  obtain ⟨h3, h4⟩ := op_at h
  have h5 := plI_b m3.2.2.2.2 (j : Int)
  exact ⟨h1, by rw [h2, h3]; rfl, by rw [h4, h3], h5⟩
theorem cB_s (ls : List Op) (n : Int) (k : Nat) : cB ls n (k + 1) = cB ls n k + (if beg ls n k then 1 else 0) := rfl
theorem cB_mono (ls : List Op) (n : Int) (a : Nat) : ∀ b, cB ls n a ≤ cB ls n (a + b)
  | 0 => Nat.le_refl _
  | b + 1 => by
    have := cB_mono ls n a b
    rw [← Nat.add_assoc, cB_s]
    omega
theorem hunk_in {ls : List Op} {n : Int} {k r r2 : Nat} (h : HunkIs ls n k r r2) {j : Nat} (hj : j < ls.length) : cB ls n (j + 1) = k + 1 ↔ (r ≤ j ∧ j ≤ r2) := by
  obtain ⟨h1, h2, h3, h4, h5, h6⟩ := h
  have hc : ∀ d, r + d ≤ r2 → cB ls n (r + d + 1) = k + 1 := by
    intro d
    induction d with
    | zero => intro _; exact h3
    | succ d ih =>
      intro hd
      have h9 := h5 (r + (d + 1)) (by omega) hd
      rw [cB_s, h9]
      exact ih (by omega)
  constructor
  · intro h
    have ha : r ≤ j := by
      rcases Nat.lt_or_ge j r with z | z
      · exact absurd h (h4 j z)
      · exact z
    refine ⟨ha, ?_⟩
    rcases Nat.lt_or_ge r2 j with z | z
    · have hb := h6.resolve_left (by omega)
      have h7 := hc (r2 - r) (by omega)
      rw [show r + (r2 - r) = r2 by omega] at h7
      have h8 : cB ls n (r2 + 1 + 1) = k + 1 + 1 := by rw [cB_s, h7, hb]; rfl
      have h9 := cB_mono ls n (r2 + 1 + 1) (j - r2 - 1)
      rw [show r2 + 1 + 1 + (j - r2 - 1) = j + 1 by omega] at h9
      omega
    · exact z
  · intro ⟨ha, hb⟩
    have := hc (j - r) (by omega)
    rwa [show r + (j - r) = j by omega] at this
theorem cK_s {ls : List Op} {d : Bool} {r j : Nat} {t : Op} (h : ls[j]? = some t) (hr : r ≤ j) : cK ls d r (j + 1) = cK ls d r j + (if t.1 = d then 1 else 0) := by
  show cK ls d r j + (if r ≤ j ∧ (ls[j]?).map (·.1) = some d then 1 else 0) = _
  rw [h]
  simp [hr]
theorem cK_sum {ls : List Op} {r : Nat} : ∀ j, r ≤ j → j ≤ ls.length → cK ls false r j + cK ls true r j = j - r
  | 0, h, _ => by
    rw [cK_0 _ _ _ _ (by omega), cK_0 _ _ _ _ (by omega)]
    omega
  | j + 1, h, hl => by
    rcases Nat.lt_or_ge j r with z | z
    · rw [cK_0 _ _ _ _ (by omega), cK_0 _ _ _ _ (by omega)]
      omega
    · obtain ⟨t, ht⟩ := some_of_lt (xs := ls) (j := j) (by omega)
      have := cK_sum (ls := ls) j z (by omega)
      rw [cK_s ht z, cK_s ht z]
      cases t.1 <;> simp <;> omega
/-- the counts up to operation j, of a hunk from r to r2 -/
def cM (ls : List Op) (d : Bool) (r r2 j : Nat) : Nat := cK ls d r (min j (r2 + 1))
theorem cM_out {ls : List Op} {d : Bool} {r r2 j : Nat} (hr : r ≤ r2) (h : ¬ (r ≤ j ∧ j ≤ r2)) : cM ls d r r2 (j + 1) = cM ls d r r2 j := by
  unfold cM
  rcases Nat.lt_or_ge j r with z | z
  · rw [cK_0 _ _ _ _ (by omega), cK_0 _ _ _ _ (by omega)]
  · rw [Nat.min_eq_right (by omega), Nat.min_eq_right (by omega)]
theorem cM_in {ls : List Op} {d : Bool} {r r2 j : Nat} {t : Op} (ht : ls[j]? = some t) (h : r ≤ j) (h2 : j ≤ r2) : cM ls d r r2 (j + 1) = cM ls d r r2 j + (if t.1 = d then 1 else 0) := by
  unfold cM
  rw [Nat.min_eq_left (by omega), Nat.min_eq_left (by omega)]
  exact cK_s ht h
theorem cM_sum {ls : List Op} {r r2 j : Nat} (h : r ≤ j) (h2 : j ≤ r2) (h3 : r2 < ls.length) : cM ls false r r2 j + cM ls true r r2 j = j - r := by
  unfold cM
  rw [Nat.min_eq_left (by omega)]
  exact cK_sum j h (by omega)
theorem cM_le (ls : List Op) (d : Bool) (r r2 j : Nat) : cM ls d r r2 j ≤ j := Nat.le_trans (cK_le ls d r _) (Nat.min_le_left _ _)
def hkU (ls : List Op) (lsz : Nat) (n k w : Int) (r r2 : Nat) : Int := if 0 ≤ k ∧ k < (hkN ls n : Int) then hkV ls lsz n r r2 w else -1
theorem beg_b {ls : List Op} {n : Int} {k : Nat} (hk : 0 < k) : beg ls n k = decide (2 * n < plI ls (k : Int) - bhI ls ((k : Int) - 1)) := by
  unfold beg
  rw [decide_eq_false (show ¬ k = 0 by omega), Bool.false_or]

set_option maxHeartbeats 4000000 in
set_option maxRecDepth 100000 in
theorem TX6_together (l : Launch) {G : GG} {N : Nat} {ad : Nat → Nat} {ev : Nat → va_E} {lim thr : Int} {no : Nat} {cmp : Bool} {lsz nr : Nat} {ls : List Op} {mk mp : Nat → Int32} {k : Nat} {n : Int} (hN : 66 ≤ N) (k53 : ev 53 = mO ad lim thr no cmp ls.length lsz nr) (m3 : MMade G ev ls mk mp) (hk0 : 0 < k) (hk : k < ls.length) (hn0 : 0 ≤ n) (hn9 : n ≤ 9) : Ct l yX6_together wsX6_together rmX6_together [.ref (ad 53), .int (iI (k : Int)), .int (iI n)] G N ad ev 0 0 (fun v e2 => v = some (.int (bI (!beg ls n k))) ∧ ev = e2) := by
  have hl7 := m3.2.2.2.1
  obtain ⟨t, ht⟩ := some_of_lt hk
  obtain ⟨t1, ht1⟩ := some_of_lt (xs := ls) (j := k - 1) (by omega)
  obtain ⟨-, qp, -, qa, qb⟩ := m3.at ht
  obtain ⟨pk, pp, pb, pa, pc9⟩ := m3.at ht1
  rw [beg_b hk0, show (k : Int) - 1 = ((k - 1 : Nat) : Int) by omega, pb]
  refine Ct_of (cc := cX6_together) (maxL := 4) (ret := some .boolean) (lv := [(0, .ref (ad 53)), (1, .int (iI (k : Int))), (2, .int (iI n))]) (by decide) rfl (Nat.le_of_ble_eq_true rfl) rfl ?_
  intro p E s m args below meth c A C hr hnm
  refine n_aload_n C dX6_together_0 0 rfl rfl ?_
  refine n_get (k9 := 12) C dX6_together_1 (by omega) k53 hX6_together_X6 rfl (by decide) kX6_together_28 rfl ?_
  refine n_iload_n C dX6_together_4 1 rfl rfl ?_
  refine n_iald (j := k) C dX6_together_5 (by omega) m3.2.1 (by omega) (by omega) (by omega) ?_
  refine n_topI (y := (iI (plI ls (k : Int)))) (qp) ?_
  refine n_aload_n C dX6_together_6 0 rfl rfl ?_
  refine n_get (k9 := 12) C dX6_together_7 (by omega) k53 hX6_together_X6 rfl (by decide) kX6_together_28 rfl ?_
  refine n_iload_n C dX6_together_10 1 rfl rfl ?_
  refine n_iconst C dX6_together_11 ?_
  refine n_isub C dX6_together_12 ?_
  refine n_iald (j := k - 1) C dX6_together_13 (by omega) m3.2.1 (by omega) (by omega) (by omega) ?_
  refine n_topI (y := (iI (plI ls ((k - 1 : Nat) : Int)))) (pp) ?_
  refine n_isub C dX6_together_14 ?_
  refine n_aload_n C dX6_together_15 0 rfl rfl ?_
  refine n_get (k9 := 11) C dX6_together_16 (by omega) k53 hX6_together_X6 rfl (by decide) kX6_together_25 rfl ?_
  refine n_iload_n C dX6_together_19 1 rfl rfl ?_
  refine n_iconst C dX6_together_20 ?_
  refine n_isub C dX6_together_21 ?_
  cases hd : t1.1
  · rw [hd] at pk pb
    refine n_iald (j := k - 1) C dX6_together_22 (by omega) m3.1 (by omega) (by omega) (by omega) ?_
    refine n_topI (y := (iI 1)) (pk) ?_
    refine n_if_ne C dX6_together_23 (by decide) (by omega) (by omega) (tgt := 30) (fun _ => ?_) (fun c9 => absurd c9 (by omega))
    refine n_iconst C dX6_together_30 ?_
    refine n_isub C dX6_together_31 ?_
    refine n_istore_n (lv' := [(0, .ref (ad 53)), (1, .int (iI (k : Int))), (2, .int (iI n)), (3, .int (iI (((plI ls (k : Int)) - (plI ls ((k - 1 : Nat) : Int))) - 0)))]) C dX6_together_32 rfl (by decide) rfl ?_
    refine n_iload_n C dX6_together_33 3 rfl rfl ?_
    refine n_iconst C dX6_together_34 ?_
    refine n_iload_n C dX6_together_35 2 rfl rfl ?_
    refine n_imul C dX6_together_36 ?_
    refine n_icmp_gt C dX6_together_37 (by decide) (by omega) (by omega) (by omega) (by omega) (tgt := 44) (fun c1 => ?_) (fun c1 => ?_)
    · have e9 : (if false = true then (1 : Int) else 0) = 0 := by simp
      refine n_iconst C dX6_together_44 ?_
      exact n_zret C hr dX6_together_45 (by decide) (⟨by rw [e9, decide_eq_true (by omega)]; rfl, rfl⟩)
    · have e9 : (if false = true then (1 : Int) else 0) = 0 := by simp
      refine n_iconst C dX6_together_40 ?_
      refine n_goto (tgt := 45) C dX6_together_41 (by decide) ?_
      exact n_zret C hr dX6_together_45 (by decide) (⟨by rw [e9, decide_eq_false (by omega)]; rfl, rfl⟩)
  · rw [hd] at pk pb
    refine n_iald (j := k - 1) C dX6_together_22 (by omega) m3.1 (by omega) (by omega) (by omega) ?_
    refine n_topI (y := (iI 0)) (pk) ?_
    refine n_if_ne C dX6_together_23 (by decide) (by omega) (by omega) (tgt := 30) (fun c9 => absurd c9 (by omega)) (fun _ => ?_)
    refine n_iconst C dX6_together_26 ?_
    refine n_goto (tgt := 31) C dX6_together_27 (by decide) ?_
    refine n_isub C dX6_together_31 ?_
    refine n_istore_n (lv' := [(0, .ref (ad 53)), (1, .int (iI (k : Int))), (2, .int (iI n)), (3, .int (iI (((plI ls (k : Int)) - (plI ls ((k - 1 : Nat) : Int))) - 1)))]) C dX6_together_32 rfl (by decide) rfl ?_
    refine n_iload_n C dX6_together_33 3 rfl rfl ?_
    refine n_iconst C dX6_together_34 ?_
    refine n_iload_n C dX6_together_35 2 rfl rfl ?_
    refine n_imul C dX6_together_36 ?_
    refine n_icmp_gt C dX6_together_37 (by decide) (by omega) (by omega) (by omega) (by omega) (tgt := 44) (fun c1 => ?_) (fun c1 => ?_)
    · have e9 : (if true = true then (1 : Int) else 0) = 1 := by simp
      refine n_iconst C dX6_together_44 ?_
      exact n_zret C hr dX6_together_45 (by decide) (⟨by rw [e9, decide_eq_true (by omega)]; rfl, rfl⟩)
    · have e9 : (if true = true then (1 : Int) else 0) = 1 := by simp
      refine n_iconst C dX6_together_40 ?_
      refine n_goto (tgt := 45) C dX6_together_41 (by decide) ?_
      exact n_zret C hr dX6_together_45 (by decide) (⟨by rw [e9, decide_eq_false (by omega)]; rfl, rfl⟩)

set_option maxHeartbeats 4000000 in
set_option maxRecDepth 100000 in
theorem TX6_countHunks (l : Launch) {G : GG} {N : Nat} {ad : Nat → Nat} {ev : Nat → va_E} {lim thr : Int} {no : Nat} {cmp : Bool} {lsz nr : Nat} {ls : List Op} {mk mp : Nat → Int32} {n : Int} (hN : 66 ≤ N) (k53 : ev 53 = mO ad lim thr no cmp ls.length lsz nr) (m3 : MMade G ev ls mk mp) (hn0 : 0 ≤ n) (hn9 : n ≤ 9) : Ct l yX6_countHunks wsX6_countHunks rmX6_countHunks [.ref (ad 53), .int (iI n)] G N ad ev 0 0 (fun v e2 => v = some (.int (iI (cB ls n ls.length : Int))) ∧ ev = e2) := by
  have hl7 := m3.2.2.2.1
  have hb0 : beg ls n 0 = true := rfl
  have hc1 : cB ls n 1 = 1 := rfl
  refine Ct_of (cc := cX6_countHunks) (maxL := 4) (ret := some .int) (lv := [(0, .ref (ad 53)), (1, .int (iI n))]) (by decide) rfl (Nat.le_of_ble_eq_true rfl) rfl ?_
  intro p E s m args below meth c A C hr hnm
  refine n_aload_n C dX6_countHunks_0 0 rfl rfl ?_
  refine n_get (k9 := 9) C dX6_countHunks_1 (by omega) k53 hX6_countHunks_X6 rfl (by decide) kX6_countHunks_80 rfl ?_
  refine n_if_le C dX6_countHunks_4 (by decide) (by omega) (by omega) (tgt := 11) (fun c0 => ?_) (fun c0 => ?_)
  · have hz : ls.length = 0 := by omega
    refine n_iconst C dX6_countHunks_11 ?_
    refine n_istore_n (lv' := [(0, .ref (ad 53)), (1, .int (iI n)), (2, .int (iI 0))]) C dX6_countHunks_12 rfl (by decide) rfl ?_
    refine n_iconst C dX6_countHunks_13 ?_
    refine n_istore_n (lv' := [(0, .ref (ad 53)), (1, .int (iI n)), (2, .int (iI 0)), (3, .int (iI 1))]) C dX6_countHunks_14 rfl (by decide) rfl ?_
    refine n_iload_n C dX6_countHunks_15 3 rfl rfl ?_
    refine n_aload_n C dX6_countHunks_16 0 rfl rfl ?_
    refine n_get (k9 := 9) C dX6_countHunks_17 (by omega) k53 hX6_countHunks_X6 rfl (by decide) kX6_countHunks_80 rfl ?_
    refine n_icmp_ge C dX6_countHunks_20 (by decide) (by omega) (by omega) (by omega) (by omega) (tgt := 46) (fun _ => ?_) (fun c9 => absurd c9 (by omega))
    refine n_iload_n C dX6_countHunks_46 2 rfl rfl ?_
    exact n_iret C hr dX6_countHunks_47 (⟨by rw [hz]; rfl, rfl⟩)
  · refine n_iconst C dX6_countHunks_7 ?_
    refine n_goto (tgt := 12) C dX6_countHunks_8 (by decide) ?_
    refine n_istore_n (lv' := [(0, .ref (ad 53)), (1, .int (iI n)), (2, .int (iI 1))]) C dX6_countHunks_12 rfl (by decide) rfl ?_
    refine n_iconst C dX6_countHunks_13 ?_
    refine n_istore_n (lv' := [(0, .ref (ad 53)), (1, .int (iI n)), (2, .int (iI 1)), (3, .int (iI 1))]) C dX6_countHunks_14 rfl (by decide) rfl ?_
    have loop : ∀ (n9 : Nat) (k : Nat), ls.length + 1 - k < n9 → (k ≤ ls.length) → (0 < k) → V p l E rmX6_countHunks s m args below meth c G A 4 (MQ below (Qg G N ad A (fun v e2 => v = some (.int (iI (cB ls n ls.length : Int))) ∧ ev = e2)) args s 0 0 A) N ad ev 0 0 15 [(0, .ref (ad 53)), (1, .int (iI n)), (2, .int (iI (cB ls n k : Int))), (3, .int (iI (k : Int)))] [] := by
      intro n9
      induction n9 with
      | zero =>
        intro k hm9
        exact absurd hm9 (Nat.not_lt_zero _)
      | succ n9 ih =>
        intro k hm9 hk hk1
        have hcl := cB_le ls n k
        refine n_iload_n C dX6_countHunks_15 3 rfl rfl ?_
        refine n_aload_n C dX6_countHunks_16 0 rfl rfl ?_
        refine n_get (k9 := 9) C dX6_countHunks_17 (by omega) k53 hX6_countHunks_X6 rfl (by decide) kX6_countHunks_80 rfl ?_
        refine n_icmp_ge C dX6_countHunks_20 (by decide) (by omega) (by omega) (by omega) (by omega) (tgt := 46) (fun c1 => ?_) (fun c1 => ?_)
        · refine n_iload_n C dX6_countHunks_46 2 rfl rfl ?_
          exact n_iret C hr dX6_countHunks_47 (⟨by rw [show k = ls.length by omega], rfl⟩)
        · refine n_aload_n C dX6_countHunks_23 0 rfl rfl ?_
          refine n_iload_n C dX6_countHunks_24 3 rfl rfl ?_
          refine n_iload_n C dX6_countHunks_25 1 rfl rfl ?_
          refine n_callV (rest := []) C dX6_countHunks_26 (TX6_together l hN k53 m3 hk1 (by omega) hn0 hn9) (cwV 2 C.2.2.2.2.1 gX6_countHunks_X6_together rfl rfl rfl cdX6_together ⟨Nat.le_of_ble_eq_true rfl, Nat.le_of_ble_eq_true rfl⟩) (by omega) k53 rfl rfl rfl (Nat.le_of_ble_eq_true rfl) ⟨Nat.le_of_ble_eq_true rfl, Nat.le_of_ble_eq_true rfl⟩ ?_
          rintro _ _ ⟨rfl, rfl⟩
          refine n_pc (pc2 := 29) rfl (n_st (st2 := [.int (bI (!beg ls n k))]) rfl ?_)
          refine n_if_eqB C dX6_countHunks_29 (by decide) (tgt := 36) (fun c2 => ?_) (fun c2 => ?_)
          · have hbg : beg ls n k = true := by cases h : beg ls n k <;> simp_all
            have hcs : cB ls n (k + 1) = cB ls n k + 1 := by rw [cB_s, hbg]; rfl
            refine n_iload_n C dX6_countHunks_36 2 rfl rfl ?_
            refine n_iconst C dX6_countHunks_37 ?_
            refine n_iadd C dX6_countHunks_38 ?_
            refine n_istore_n (lv' := [(0, .ref (ad 53)), (1, .int (iI n)), (2, .int (iI ((cB ls n k : Int) + 1))), (3, .int (iI (k : Int)))]) C dX6_countHunks_39 rfl (by decide) rfl ?_
            refine n_iinc (lv' := [(0, .ref (ad 53)), (1, .int (iI n)), (2, .int (iI ((cB ls n k : Int) + 1))), (3, .int (iI ((k : Int) + 1)))]) C dX6_countHunks_40 3 rfl (by decide) rfl ?_
            refine n_goto (tgt := 15) C dX6_countHunks_43 (by decide) ?_
            refine n_lv (lv2 := [(0, .ref (ad 53)), (1, .int (iI n)), (2, .int (iI (cB ls n (k + 1) : Int))), (3, .int (iI ((k + 1 : Nat) : Int)))]) (by rw [hcs]; simp) ?_
            exact ih (k + 1) (by omega) (by omega) (by omega)
          · have hbg : beg ls n k = false := by cases h : beg ls n k <;> simp_all
            have hcs : cB ls n (k + 1) = cB ls n k + 0 := by rw [cB_s, hbg]; rfl
            refine n_iload_n C dX6_countHunks_32 2 rfl rfl ?_
            refine n_goto (tgt := 39) C dX6_countHunks_33 (by decide) ?_
            refine n_istore_n (lv' := [(0, .ref (ad 53)), (1, .int (iI n)), (2, .int (iI (cB ls n k : Int))), (3, .int (iI (k : Int)))]) C dX6_countHunks_39 rfl (by decide) rfl ?_
            refine n_iinc (lv' := [(0, .ref (ad 53)), (1, .int (iI n)), (2, .int (iI (cB ls n k : Int))), (3, .int (iI ((k : Int) + 1)))]) C dX6_countHunks_40 3 rfl (by decide) rfl ?_
            refine n_goto (tgt := 15) C dX6_countHunks_43 (by decide) ?_
            refine n_lv (lv2 := [(0, .ref (ad 53)), (1, .int (iI n)), (2, .int (iI (cB ls n (k + 1) : Int))), (3, .int (iI ((k + 1 : Nat) : Int)))]) (by rw [hcs]; simp) ?_
            exact ih (k + 1) (by omega) (by omega) (by omega)
    refine n_lv (lv2 := [(0, .ref (ad 53)), (1, .int (iI n)), (2, .int (iI (cB ls n 1 : Int))), (3, .int (iI ((1 : Nat) : Int)))]) (by rw [hc1]; rfl) ?_
    exact loop _ 1 (Nat.lt_succ_self _) (by omega) (by omega)

set_option maxHeartbeats 4000000 in
set_option maxRecDepth 100000 in
theorem TX6_hunks (l : Launch) {G : GG} {N : Nat} {ad : Nat → Nat} {ev : Nat → va_E} {lim thr : Int} {R9 : Nat → List Int32} {ops : List Tr} {ls : List Op} {lsz : Nat} {rs9 : List Int32} {n : Int} (hN : 66 ≤ N) (hM : MdlAt G ad ev lim thr R9 ops ls lsz rs9) (hna : -2147483648 ≤ n) (hnb : n < 2147483648) : Ct l yX6_hunks wsX6_hunks rmX6_hunks [.ref (ad 53), .int (iI n)] G N ad ev 0 0 (fun v e2 => v = some (.int (iI (hkN ls n : Int))) ∧ MdlAt G ad e2 lim 0 R9 ops ls lsz rs9 ∧ Fr e2 ev (fun j => 53 ≤ j ∧ j < 66)) := by
  obtain ⟨cmp, fz, fy, fk, fp, fs, mk, mp, fr, fq, w1, w2, fd, hbb, k53, m1, m2, m3, m4, m5⟩ := hM
  obtain ⟨hli1, hli2, hlsz, hcmp⟩ := hbb
  refine Ct_of (cc := cX6_hunks) (maxL := 2) (ret := some .int) (lv := [(0, .ref (ad 53)), (1, .int (iI n))]) (by decide) rfl (Nat.le_of_ble_eq_true rfl) rfl ?_
  intro p E s m args below meth c A C hr hnm
  refine n_aload_n C dX6_hunks_0 0 rfl rfl ?_
  refine n_iconst C dX6_hunks_1 ?_
  refine n_put (k9 := 1) (fs2 := [.int (iI lim), .int (iI 0), .ref (ad 54), .ref (ad 55), .int (iI (ops.length : Int)), .ref (ad 56), .ref (ad 57), .ref (ad 58), .int (bI cmp), .int (iI (ls.length : Int)), .int (iI (lsz : Int)), .ref (ad 59), .ref (ad 60), .int (iI (rs9.length : Int)), .ref (ad 61), .ref (ad 62), .ref (ad 63), .ref (ad 64), .ref (ad 65)]) C dX6_hunks_2 (by omega) k53 hX6_hunks_X6 tyX6_ok nmX6 rfl (by decide) kX6_hunks_50 rfl rfl rfl (Nat.le_of_ble_eq_true rfl) rfl (fun e1 hs2 ho3 => ?_)
  have hP4 : Fr e1 _ (fun j => j = 53) := fun j hj => ho3 j hj
  have m1 := m1.fr hP4 (by omega) (by omega)
  have m2 := m2.fr hP4 (by omega) (by omega) (by omega)
  have m3 := m3.fr hP4 (by omega) (by omega)
  have m4 := m4.fr hP4 (by omega)
  have m5 := m5.fr hP4 (by omega) (by omega) (by omega) (by omega)
  refine n_aload_n C dX6_hunks_5 0 rfl rfl ?_
  refine n_get (k9 := 8) C dX6_hunks_6 (by omega) hs2 hX6_hunks_X6 rfl (by decide) kX6_hunks_76 rfl ?_
  refine n_if_eqB C dX6_hunks_9 (by decide) (tgt := 30) (fun c1 => ?_) (fun c1 => ?_)
  · have h9 : hkN ls n = 0 := by unfold hkN; rw [hcmp c1]; split <;> rfl
    refine n_iconst C dX6_hunks_30 ?_
    exact n_iret C hr dX6_hunks_31 (⟨by rw [h9]; rfl, ⟨cmp, _, _, _, _, _, _, _, _, _, _, _, _, ⟨hli1, hli2, hlsz, hcmp⟩, hs2, m1, m2, m3, m4, m5⟩, fun j hj => hP4 j (by omega)⟩)
  · refine n_iload_n C dX6_hunks_12 1 rfl rfl ?_
    refine n_if_lt C dX6_hunks_13 (by decide) (by omega) (by omega) (tgt := 30) (fun c2 => ?_) (fun c2 => ?_)
    · have h9 : hkN ls n = 0 := by unfold hkN; rw [show isA n = false from decide_eq_false (by omega)]; rfl
      refine n_iconst C dX6_hunks_30 ?_
      exact n_iret C hr dX6_hunks_31 (⟨by rw [h9]; rfl, ⟨cmp, _, _, _, _, _, _, _, _, _, _, _, _, ⟨hli1, hli2, hlsz, hcmp⟩, hs2, m1, m2, m3, m4, m5⟩, fun j hj => hP4 j (by omega)⟩)
    · refine n_iload_n C dX6_hunks_16 1 rfl rfl ?_
      refine n_bipush C dX6_hunks_17 (by decide) ?_
      refine n_icmp_gt C dX6_hunks_19 (by decide) (by omega) (by omega) (by omega) (by omega) (tgt := 30) (fun c3 => ?_) (fun c3 => ?_)
      · have h9 : hkN ls n = 0 := by unfold hkN; rw [show isA n = false from decide_eq_false (by omega)]; rfl
        refine n_iconst C dX6_hunks_30 ?_
        exact n_iret C hr dX6_hunks_31 (⟨by rw [h9]; rfl, ⟨cmp, _, _, _, _, _, _, _, _, _, _, _, _, ⟨hli1, hli2, hlsz, hcmp⟩, hs2, m1, m2, m3, m4, m5⟩, fun j hj => hP4 j (by omega)⟩)
      · have h9 : hkN ls n = cB ls n ls.length := by unfold hkN; rw [show isA n = true from decide_eq_true (by omega)]; rfl
        refine n_aload_n C dX6_hunks_22 0 rfl rfl ?_
        refine n_iload_n C dX6_hunks_23 1 rfl rfl ?_
        refine n_callV (rest := []) C dX6_hunks_24 (TX6_countHunks l hN hs2 m3 (by omega) (by omega)) (cwV 1 C.2.2.2.2.1 gX6_hunks_X6_countHunks rfl rfl rfl cdX6_countHunks ⟨Nat.le_of_ble_eq_true rfl, Nat.le_of_ble_eq_true rfl⟩) (by omega) hs2 rfl rfl rfl (Nat.le_of_ble_eq_true rfl) ⟨Nat.le_of_ble_eq_true rfl, Nat.le_of_ble_eq_true rfl⟩ ?_
        rintro _ _ ⟨rfl, rfl⟩
        refine n_pc (pc2 := 27) rfl (n_st (st2 := [.int (iI (cB ls n ls.length : Int))]) rfl ?_)
        refine n_goto (tgt := 31) C dX6_hunks_27 (by decide) ?_
        exact n_iret C hr dX6_hunks_31 (⟨by rw [h9], ⟨cmp, _, _, _, _, _, _, _, _, _, _, _, _, ⟨hli1, hli2, hlsz, hcmp⟩, hs2, m1, m2, m3, m4, m5⟩, fun j hj => hP4 j (by omega)⟩)

set_option maxHeartbeats 4000000 in
set_option maxRecDepth 100000 in
theorem TX6_hunk (l : Launch) {G : GG} {N : Nat} {ad : Nat → Nat} {ev : Nat → va_E} {lim thr : Int} {R9 : Nat → List Int32} {ops : List Tr} {ls : List Op} {lsz : Nat} {rs9 : List Int32} {n k w9 : Int} {r r2 : Nat} (hN : 66 ≤ N) (hM : MdlAt G ad ev lim thr R9 ops ls lsz rs9) (hna : -2147483648 ≤ n) (hnb : n < 2147483648) (hka : -2147483648 ≤ k) (hkb : k < 2147483648) (hw9a : -2147483648 ≤ w9) (hw9b : w9 < 2147483648) (hH : 0 ≤ k → k < (hkN ls n : Int) → HunkIs ls n k.toNat r r2) : Ct l yX6_hunk wsX6_hunk rmX6_hunk [.ref (ad 53), .int (iI n), .int (iI k), .int (iI w9)] G N ad ev 0 0 (fun v e2 => v = some (.int (iI (hkU ls lsz n k w9 r r2))) ∧ MdlAt G ad e2 lim 0 R9 ops ls lsz rs9 ∧ Fr e2 ev (fun j => 53 ≤ j ∧ j < 66)) := by
  obtain ⟨cmp, fz, fy, fk, fp, fs, mk, mp, fr, fq, w1, w2, fd, hbb, k53, m1, m2, m3, m4, m5⟩ := hM
  obtain ⟨hli1, hli2, hlsz, hcmp⟩ := hbb
  have hl7 := m3.2.2.2.1
  refine Ct_of (cc := cX6_hunk) (maxL := 8) (ret := some .int) (lv := [(0, .ref (ad 53)), (1, .int (iI n)), (2, .int (iI k)), (3, .int (iI w9))]) (by decide) rfl (Nat.le_of_ble_eq_true rfl) rfl ?_
  intro p E s m args below meth c A C hr hnm
  refine n_aload_n C dX6_hunk_0 0 rfl rfl ?_
  refine n_iconst C dX6_hunk_1 ?_
  refine n_put (k9 := 1) (fs2 := [.int (iI lim), .int (iI 0), .ref (ad 54), .ref (ad 55), .int (iI (ops.length : Int)), .ref (ad 56), .ref (ad 57), .ref (ad 58), .int (bI cmp), .int (iI (ls.length : Int)), .int (iI (lsz : Int)), .ref (ad 59), .ref (ad 60), .int (iI (rs9.length : Int)), .ref (ad 61), .ref (ad 62), .ref (ad 63), .ref (ad 64), .ref (ad 65)]) C dX6_hunk_2 (by omega) k53 hX6_hunk_X6 tyX6_ok nmX6 rfl (by decide) kX6_hunk_50 rfl rfl rfl (Nat.le_of_ble_eq_true rfl) rfl (fun e1 hs2 ho3 => ?_)
  have hP4 : Fr e1 _ (fun j => j = 53) := fun j hj => ho3 j hj
  have m1 := m1.fr hP4 (by omega) (by omega)
  have m2 := m2.fr hP4 (by omega) (by omega) (by omega)
  have m3 := m3.fr hP4 (by omega) (by omega)
  have m4 := m4.fr hP4 (by omega)
  have m5 := m5.fr hP4 (by omega) (by omega) (by omega) (by omega)
  refine n_aload_n C dX6_hunk_5 0 rfl rfl ?_
  refine n_get (k9 := 8) C dX6_hunk_6 (by omega) hs2 hX6_hunk_X6 rfl (by decide) kX6_hunk_76 rfl ?_
  refine n_if_eqB C dX6_hunk_9 (by decide) (tgt := 44) (fun c1 => ?_) (fun c1 => ?_)
  · have h9 : hkN ls n = 0 := by unfold hkN; rw [hcmp c1]; split <;> rfl
    have h8 : hkU ls lsz n k w9 r r2 = -1 := by unfold hkU; rw [if_neg (by omega)]
    refine n_iconst C dX6_hunk_44 ?_
    exact n_iret C hr dX6_hunk_45 (⟨by rw [h8], ⟨cmp, _, _, _, _, _, _, _, _, _, _, _, _, ⟨hli1, hli2, hlsz, hcmp⟩, hs2, m1, m2, m3, m4, m5⟩, fun j hj => hP4 j (by omega)⟩)
  · refine n_iload_n C dX6_hunk_12 1 rfl rfl ?_
    refine n_if_lt C dX6_hunk_13 (by decide) (by omega) (by omega) (tgt := 44) (fun c2 => ?_) (fun c2 => ?_)
    · have h9 : hkN ls n = 0 := by unfold hkN; rw [show isA n = false from decide_eq_false (by omega)]; rfl
      have h8 : hkU ls lsz n k w9 r r2 = -1 := by unfold hkU; rw [if_neg (by omega)]
      refine n_iconst C dX6_hunk_44 ?_
      exact n_iret C hr dX6_hunk_45 (⟨by rw [h8], ⟨cmp, _, _, _, _, _, _, _, _, _, _, _, _, ⟨hli1, hli2, hlsz, hcmp⟩, hs2, m1, m2, m3, m4, m5⟩, fun j hj => hP4 j (by omega)⟩)
    · refine n_iload_n C dX6_hunk_16 1 rfl rfl ?_
      refine n_bipush C dX6_hunk_17 (by decide) ?_
      refine n_icmp_gt C dX6_hunk_19 (by decide) (by omega) (by omega) (by omega) (by omega) (tgt := 44) (fun c3 => ?_) (fun c3 => ?_)
      · have h9 : hkN ls n = 0 := by unfold hkN; rw [show isA n = false from decide_eq_false (by omega)]; rfl
        have h8 : hkU ls lsz n k w9 r r2 = -1 := by unfold hkU; rw [if_neg (by omega)]
        refine n_iconst C dX6_hunk_44 ?_
        exact n_iret C hr dX6_hunk_45 (⟨by rw [h8], ⟨cmp, _, _, _, _, _, _, _, _, _, _, _, _, ⟨hli1, hli2, hlsz, hcmp⟩, hs2, m1, m2, m3, m4, m5⟩, fun j hj => hP4 j (by omega)⟩)
      · have h9 : hkN ls n = cB ls n ls.length := by unfold hkN; rw [show isA n = true from decide_eq_true (by omega)]; rfl
        have hcl := cB_le ls n ls.length
        refine n_iload_n C dX6_hunk_22 2 rfl rfl ?_
        refine n_if_lt C dX6_hunk_23 (by decide) (by omega) (by omega) (tgt := 44) (fun c4 => ?_) (fun c4 => ?_)
        · have h8 : hkU ls lsz n k w9 r r2 = -1 := by unfold hkU; rw [if_neg (by omega)]
          refine n_iconst C dX6_hunk_44 ?_
          exact n_iret C hr dX6_hunk_45 (⟨by rw [h8], ⟨cmp, _, _, _, _, _, _, _, _, _, _, _, _, ⟨hli1, hli2, hlsz, hcmp⟩, hs2, m1, m2, m3, m4, m5⟩, fun j hj => hP4 j (by omega)⟩)
        · refine n_iload_n C dX6_hunk_26 2 rfl rfl ?_
          refine n_aload_n C dX6_hunk_27 0 rfl rfl ?_
          refine n_iload_n C dX6_hunk_28 1 rfl rfl ?_
          refine n_callV (rest := [.int (iI k)]) C dX6_hunk_29 (TX6_countHunks l hN hs2 m3 (by omega) (by omega)) (cwV 1 C.2.2.2.2.1 gX6_hunk_X6_countHunks rfl rfl rfl cdX6_countHunks ⟨Nat.le_of_ble_eq_true rfl, Nat.le_of_ble_eq_true rfl⟩) (by omega) hs2 rfl rfl rfl (Nat.le_of_ble_eq_true rfl) ⟨Nat.le_of_ble_eq_true rfl, Nat.le_of_ble_eq_true rfl⟩ ?_
          rintro _ _ ⟨rfl, rfl⟩
          refine n_pc (pc2 := 32) rfl (n_st (st2 := [.int (iI (cB ls n ls.length : Int)), .int (iI k)]) rfl ?_)
          refine n_icmp_ge C dX6_hunk_32 (by decide) (by omega) (by omega) (by omega) (by omega) (tgt := 44) (fun c5 => ?_) (fun c5 => ?_)
          · have h8 : hkU ls lsz n k w9 r r2 = -1 := by unfold hkU; rw [if_neg (by omega)]
            refine n_iconst C dX6_hunk_44 ?_
            exact n_iret C hr dX6_hunk_45 (⟨by rw [h8], ⟨cmp, _, _, _, _, _, _, _, _, _, _, _, _, ⟨hli1, hli2, hlsz, hcmp⟩, hs2, m1, m2, m3, m4, m5⟩, fun j hj => hP4 j (by omega)⟩)
          · have hU : hkU ls lsz n k w9 r r2 = hkV ls lsz n r r2 w9 := by unfold hkU; rw [if_pos (by omega)]
            refine n_iload_n C dX6_hunk_35 3 rfl rfl ?_
            refine n_if_lt C dX6_hunk_36 (by decide) (by omega) (by omega) (tgt := 44) (fun c6 => ?_) (fun c6 => ?_)
            · have h8 : hkU ls lsz n k w9 r r2 = -1 := by unfold hkU; rw [if_pos (by omega)]; unfold hkV; rw [if_neg (by omega), if_neg (by omega), if_neg (by omega), if_neg (by omega)]
              refine n_iconst C dX6_hunk_44 ?_
              exact n_iret C hr dX6_hunk_45 (⟨by rw [h8], ⟨cmp, _, _, _, _, _, _, _, _, _, _, _, _, ⟨hli1, hli2, hlsz, hcmp⟩, hs2, m1, m2, m3, m4, m5⟩, fun j hj => hP4 j (by omega)⟩)
            · refine n_iload_n C dX6_hunk_39 3 rfl rfl ?_
              refine n_iconst C dX6_hunk_40 ?_
              refine n_icmp_le C dX6_hunk_41 (by decide) (by omega) (by omega) (by omega) (by omega) (tgt := 46) (fun c7 => ?_) (fun c7 => ?_)
              · obtain ⟨h, rfl⟩ : ∃ h : Nat, k = (h : Int) := ⟨k.toNat, by omega⟩
                have hH := hH (by omega) (by omega)
                rw [Int.toNat_natCast] at hH
                obtain ⟨hr1, hr2, -⟩ := id hH
                have b1 := plI_b m3.2.2.2.2 (r : Int)
                have b2 := bhI_b m3.2.2.2.2 (r2 : Int)
                have k53 := hs2
                refine n_iconst C dX6_hunk_46 ?_
                refine n_istore (lv' := [(0, .ref (ad 53)), (1, .int (iI n)), (2, .int (iI (h : Int))), (3, .int (iI w9)), (4, .int (iI (-1)))]) C dX6_hunk_47 (by decide) rfl ?_
                refine n_iconst C dX6_hunk_49 ?_
                refine n_istore (lv' := [(0, .ref (ad 53)), (1, .int (iI n)), (2, .int (iI (h : Int))), (3, .int (iI w9)), (4, .int (iI (-1))), (5, .int (iI 0))]) C dX6_hunk_50 (by decide) rfl ?_
                refine n_aload_n C dX6_hunk_52 0 rfl rfl ?_
                refine n_get (k9 := 18) C dX6_hunk_53 (by omega) k53 hX6_hunk_X6 rfl (by decide) kX6_hunk_43 rfl ?_
                refine n_iconst C dX6_hunk_56 ?_
                refine n_iconst C dX6_hunk_57 ?_
                refine n_iast (j := 2) C dX6_hunk_58 (by omega) m5.2.2.2 (by omega) (by omega) (by omega) (fun e5 hs6 ho7 => ?_)
                have qh8 := (ho7 53 (by decide)).trans k53
                refine n_aload_n C dX6_hunk_59 0 rfl rfl ?_
                refine n_get (k9 := 18) C dX6_hunk_60 (by omega) qh8 hX6_hunk_X6 rfl (by decide) kX6_hunk_43 rfl ?_
                refine n_iconst C dX6_hunk_63 ?_
                refine n_iconst C dX6_hunk_64 ?_
                refine n_iast (j := 3) C dX6_hunk_65 (by omega) hs6 (by omega) (by omega) (by omega) (fun e9 hs10 ho11 => ?_)
                have qh12 := (ho11 53 (by decide)).trans qh8
                refine n_iconst C dX6_hunk_66 ?_
                refine n_istore (lv' := [(0, .ref (ad 53)), (1, .int (iI n)), (2, .int (iI (h : Int))), (3, .int (iI w9)), (4, .int (iI (-1))), (5, .int (iI 0)), (6, .int (iI 0))]) C dX6_hunk_67 (by decide) rfl ?_
                have hF6 : Fr e9 _ (fun j => j = 65) := fun j hj => (ho11 j hj).trans (ho7 j hj)
                have m1 := m1.fr hF6 (by omega) (by omega)
                have m2 := m2.fr hF6 (by omega) (by omega) (by omega)
                have m3 := m3.fr hF6 (by omega) (by omega)
                have m4 := m4.fr hF6 (by omega)
                have hFa : Fr e9 ev (fun j => 53 ≤ j ∧ j < 66) := fun j hj => ((ho11 j (by omega)).trans (ho7 j (by omega))).trans (hP4 j (by omega))
                have k62 := (hF6 62 (by omega)).trans m5.1
                have k63 := (hF6 63 (by omega)).trans m5.2.1
                have k64 := (hF6 64 (by omega)).trans m5.2.2.1
                have loop : ∀ (n9 : Nat) (j : Nat) (la : Int) (fd : Nat → Int32) (ex : Nat → va_E), ls.length + 1 - j < n9 → (j ≤ ls.length) → ((r < j → la = bhI ls ((min (j - 1) r2 : Nat) : Int) + n) ∧ 0 ≤ la ∧ la ≤ 30) → (ex 53 = mO ad lim 0 ops.length cmp ls.length lsz rs9.length) → (ex 65 = .inl (G.2.1, 4, .inl fd)) → (r < j → fd 0 = iI (plI ls (r : Int) - n)) → (fd 2 = iI (cM ls false r r2 j : Int)) → (fd 3 = iI (cM ls true r r2 j : Int)) → (Fr ex e9 (fun j => j = 65)) → V p l E rmX6_hunk s m args below meth c G A 8 (MQ below (Qg G N ad A (fun v e2 => v = some (.int (iI (hkU ls lsz n (h : Int) w9 r r2))) ∧ MdlAt G ad e2 lim 0 R9 ops ls lsz rs9 ∧ Fr e2 ev (fun j => 53 ≤ j ∧ j < 66))) args s 0 0 A) N ad ex 0 0 69 [(0, .ref (ad 53)), (1, .int (iI n)), (2, .int (iI (h : Int))), (3, .int (iI w9)), (4, .int (iI ((cB ls n j : Int) - 1))), (5, .int (iI la)), (6, .int (iI (j : Int)))] [] := by
                  intro n9
                  induction n9 with
                  | zero =>
                    intro j la fd ex hm9
                    exact absurd hm9 (Nat.not_lt_zero _)
                  | succ n9 ih =>
                    intro j la fd ex hm9 hj hla k53 k65 hf0 hf2 hf3 hF
                    have m3 := m3.fr hF (by omega) (by omega)
                    have hcl9 := cB_le ls n j
                    have hmf := cM_le ls false r r2 j
                    have hmt := cM_le ls true r r2 j
                    refine n_iload C dX6_hunk_69 6 rfl ?_
                    refine n_aload_n C dX6_hunk_71 0 rfl rfl ?_
                    refine n_get (k9 := 9) C dX6_hunk_72 (by omega) k53 hX6_hunk_X6 rfl (by decide) kX6_hunk_80 rfl ?_
                    refine n_icmp_ge C dX6_hunk_75 (by decide) (by omega) (by omega) (by omega) (by omega) (tgt := 285) (fun c8 => ?_) (fun c8 => ?_)
                    · have hje : j = ls.length := by omega
                      have hla9 := hla.1 (by omega)
                      rw [show min (j - 1) r2 = r2 by omega] at hla9
                      have hf0 := hf0 (by omega)
                      have hcf : cM ls false r r2 j = cK ls false r (r2 + 1) := by unfold cM; rw [show min j (r2 + 1) = r2 + 1 by omega]
                      have hct : cM ls true r r2 j = cK ls true r (r2 + 1) := by unfold cM; rw [show min j (r2 + 1) = r2 + 1 by omega]
                      have m1 := m1.fr hF (by omega) (by omega)
                      have m2 := m2.fr hF (by omega) (by omega) (by omega)
                      have m4 := m4.fr hF (by omega)
                      have k62 := (hF 62 (by omega)).trans k62
                      have k63 := (hF 63 (by omega)).trans k63
                      have k64 := (hF 64 (by omega)).trans k64
                      refine n_aload_n C dX6_hunk_285 0 rfl rfl ?_
                      refine n_get (k9 := 18) C dX6_hunk_286 (by omega) k53 hX6_hunk_X6 rfl (by decide) kX6_hunk_43 rfl ?_
                      refine n_iconst C dX6_hunk_289 ?_
                      refine n_aload_n C dX6_hunk_290 0 rfl rfl ?_
                      refine n_get (k9 := 18) C dX6_hunk_291 (by omega) k53 hX6_hunk_X6 rfl (by decide) kX6_hunk_43 rfl ?_
                      refine n_iconst C dX6_hunk_294 ?_
                      refine n_iald (j := 0) C dX6_hunk_295 (by omega) k65 (by omega) (by omega) (by omega) ?_
                      refine n_topI (y := (iI (plI ls (r : Int) - n))) (hf0) ?_
                      refine n_if_ge C dX6_hunk_296 (by decide) (by omega) (by omega) (tgt := 303) (fun c10 => ?_) (fun c10 => ?_)
                      · refine n_aload_n C dX6_hunk_303 0 rfl rfl ?_
                        refine n_get (k9 := 18) C dX6_hunk_304 (by omega) k53 hX6_hunk_X6 rfl (by decide) kX6_hunk_43 rfl ?_
                        refine n_iconst C dX6_hunk_307 ?_
                        refine n_iald (j := 0) C dX6_hunk_308 (by omega) k65 (by omega) (by omega) (by omega) ?_
                        refine n_topI (y := (iI (plI ls (r : Int) - n))) (hf0) ?_
                        have hmx : max 0 (plI ls (r : Int) - n) = plI ls (r : Int) - n := by omega
                        refine n_iast (j := 0) C dX6_hunk_309 (by omega) k65 (by omega) (by omega) (by omega) (fun e13 hs14 ho15 => ?_)
                        have qh16 := (ho15 53 (by decide)).trans k53
                        refine n_iload C dX6_hunk_310 5 rfl ?_
                        refine n_aload_n C dX6_hunk_312 0 rfl rfl ?_
                        refine n_get (k9 := 10) C dX6_hunk_313 (by omega) qh16 hX6_hunk_X6 rfl (by decide) kX6_hunk_83 rfl ?_
                        refine n_icmp_le C dX6_hunk_316 (by decide) (by omega) (by omega) (by omega) (by omega) (tgt := 326) (fun c11 => ?_) (fun c11 => ?_)
                        · have hmn : min (lsz : Int) (bhI ls (r2 : Int) + n) = la := by omega
                          refine n_iload C dX6_hunk_326 5 rfl ?_
                          refine n_istore (lv' := [(0, .ref (ad 53)), (1, .int (iI n)), (2, .int (iI (h : Int))), (3, .int (iI w9)), (4, .int (iI ((cB ls n j : Int) - 1))), (5, .int (iI la)), (6, .int (iI (j : Int)))]) C dX6_hunk_328 (by decide) rfl ?_
                          refine n_aload_n C dX6_hunk_330 0 rfl rfl ?_
                          refine n_get (k9 := 18) C dX6_hunk_331 (by omega) qh16 hX6_hunk_X6 rfl (by decide) kX6_hunk_43 rfl ?_
                          refine n_iconst C dX6_hunk_334 ?_
                          refine n_iload C dX6_hunk_335 5 rfl ?_
                          refine n_aload_n C dX6_hunk_337 0 rfl rfl ?_
                          refine n_get (k9 := 18) C dX6_hunk_338 (by omega) qh16 hX6_hunk_X6 rfl (by decide) kX6_hunk_43 rfl ?_
                          refine n_iconst C dX6_hunk_341 ?_
                          refine n_iald (j := 0) C dX6_hunk_342 (by omega) hs14 (by omega) (by omega) (by omega) ?_
                          refine n_topI (y := (iI (plI ls (r : Int) - n))) (by simp [upd]) ?_
                          refine n_isub C dX6_hunk_343 ?_
                          refine n_iast (j := 1) C dX6_hunk_344 (by omega) hs14 (by omega) (by omega) (by omega) (fun e17 hs18 ho19 => ?_)
                          have qh20 := (ho19 53 (by decide)).trans qh16
                          have hFz : Fr e17 ex (fun j => j = 65) := fun j hj => (ho19 j hj).trans (ho15 j hj)
                          have m1 := m1.fr hFz (by omega) (by omega)
                          have m2 := m2.fr hFz (by omega) (by omega) (by omega)
                          have m3 := m3.fr hFz (by omega) (by omega)
                          have m4 := m4.fr hFz (by omega)
                          have m5 : MWrk G e17 fq w1 w2 _ := ⟨(hFz 62 (by omega)).trans k62, (hFz 63 (by omega)).trans k63, (hFz 64 (by omega)).trans k64, hs18⟩
                          have hFe : Fr e17 ev (fun j => 53 ≤ j ∧ j < 66) := fun j hj => (hFz j (by omega)).trans ((hF j (by omega)).trans (hFa j hj))
                          obtain ⟨q9, rfl⟩ : ∃ q9 : Nat, w9 = (q9 : Int) := ⟨w9.toNat, by omega⟩
                          refine n_aload_n C dX6_hunk_345 0 rfl rfl ?_
                          refine n_get (k9 := 18) C dX6_hunk_346 (by omega) qh20 hX6_hunk_X6 rfl (by decide) kX6_hunk_43 rfl ?_
                          refine n_iload_n C dX6_hunk_349 3 rfl rfl ?_
                          refine n_iald (j := q9) C dX6_hunk_350 (by omega) hs18 (by omega) (by omega) (by omega) ?_
                          rw [hU]
                          exact n_iret C hr dX6_hunk_351 (⟨by
                            have hv : (upd (upd fd 0 (iI (plI ls (r : Int) - n))) 1 (iI (la - (plI ls (r : Int) - n)))) q9 = iI (hkV ls lsz n r r2 (q9 : Int)) := by
                              rcases (show q9 = 0 ∨ q9 = 1 ∨ q9 = 2 ∨ q9 = 3 by omega) with rfl | rfl | rfl | rfl
                              · simp [upd, hkV, hmx]
                              · simp [upd, hkV, hmx, hmn]
                              · simp [upd, hkV, hf2, hcf]
                              · simp [upd, hkV, hf3, hct]
                            rw [hv], ⟨cmp, _, _, _, _, _, _, _, _, _, _, _, _, ⟨hli1, hli2, hlsz, hcmp⟩, qh20, m1, m2, m3, m4, m5⟩, hFe⟩)
                        · have hmn : min (lsz : Int) (bhI ls (r2 : Int) + n) = (lsz : Int) := by omega
                          refine n_aload_n C dX6_hunk_319 0 rfl rfl ?_
                          refine n_get (k9 := 10) C dX6_hunk_320 (by omega) qh16 hX6_hunk_X6 rfl (by decide) kX6_hunk_83 rfl ?_
                          refine n_goto (tgt := 328) C dX6_hunk_323 (by decide) ?_
                          refine n_istore (lv' := [(0, .ref (ad 53)), (1, .int (iI n)), (2, .int (iI (h : Int))), (3, .int (iI w9)), (4, .int (iI ((cB ls n j : Int) - 1))), (5, .int (iI (lsz : Int))), (6, .int (iI (j : Int)))]) C dX6_hunk_328 (by decide) rfl ?_
                          refine n_aload_n C dX6_hunk_330 0 rfl rfl ?_
                          refine n_get (k9 := 18) C dX6_hunk_331 (by omega) qh16 hX6_hunk_X6 rfl (by decide) kX6_hunk_43 rfl ?_
                          refine n_iconst C dX6_hunk_334 ?_
                          refine n_iload C dX6_hunk_335 5 rfl ?_
                          refine n_aload_n C dX6_hunk_337 0 rfl rfl ?_
                          refine n_get (k9 := 18) C dX6_hunk_338 (by omega) qh16 hX6_hunk_X6 rfl (by decide) kX6_hunk_43 rfl ?_
                          refine n_iconst C dX6_hunk_341 ?_
                          refine n_iald (j := 0) C dX6_hunk_342 (by omega) hs14 (by omega) (by omega) (by omega) ?_
                          refine n_topI (y := (iI (plI ls (r : Int) - n))) (by simp [upd]) ?_
                          refine n_isub C dX6_hunk_343 ?_
                          refine n_iast (j := 1) C dX6_hunk_344 (by omega) hs14 (by omega) (by omega) (by omega) (fun e21 hs22 ho23 => ?_)
                          have qh24 := (ho23 53 (by decide)).trans qh16
                          have hFz : Fr e21 ex (fun j => j = 65) := fun j hj => (ho23 j hj).trans (ho15 j hj)
                          have m1 := m1.fr hFz (by omega) (by omega)
                          have m2 := m2.fr hFz (by omega) (by omega) (by omega)
                          have m3 := m3.fr hFz (by omega) (by omega)
                          have m4 := m4.fr hFz (by omega)
                          have m5 : MWrk G e21 fq w1 w2 _ := ⟨(hFz 62 (by omega)).trans k62, (hFz 63 (by omega)).trans k63, (hFz 64 (by omega)).trans k64, hs22⟩
                          have hFe : Fr e21 ev (fun j => 53 ≤ j ∧ j < 66) := fun j hj => (hFz j (by omega)).trans ((hF j (by omega)).trans (hFa j hj))
                          obtain ⟨q9, rfl⟩ : ∃ q9 : Nat, w9 = (q9 : Int) := ⟨w9.toNat, by omega⟩
                          refine n_aload_n C dX6_hunk_345 0 rfl rfl ?_
                          refine n_get (k9 := 18) C dX6_hunk_346 (by omega) qh24 hX6_hunk_X6 rfl (by decide) kX6_hunk_43 rfl ?_
                          refine n_iload_n C dX6_hunk_349 3 rfl rfl ?_
                          refine n_iald (j := q9) C dX6_hunk_350 (by omega) hs22 (by omega) (by omega) (by omega) ?_
                          rw [hU]
                          exact n_iret C hr dX6_hunk_351 (⟨by
                            have hv : (upd (upd fd 0 (iI (plI ls (r : Int) - n))) 1 (iI ((lsz : Int) - (plI ls (r : Int) - n)))) q9 = iI (hkV ls lsz n r r2 (q9 : Int)) := by
                              rcases (show q9 = 0 ∨ q9 = 1 ∨ q9 = 2 ∨ q9 = 3 by omega) with rfl | rfl | rfl | rfl
                              · simp [upd, hkV, hmx]
                              · simp [upd, hkV, hmx, hmn]
                              · simp [upd, hkV, hf2, hcf]
                              · simp [upd, hkV, hf3, hct]
                            rw [hv], ⟨cmp, _, _, _, _, _, _, _, _, _, _, _, _, ⟨hli1, hli2, hlsz, hcmp⟩, qh24, m1, m2, m3, m4, m5⟩, hFe⟩)
                      · have hmx : max 0 (plI ls (r : Int) - n) = 0 := by omega
                        refine n_iconst C dX6_hunk_299 ?_
                        refine n_goto (tgt := 309) C dX6_hunk_300 (by decide) ?_
                        refine n_iast (j := 0) C dX6_hunk_309 (by omega) k65 (by omega) (by omega) (by omega) (fun e25 hs26 ho27 => ?_)
                        have qh28 := (ho27 53 (by decide)).trans k53
                        refine n_iload C dX6_hunk_310 5 rfl ?_
                        refine n_aload_n C dX6_hunk_312 0 rfl rfl ?_
                        refine n_get (k9 := 10) C dX6_hunk_313 (by omega) qh28 hX6_hunk_X6 rfl (by decide) kX6_hunk_83 rfl ?_
                        refine n_icmp_le C dX6_hunk_316 (by decide) (by omega) (by omega) (by omega) (by omega) (tgt := 326) (fun c11 => ?_) (fun c11 => ?_)
                        · have hmn : min (lsz : Int) (bhI ls (r2 : Int) + n) = la := by omega
                          refine n_iload C dX6_hunk_326 5 rfl ?_
                          refine n_istore (lv' := [(0, .ref (ad 53)), (1, .int (iI n)), (2, .int (iI (h : Int))), (3, .int (iI w9)), (4, .int (iI ((cB ls n j : Int) - 1))), (5, .int (iI la)), (6, .int (iI (j : Int)))]) C dX6_hunk_328 (by decide) rfl ?_
                          refine n_aload_n C dX6_hunk_330 0 rfl rfl ?_
                          refine n_get (k9 := 18) C dX6_hunk_331 (by omega) qh28 hX6_hunk_X6 rfl (by decide) kX6_hunk_43 rfl ?_
                          refine n_iconst C dX6_hunk_334 ?_
                          refine n_iload C dX6_hunk_335 5 rfl ?_
                          refine n_aload_n C dX6_hunk_337 0 rfl rfl ?_
                          refine n_get (k9 := 18) C dX6_hunk_338 (by omega) qh28 hX6_hunk_X6 rfl (by decide) kX6_hunk_43 rfl ?_
                          refine n_iconst C dX6_hunk_341 ?_
                          refine n_iald (j := 0) C dX6_hunk_342 (by omega) hs26 (by omega) (by omega) (by omega) ?_
                          refine n_topI (y := (iI 0)) (by simp [upd]) ?_
                          refine n_isub C dX6_hunk_343 ?_
                          refine n_iast (j := 1) C dX6_hunk_344 (by omega) hs26 (by omega) (by omega) (by omega) (fun e29 hs30 ho31 => ?_)
                          have qh32 := (ho31 53 (by decide)).trans qh28
                          have hFz : Fr e29 ex (fun j => j = 65) := fun j hj => (ho31 j hj).trans (ho27 j hj)
                          have m1 := m1.fr hFz (by omega) (by omega)
                          have m2 := m2.fr hFz (by omega) (by omega) (by omega)
                          have m3 := m3.fr hFz (by omega) (by omega)
                          have m4 := m4.fr hFz (by omega)
                          have m5 : MWrk G e29 fq w1 w2 _ := ⟨(hFz 62 (by omega)).trans k62, (hFz 63 (by omega)).trans k63, (hFz 64 (by omega)).trans k64, hs30⟩
                          have hFe : Fr e29 ev (fun j => 53 ≤ j ∧ j < 66) := fun j hj => (hFz j (by omega)).trans ((hF j (by omega)).trans (hFa j hj))
                          obtain ⟨q9, rfl⟩ : ∃ q9 : Nat, w9 = (q9 : Int) := ⟨w9.toNat, by omega⟩
                          refine n_aload_n C dX6_hunk_345 0 rfl rfl ?_
                          refine n_get (k9 := 18) C dX6_hunk_346 (by omega) qh32 hX6_hunk_X6 rfl (by decide) kX6_hunk_43 rfl ?_
                          refine n_iload_n C dX6_hunk_349 3 rfl rfl ?_
                          refine n_iald (j := q9) C dX6_hunk_350 (by omega) hs30 (by omega) (by omega) (by omega) ?_
                          rw [hU]
                          exact n_iret C hr dX6_hunk_351 (⟨by
                            have hv : (upd (upd fd 0 (iI 0)) 1 (iI (la - 0))) q9 = iI (hkV ls lsz n r r2 (q9 : Int)) := by
                              rcases (show q9 = 0 ∨ q9 = 1 ∨ q9 = 2 ∨ q9 = 3 by omega) with rfl | rfl | rfl | rfl
                              · simp [upd, hkV, hmx]
                              · simp [upd, hkV, hmx, hmn]
                              · simp [upd, hkV, hf2, hcf]
                              · simp [upd, hkV, hf3, hct]
                            rw [hv], ⟨cmp, _, _, _, _, _, _, _, _, _, _, _, _, ⟨hli1, hli2, hlsz, hcmp⟩, qh32, m1, m2, m3, m4, m5⟩, hFe⟩)
                        · have hmn : min (lsz : Int) (bhI ls (r2 : Int) + n) = (lsz : Int) := by omega
                          refine n_aload_n C dX6_hunk_319 0 rfl rfl ?_
                          refine n_get (k9 := 10) C dX6_hunk_320 (by omega) qh28 hX6_hunk_X6 rfl (by decide) kX6_hunk_83 rfl ?_
                          refine n_goto (tgt := 328) C dX6_hunk_323 (by decide) ?_
                          refine n_istore (lv' := [(0, .ref (ad 53)), (1, .int (iI n)), (2, .int (iI (h : Int))), (3, .int (iI w9)), (4, .int (iI ((cB ls n j : Int) - 1))), (5, .int (iI (lsz : Int))), (6, .int (iI (j : Int)))]) C dX6_hunk_328 (by decide) rfl ?_
                          refine n_aload_n C dX6_hunk_330 0 rfl rfl ?_
                          refine n_get (k9 := 18) C dX6_hunk_331 (by omega) qh28 hX6_hunk_X6 rfl (by decide) kX6_hunk_43 rfl ?_
                          refine n_iconst C dX6_hunk_334 ?_
                          refine n_iload C dX6_hunk_335 5 rfl ?_
                          refine n_aload_n C dX6_hunk_337 0 rfl rfl ?_
                          refine n_get (k9 := 18) C dX6_hunk_338 (by omega) qh28 hX6_hunk_X6 rfl (by decide) kX6_hunk_43 rfl ?_
                          refine n_iconst C dX6_hunk_341 ?_
                          refine n_iald (j := 0) C dX6_hunk_342 (by omega) hs26 (by omega) (by omega) (by omega) ?_
                          refine n_topI (y := (iI 0)) (by simp [upd]) ?_
                          refine n_isub C dX6_hunk_343 ?_
                          refine n_iast (j := 1) C dX6_hunk_344 (by omega) hs26 (by omega) (by omega) (by omega) (fun e33 hs34 ho35 => ?_)
                          have qh36 := (ho35 53 (by decide)).trans qh28
                          have hFz : Fr e33 ex (fun j => j = 65) := fun j hj => (ho35 j hj).trans (ho27 j hj)
                          have m1 := m1.fr hFz (by omega) (by omega)
                          have m2 := m2.fr hFz (by omega) (by omega) (by omega)
                          have m3 := m3.fr hFz (by omega) (by omega)
                          have m4 := m4.fr hFz (by omega)
                          have m5 : MWrk G e33 fq w1 w2 _ := ⟨(hFz 62 (by omega)).trans k62, (hFz 63 (by omega)).trans k63, (hFz 64 (by omega)).trans k64, hs34⟩
                          have hFe : Fr e33 ev (fun j => 53 ≤ j ∧ j < 66) := fun j hj => (hFz j (by omega)).trans ((hF j (by omega)).trans (hFa j hj))
                          obtain ⟨q9, rfl⟩ : ∃ q9 : Nat, w9 = (q9 : Int) := ⟨w9.toNat, by omega⟩
                          refine n_aload_n C dX6_hunk_345 0 rfl rfl ?_
                          refine n_get (k9 := 18) C dX6_hunk_346 (by omega) qh36 hX6_hunk_X6 rfl (by decide) kX6_hunk_43 rfl ?_
                          refine n_iload_n C dX6_hunk_349 3 rfl rfl ?_
                          refine n_iald (j := q9) C dX6_hunk_350 (by omega) hs34 (by omega) (by omega) (by omega) ?_
                          rw [hU]
                          exact n_iret C hr dX6_hunk_351 (⟨by
                            have hv : (upd (upd fd 0 (iI 0)) 1 (iI ((lsz : Int) - 0))) q9 = iI (hkV ls lsz n r r2 (q9 : Int)) := by
                              rcases (show q9 = 0 ∨ q9 = 1 ∨ q9 = 2 ∨ q9 = 3 by omega) with rfl | rfl | rfl | rfl
                              · simp [upd, hkV, hmx]
                              · simp [upd, hkV, hmx, hmn]
                              · simp [upd, hkV, hf2, hcf]
                              · simp [upd, hkV, hf3, hct]
                            rw [hv], ⟨cmp, _, _, _, _, _, _, _, _, _, _, _, _, ⟨hli1, hli2, hlsz, hcmp⟩, qh36, m1, m2, m3, m4, m5⟩, hFe⟩)
                    · obtain ⟨t, ht⟩ := some_of_lt (xs := ls) (j := j) (by omega)
                      obtain ⟨qk, qp, qb, qa, qc⟩ := m3.at ht
                      have hin := hunk_in hH (show j < ls.length by omega)
                      have hcl8 := cB_le ls n (j + 1)
                      have rest : V p l E rmX6_hunk s m args below meth c G A 8 (MQ below (Qg G N ad A (fun v e2 => v = some (.int (iI (hkU ls lsz n (h : Int) w9 r r2))) ∧ MdlAt G ad e2 lim 0 R9 ops ls lsz rs9 ∧ Fr e2 ev (fun j => 53 ≤ j ∧ j < 66))) args s 0 0 A) N ad ex 0 0 104 [(0, .ref (ad 53)), (1, .int (iI n)), (2, .int (iI (h : Int))), (3, .int (iI w9)), (4, .int (iI ((cB ls n (j + 1) : Int) - 1))), (5, .int (iI la)), (6, .int (iI (j : Int)))] [] := by
                        by_cases hc : r ≤ j ∧ j ≤ r2
                        · have hcc := hin.mpr hc
                          have hsum := cM_sum (ls := ls) hc.1 hc.2 hr2
                          cases hd : t.1
                          · rw [hd] at qk qb
                            have e2 : cM ls false r r2 (j + 1) = cM ls false r r2 j + 1 := by rw [cM_in ht hc.1 hc.2, hd]; rfl
                            have e3 : cM ls true r r2 (j + 1) = cM ls true r r2 j + 0 := by rw [cM_in ht hc.1 hc.2, hd]; rfl
                            have qb9 : bhI ls (j : Int) = plI ls (j : Int) + 0 := by rw [qb]; simp
                            refine n_iload C dX6_hunk_104 4 rfl ?_
                            refine n_iload_n C dX6_hunk_106 2 rfl rfl ?_
                            refine n_icmp_ne C dX6_hunk_107 (by decide) (by omega) (by omega) (by omega) (by omega) (tgt := 130) (fun c9 => absurd c9 (by omega)) (fun _ => ?_)
                            refine n_aload_n C dX6_hunk_110 0 rfl rfl ?_
                            refine n_get (k9 := 18) C dX6_hunk_111 (by omega) k53 hX6_hunk_X6 rfl (by decide) kX6_hunk_43 rfl ?_
                            refine n_iconst C dX6_hunk_114 ?_
                            refine n_iald (j := 2) C dX6_hunk_115 (by omega) k65 (by omega) (by omega) (by omega) ?_
                            refine n_topI (y := (iI (cM ls false r r2 j : Int))) (hf2) ?_
                            refine n_aload_n C dX6_hunk_116 0 rfl rfl ?_
                            refine n_get (k9 := 18) C dX6_hunk_117 (by omega) k53 hX6_hunk_X6 rfl (by decide) kX6_hunk_43 rfl ?_
                            refine n_iconst C dX6_hunk_120 ?_
                            refine n_iald (j := 3) C dX6_hunk_121 (by omega) k65 (by omega) (by omega) (by omega) ?_
                            refine n_topI (y := (iI (cM ls true r r2 j : Int))) (hf3) ?_
                            refine n_iadd C dX6_hunk_122 ?_
                            refine n_if_ne C dX6_hunk_123 (by decide) (by omega) (by omega) (tgt := 130) (fun c12 => ?_) (fun c12 => ?_)
                            · refine n_iconst C dX6_hunk_130 ?_
                              refine n_istore (lv' := [(0, .ref (ad 53)), (1, .int (iI n)), (2, .int (iI (h : Int))), (3, .int (iI w9)), (4, .int (iI ((cB ls n (j + 1) : Int) - 1))), (5, .int (iI la)), (6, .int (iI (j : Int))), (7, .int (iI 0))]) C dX6_hunk_131 (by decide) rfl ?_
                              refine n_aload_n C dX6_hunk_133 0 rfl rfl ?_
                              refine n_get (k9 := 18) C dX6_hunk_134 (by omega) k53 hX6_hunk_X6 rfl (by decide) kX6_hunk_43 rfl ?_
                              refine n_iconst C dX6_hunk_137 ?_
                              refine n_iload C dX6_hunk_138 7 rfl ?_
                              refine n_if_eq C dX6_hunk_140 (by decide) (by omega) (by omega) (tgt := 155) (fun _ => ?_) (fun c9 => absurd c9 (by omega))
                              refine n_aload_n C dX6_hunk_155 0 rfl rfl ?_
                              refine n_get (k9 := 18) C dX6_hunk_156 (by omega) k53 hX6_hunk_X6 rfl (by decide) kX6_hunk_43 rfl ?_
                              refine n_iconst C dX6_hunk_159 ?_
                              refine n_iald (j := 0) C dX6_hunk_160 (by omega) k65 (by omega) (by omega) (by omega) ?_
                              refine n_iast (j := 0) C dX6_hunk_161 (by omega) k65 (by omega) (by omega) (by omega) (fun e37 hs38 ho39 => ?_)
                              have qh40 := (ho39 53 (by decide)).trans k53
                              have qh41 := (ho39 59 (by decide)).trans m3.1
                              have qh42 := (ho39 60 (by decide)).trans m3.2.1
                              refine n_iload C dX6_hunk_162 4 rfl ?_
                              refine n_iload_n C dX6_hunk_164 2 rfl rfl ?_
                              refine n_icmp_ne C dX6_hunk_165 (by decide) (by omega) (by omega) (by omega) (by omega) (tgt := 196) (fun c9 => absurd c9 (by omega)) (fun _ => ?_)
                              refine n_aload_n C dX6_hunk_168 0 rfl rfl ?_
                              refine n_get (k9 := 12) C dX6_hunk_169 (by omega) qh40 hX6_hunk_X6 rfl (by decide) kX6_hunk_28 rfl ?_
                              refine n_iload C dX6_hunk_172 6 rfl ?_
                              refine n_iald (j := j) C dX6_hunk_174 (by omega) qh42 (by omega) (by omega) (by omega) ?_
                              refine n_topI (y := (iI (plI ls (j : Int)))) (qp) ?_
                              refine n_aload_n C dX6_hunk_175 0 rfl rfl ?_
                              refine n_get (k9 := 11) C dX6_hunk_176 (by omega) qh40 hX6_hunk_X6 rfl (by decide) kX6_hunk_25 rfl ?_
                              refine n_iload C dX6_hunk_179 6 rfl ?_
                              refine n_iald (j := j) C dX6_hunk_181 (by omega) qh41 (by omega) (by omega) (by omega) ?_
                              refine n_topI (y := (iI 1)) (qk) ?_
                              refine n_if_ne C dX6_hunk_182 (by decide) (by omega) (by omega) (tgt := 189) (fun _ => ?_) (fun c9 => absurd c9 (by omega))
                              refine n_iconst C dX6_hunk_189 ?_
                              refine n_iadd C dX6_hunk_190 ?_
                              refine n_iload_n C dX6_hunk_191 1 rfl rfl ?_
                              refine n_iadd C dX6_hunk_192 ?_
                              refine n_goto (tgt := 198) C dX6_hunk_193 (by decide) ?_
                              refine n_istore (lv' := [(0, .ref (ad 53)), (1, .int (iI n)), (2, .int (iI (h : Int))), (3, .int (iI w9)), (4, .int (iI ((cB ls n (j + 1) : Int) - 1))), (5, .int (iI (((plI ls (j : Int)) + 0) + n))), (6, .int (iI (j : Int))), (7, .int (iI 0))]) C dX6_hunk_198 (by decide) rfl ?_
                              refine n_aload_n C dX6_hunk_200 0 rfl rfl ?_
                              refine n_get (k9 := 18) C dX6_hunk_201 (by omega) qh40 hX6_hunk_X6 rfl (by decide) kX6_hunk_43 rfl ?_
                              refine n_iconst C dX6_hunk_204 ?_
                              refine n_iload C dX6_hunk_205 4 rfl ?_
                              refine n_iload_n C dX6_hunk_207 2 rfl rfl ?_
                              refine n_icmp_ne C dX6_hunk_208 (by decide) (by omega) (by omega) (by omega) (by omega) (tgt := 233) (fun c9 => absurd c9 (by omega)) (fun _ => ?_)
                              refine n_aload_n C dX6_hunk_211 0 rfl rfl ?_
                              refine n_get (k9 := 11) C dX6_hunk_212 (by omega) qh40 hX6_hunk_X6 rfl (by decide) kX6_hunk_25 rfl ?_
                              refine n_iload C dX6_hunk_215 6 rfl ?_
                              refine n_iald (j := j) C dX6_hunk_217 (by omega) qh41 (by omega) (by omega) (by omega) ?_
                              refine n_topI (y := (iI 1)) (qk) ?_
                              refine n_iconst C dX6_hunk_218 ?_
                              refine n_icmp_ne C dX6_hunk_219 (by decide) (by omega) (by omega) (by omega) (by omega) (tgt := 233) (fun c9 => absurd c9 (by omega)) (fun _ => ?_)
                              refine n_aload_n C dX6_hunk_222 0 rfl rfl ?_
                              refine n_get (k9 := 18) C dX6_hunk_223 (by omega) qh40 hX6_hunk_X6 rfl (by decide) kX6_hunk_43 rfl ?_
                              refine n_iconst C dX6_hunk_226 ?_
                              refine n_iald (j := 2) C dX6_hunk_227 (by omega) hs38 (by omega) (by omega) (by omega) ?_
                              refine n_topI (y := (iI (cM ls false r r2 j : Int))) (by simp [upd, hf2]) ?_
                              refine n_iconst C dX6_hunk_228 ?_
                              refine n_iadd C dX6_hunk_229 ?_
                              refine n_goto (tgt := 239) C dX6_hunk_230 (by decide) ?_
                              refine n_iast (j := 2) C dX6_hunk_239 (by omega) hs38 (by omega) (by omega) (by omega) (fun e43 hs44 ho45 => ?_)
                              have qh46 := (ho45 53 (by decide)).trans qh40
                              have qh47 := (ho45 59 (by decide)).trans qh41
                              have qh48 := (ho45 60 (by decide)).trans qh42
                              refine n_aload_n C dX6_hunk_240 0 rfl rfl ?_
                              refine n_get (k9 := 18) C dX6_hunk_241 (by omega) qh46 hX6_hunk_X6 rfl (by decide) kX6_hunk_43 rfl ?_
                              refine n_iconst C dX6_hunk_244 ?_
                              refine n_iload C dX6_hunk_245 4 rfl ?_
                              refine n_iload_n C dX6_hunk_247 2 rfl rfl ?_
                              refine n_icmp_ne C dX6_hunk_248 (by decide) (by omega) (by omega) (by omega) (by omega) (tgt := 272) (fun c9 => absurd c9 (by omega)) (fun _ => ?_)
                              refine n_aload_n C dX6_hunk_251 0 rfl rfl ?_
                              refine n_get (k9 := 11) C dX6_hunk_252 (by omega) qh46 hX6_hunk_X6 rfl (by decide) kX6_hunk_25 rfl ?_
                              refine n_iload C dX6_hunk_255 6 rfl ?_
                              refine n_iald (j := j) C dX6_hunk_257 (by omega) qh47 (by omega) (by omega) (by omega) ?_
                              refine n_topI (y := (iI 1)) (qk) ?_
                              refine n_if_ne C dX6_hunk_258 (by decide) (by omega) (by omega) (tgt := 272) (fun _ => ?_) (fun c9 => absurd c9 (by omega))
                              refine n_aload_n C dX6_hunk_272 0 rfl rfl ?_
                              refine n_get (k9 := 18) C dX6_hunk_273 (by omega) qh46 hX6_hunk_X6 rfl (by decide) kX6_hunk_43 rfl ?_
                              refine n_iconst C dX6_hunk_276 ?_
                              refine n_iald (j := 3) C dX6_hunk_277 (by omega) hs44 (by omega) (by omega) (by omega) ?_
                              refine n_topI (y := (iI (cM ls true r r2 j : Int))) (by simp [upd, hf3]) ?_
                              refine n_iast (j := 3) C dX6_hunk_278 (by omega) hs44 (by omega) (by omega) (by omega) (fun e49 hs50 ho51 => ?_)
                              have qh52 := (ho51 53 (by decide)).trans qh46
                              have qh53 := (ho51 59 (by decide)).trans qh47
                              have qh54 := (ho51 60 (by decide)).trans qh48
                              refine n_iinc (lv' := [(0, .ref (ad 53)), (1, .int (iI n)), (2, .int (iI (h : Int))), (3, .int (iI w9)), (4, .int (iI ((cB ls n (j + 1) : Int) - 1))), (5, .int (iI (((plI ls (j : Int)) + 0) + n))), (6, .int (iI ((j : Int) + 1))), (7, .int (iI 0))]) C dX6_hunk_279 6 rfl (by decide) rfl ?_
                              refine n_goto (tgt := 69) C dX6_hunk_282 (by decide) ?_
                              have hF9 : Fr e49 ex (fun j => j = 65) := fun j hj => (ho51 j hj).trans ((ho45 j hj).trans (ho39 j hj))
                              refine n_sub (lv2 := [(0, .ref (ad 53)), (1, .int (iI n)), (2, .int (iI (h : Int))), (3, .int (iI w9)), (4, .int (iI ((cB ls n (j + 1) : Int) - 1))), (5, .int (iI (((plI ls (j : Int)) + 0) + n))), (6, .int (iI ((j : Int) + 1)))]) [0, 1, 2, 3, 4, 5, 6] rfl ?_
                              refine n_lv (lv2 := [(0, .ref (ad 53)), (1, .int (iI n)), (2, .int (iI (h : Int))), (3, .int (iI w9)), (4, .int (iI ((cB ls n (j + 1) : Int) - 1))), (5, .int (iI (((plI ls (j : Int)) + 0) + n))), (6, .int (iI ((j + 1 : Nat) : Int)))]) (by simp) ?_
                              exact ih (j + 1) (((plI ls (j : Int)) + 0) + n) _ e49 (by omega) (by omega) ⟨fun _ => by rw [show min (j + 1 - 1) r2 = j by omega, qb9], by omega, by omega⟩ ((hF9 53 (by omega)).trans k53) hs50 (fun h9 => by simp [upd, hf0 (show r < j by omega)]) (by rw [show cM ls false r r2 (j + 1) = cM ls false r r2 j + 1 from e2]; simp [upd]) (by rw [show cM ls true r r2 (j + 1) = cM ls true r r2 j + 0 from e3]; simp [upd]) (fun i hi => (hF9 i hi).trans (hF i hi))
                            · have hjr : j = r := by omega
                              refine n_iconst C dX6_hunk_126 ?_
                              refine n_goto (tgt := 131) C dX6_hunk_127 (by decide) ?_
                              refine n_istore (lv' := [(0, .ref (ad 53)), (1, .int (iI n)), (2, .int (iI (h : Int))), (3, .int (iI w9)), (4, .int (iI ((cB ls n (j + 1) : Int) - 1))), (5, .int (iI la)), (6, .int (iI (j : Int))), (7, .int (iI 1))]) C dX6_hunk_131 (by decide) rfl ?_
                              refine n_aload_n C dX6_hunk_133 0 rfl rfl ?_
                              refine n_get (k9 := 18) C dX6_hunk_134 (by omega) k53 hX6_hunk_X6 rfl (by decide) kX6_hunk_43 rfl ?_
                              refine n_iconst C dX6_hunk_137 ?_
                              refine n_iload C dX6_hunk_138 7 rfl ?_
                              refine n_if_eq C dX6_hunk_140 (by decide) (by omega) (by omega) (tgt := 155) (fun c9 => absurd c9 (by omega)) (fun _ => ?_)
                              refine n_aload_n C dX6_hunk_143 0 rfl rfl ?_
                              refine n_get (k9 := 12) C dX6_hunk_144 (by omega) k53 hX6_hunk_X6 rfl (by decide) kX6_hunk_28 rfl ?_
                              refine n_iload C dX6_hunk_147 6 rfl ?_
                              refine n_iald (j := j) C dX6_hunk_149 (by omega) m3.2.1 (by omega) (by omega) (by omega) ?_
                              refine n_topI (y := (iI (plI ls (j : Int)))) (qp) ?_
                              refine n_iload_n C dX6_hunk_150 1 rfl rfl ?_
                              refine n_isub C dX6_hunk_151 ?_
                              refine n_goto (tgt := 161) C dX6_hunk_152 (by decide) ?_
                              refine n_iast (j := 0) C dX6_hunk_161 (by omega) k65 (by omega) (by omega) (by omega) (fun e55 hs56 ho57 => ?_)
                              have qh58 := (ho57 53 (by decide)).trans k53
                              have qh59 := (ho57 59 (by decide)).trans m3.1
                              have qh60 := (ho57 60 (by decide)).trans m3.2.1
                              refine n_iload C dX6_hunk_162 4 rfl ?_
                              refine n_iload_n C dX6_hunk_164 2 rfl rfl ?_
                              refine n_icmp_ne C dX6_hunk_165 (by decide) (by omega) (by omega) (by omega) (by omega) (tgt := 196) (fun c9 => absurd c9 (by omega)) (fun _ => ?_)
                              refine n_aload_n C dX6_hunk_168 0 rfl rfl ?_
                              refine n_get (k9 := 12) C dX6_hunk_169 (by omega) qh58 hX6_hunk_X6 rfl (by decide) kX6_hunk_28 rfl ?_
                              refine n_iload C dX6_hunk_172 6 rfl ?_
                              refine n_iald (j := j) C dX6_hunk_174 (by omega) qh60 (by omega) (by omega) (by omega) ?_
                              refine n_topI (y := (iI (plI ls (j : Int)))) (qp) ?_
                              refine n_aload_n C dX6_hunk_175 0 rfl rfl ?_
                              refine n_get (k9 := 11) C dX6_hunk_176 (by omega) qh58 hX6_hunk_X6 rfl (by decide) kX6_hunk_25 rfl ?_
                              refine n_iload C dX6_hunk_179 6 rfl ?_
                              refine n_iald (j := j) C dX6_hunk_181 (by omega) qh59 (by omega) (by omega) (by omega) ?_
                              refine n_topI (y := (iI 1)) (qk) ?_
                              refine n_if_ne C dX6_hunk_182 (by decide) (by omega) (by omega) (tgt := 189) (fun _ => ?_) (fun c9 => absurd c9 (by omega))
                              refine n_iconst C dX6_hunk_189 ?_
                              refine n_iadd C dX6_hunk_190 ?_
                              refine n_iload_n C dX6_hunk_191 1 rfl rfl ?_
                              refine n_iadd C dX6_hunk_192 ?_
                              refine n_goto (tgt := 198) C dX6_hunk_193 (by decide) ?_
                              refine n_istore (lv' := [(0, .ref (ad 53)), (1, .int (iI n)), (2, .int (iI (h : Int))), (3, .int (iI w9)), (4, .int (iI ((cB ls n (j + 1) : Int) - 1))), (5, .int (iI (((plI ls (j : Int)) + 0) + n))), (6, .int (iI (j : Int))), (7, .int (iI 1))]) C dX6_hunk_198 (by decide) rfl ?_
                              refine n_aload_n C dX6_hunk_200 0 rfl rfl ?_
                              refine n_get (k9 := 18) C dX6_hunk_201 (by omega) qh58 hX6_hunk_X6 rfl (by decide) kX6_hunk_43 rfl ?_
                              refine n_iconst C dX6_hunk_204 ?_
                              refine n_iload C dX6_hunk_205 4 rfl ?_
                              refine n_iload_n C dX6_hunk_207 2 rfl rfl ?_
                              refine n_icmp_ne C dX6_hunk_208 (by decide) (by omega) (by omega) (by omega) (by omega) (tgt := 233) (fun c9 => absurd c9 (by omega)) (fun _ => ?_)
                              refine n_aload_n C dX6_hunk_211 0 rfl rfl ?_
                              refine n_get (k9 := 11) C dX6_hunk_212 (by omega) qh58 hX6_hunk_X6 rfl (by decide) kX6_hunk_25 rfl ?_
                              refine n_iload C dX6_hunk_215 6 rfl ?_
                              refine n_iald (j := j) C dX6_hunk_217 (by omega) qh59 (by omega) (by omega) (by omega) ?_
                              refine n_topI (y := (iI 1)) (qk) ?_
                              refine n_iconst C dX6_hunk_218 ?_
                              refine n_icmp_ne C dX6_hunk_219 (by decide) (by omega) (by omega) (by omega) (by omega) (tgt := 233) (fun c9 => absurd c9 (by omega)) (fun _ => ?_)
                              refine n_aload_n C dX6_hunk_222 0 rfl rfl ?_
                              refine n_get (k9 := 18) C dX6_hunk_223 (by omega) qh58 hX6_hunk_X6 rfl (by decide) kX6_hunk_43 rfl ?_
                              refine n_iconst C dX6_hunk_226 ?_
                              refine n_iald (j := 2) C dX6_hunk_227 (by omega) hs56 (by omega) (by omega) (by omega) ?_
                              refine n_topI (y := (iI (cM ls false r r2 j : Int))) (by simp [upd, hf2]) ?_
                              refine n_iconst C dX6_hunk_228 ?_
                              refine n_iadd C dX6_hunk_229 ?_
                              refine n_goto (tgt := 239) C dX6_hunk_230 (by decide) ?_
                              refine n_iast (j := 2) C dX6_hunk_239 (by omega) hs56 (by omega) (by omega) (by omega) (fun e61 hs62 ho63 => ?_)
                              have qh64 := (ho63 53 (by decide)).trans qh58
                              have qh65 := (ho63 59 (by decide)).trans qh59
                              have qh66 := (ho63 60 (by decide)).trans qh60
                              refine n_aload_n C dX6_hunk_240 0 rfl rfl ?_
                              refine n_get (k9 := 18) C dX6_hunk_241 (by omega) qh64 hX6_hunk_X6 rfl (by decide) kX6_hunk_43 rfl ?_
                              refine n_iconst C dX6_hunk_244 ?_
                              refine n_iload C dX6_hunk_245 4 rfl ?_
                              refine n_iload_n C dX6_hunk_247 2 rfl rfl ?_
                              refine n_icmp_ne C dX6_hunk_248 (by decide) (by omega) (by omega) (by omega) (by omega) (tgt := 272) (fun c9 => absurd c9 (by omega)) (fun _ => ?_)
                              refine n_aload_n C dX6_hunk_251 0 rfl rfl ?_
                              refine n_get (k9 := 11) C dX6_hunk_252 (by omega) qh64 hX6_hunk_X6 rfl (by decide) kX6_hunk_25 rfl ?_
                              refine n_iload C dX6_hunk_255 6 rfl ?_
                              refine n_iald (j := j) C dX6_hunk_257 (by omega) qh65 (by omega) (by omega) (by omega) ?_
                              refine n_topI (y := (iI 1)) (qk) ?_
                              refine n_if_ne C dX6_hunk_258 (by decide) (by omega) (by omega) (tgt := 272) (fun _ => ?_) (fun c9 => absurd c9 (by omega))
                              refine n_aload_n C dX6_hunk_272 0 rfl rfl ?_
                              refine n_get (k9 := 18) C dX6_hunk_273 (by omega) qh64 hX6_hunk_X6 rfl (by decide) kX6_hunk_43 rfl ?_
                              refine n_iconst C dX6_hunk_276 ?_
                              refine n_iald (j := 3) C dX6_hunk_277 (by omega) hs62 (by omega) (by omega) (by omega) ?_
                              refine n_topI (y := (iI (cM ls true r r2 j : Int))) (by simp [upd, hf3]) ?_
                              refine n_iast (j := 3) C dX6_hunk_278 (by omega) hs62 (by omega) (by omega) (by omega) (fun e67 hs68 ho69 => ?_)
                              have qh70 := (ho69 53 (by decide)).trans qh64
                              have qh71 := (ho69 59 (by decide)).trans qh65
                              have qh72 := (ho69 60 (by decide)).trans qh66
                              refine n_iinc (lv' := [(0, .ref (ad 53)), (1, .int (iI n)), (2, .int (iI (h : Int))), (3, .int (iI w9)), (4, .int (iI ((cB ls n (j + 1) : Int) - 1))), (5, .int (iI (((plI ls (j : Int)) + 0) + n))), (6, .int (iI ((j : Int) + 1))), (7, .int (iI 1))]) C dX6_hunk_279 6 rfl (by decide) rfl ?_
                              refine n_goto (tgt := 69) C dX6_hunk_282 (by decide) ?_
                              have hF9 : Fr e67 ex (fun j => j = 65) := fun j hj => (ho69 j hj).trans ((ho63 j hj).trans (ho57 j hj))
                              refine n_sub (lv2 := [(0, .ref (ad 53)), (1, .int (iI n)), (2, .int (iI (h : Int))), (3, .int (iI w9)), (4, .int (iI ((cB ls n (j + 1) : Int) - 1))), (5, .int (iI (((plI ls (j : Int)) + 0) + n))), (6, .int (iI ((j : Int) + 1)))]) [0, 1, 2, 3, 4, 5, 6] rfl ?_
                              refine n_lv (lv2 := [(0, .ref (ad 53)), (1, .int (iI n)), (2, .int (iI (h : Int))), (3, .int (iI w9)), (4, .int (iI ((cB ls n (j + 1) : Int) - 1))), (5, .int (iI (((plI ls (j : Int)) + 0) + n))), (6, .int (iI ((j + 1 : Nat) : Int)))]) (by simp) ?_
                              exact ih (j + 1) (((plI ls (j : Int)) + 0) + n) _ e67 (by omega) (by omega) ⟨fun _ => by rw [show min (j + 1 - 1) r2 = j by omega, qb9], by omega, by omega⟩ ((hF9 53 (by omega)).trans k53) hs68 (fun h9 => by rw [← hjr]; simp [upd]) (by rw [show cM ls false r r2 (j + 1) = cM ls false r r2 j + 1 from e2]; simp [upd]) (by rw [show cM ls true r r2 (j + 1) = cM ls true r r2 j + 0 from e3]; simp [upd]) (fun i hi => (hF9 i hi).trans (hF i hi))
                          · rw [hd] at qk qb
                            have e2 : cM ls false r r2 (j + 1) = cM ls false r r2 j + 0 := by rw [cM_in ht hc.1 hc.2, hd]; rfl
                            have e3 : cM ls true r r2 (j + 1) = cM ls true r r2 j + 1 := by rw [cM_in ht hc.1 hc.2, hd]; rfl
                            have qb9 : bhI ls (j : Int) = plI ls (j : Int) + 1 := by rw [qb]; simp
                            refine n_iload C dX6_hunk_104 4 rfl ?_
                            refine n_iload_n C dX6_hunk_106 2 rfl rfl ?_
                            refine n_icmp_ne C dX6_hunk_107 (by decide) (by omega) (by omega) (by omega) (by omega) (tgt := 130) (fun c9 => absurd c9 (by omega)) (fun _ => ?_)
                            refine n_aload_n C dX6_hunk_110 0 rfl rfl ?_
                            refine n_get (k9 := 18) C dX6_hunk_111 (by omega) k53 hX6_hunk_X6 rfl (by decide) kX6_hunk_43 rfl ?_
                            refine n_iconst C dX6_hunk_114 ?_
                            refine n_iald (j := 2) C dX6_hunk_115 (by omega) k65 (by omega) (by omega) (by omega) ?_
                            refine n_topI (y := (iI (cM ls false r r2 j : Int))) (hf2) ?_
                            refine n_aload_n C dX6_hunk_116 0 rfl rfl ?_
                            refine n_get (k9 := 18) C dX6_hunk_117 (by omega) k53 hX6_hunk_X6 rfl (by decide) kX6_hunk_43 rfl ?_
                            refine n_iconst C dX6_hunk_120 ?_
                            refine n_iald (j := 3) C dX6_hunk_121 (by omega) k65 (by omega) (by omega) (by omega) ?_
                            refine n_topI (y := (iI (cM ls true r r2 j : Int))) (hf3) ?_
                            refine n_iadd C dX6_hunk_122 ?_
                            refine n_if_ne C dX6_hunk_123 (by decide) (by omega) (by omega) (tgt := 130) (fun c12 => ?_) (fun c12 => ?_)
                            · refine n_iconst C dX6_hunk_130 ?_
                              refine n_istore (lv' := [(0, .ref (ad 53)), (1, .int (iI n)), (2, .int (iI (h : Int))), (3, .int (iI w9)), (4, .int (iI ((cB ls n (j + 1) : Int) - 1))), (5, .int (iI la)), (6, .int (iI (j : Int))), (7, .int (iI 0))]) C dX6_hunk_131 (by decide) rfl ?_
                              refine n_aload_n C dX6_hunk_133 0 rfl rfl ?_
                              refine n_get (k9 := 18) C dX6_hunk_134 (by omega) k53 hX6_hunk_X6 rfl (by decide) kX6_hunk_43 rfl ?_
                              refine n_iconst C dX6_hunk_137 ?_
                              refine n_iload C dX6_hunk_138 7 rfl ?_
                              refine n_if_eq C dX6_hunk_140 (by decide) (by omega) (by omega) (tgt := 155) (fun _ => ?_) (fun c9 => absurd c9 (by omega))
                              refine n_aload_n C dX6_hunk_155 0 rfl rfl ?_
                              refine n_get (k9 := 18) C dX6_hunk_156 (by omega) k53 hX6_hunk_X6 rfl (by decide) kX6_hunk_43 rfl ?_
                              refine n_iconst C dX6_hunk_159 ?_
                              refine n_iald (j := 0) C dX6_hunk_160 (by omega) k65 (by omega) (by omega) (by omega) ?_
                              refine n_iast (j := 0) C dX6_hunk_161 (by omega) k65 (by omega) (by omega) (by omega) (fun e73 hs74 ho75 => ?_)
                              have qh76 := (ho75 53 (by decide)).trans k53
                              have qh77 := (ho75 59 (by decide)).trans m3.1
                              have qh78 := (ho75 60 (by decide)).trans m3.2.1
                              refine n_iload C dX6_hunk_162 4 rfl ?_
                              refine n_iload_n C dX6_hunk_164 2 rfl rfl ?_
                              refine n_icmp_ne C dX6_hunk_165 (by decide) (by omega) (by omega) (by omega) (by omega) (tgt := 196) (fun c9 => absurd c9 (by omega)) (fun _ => ?_)
                              refine n_aload_n C dX6_hunk_168 0 rfl rfl ?_
                              refine n_get (k9 := 12) C dX6_hunk_169 (by omega) qh76 hX6_hunk_X6 rfl (by decide) kX6_hunk_28 rfl ?_
                              refine n_iload C dX6_hunk_172 6 rfl ?_
                              refine n_iald (j := j) C dX6_hunk_174 (by omega) qh78 (by omega) (by omega) (by omega) ?_
                              refine n_topI (y := (iI (plI ls (j : Int)))) (qp) ?_
                              refine n_aload_n C dX6_hunk_175 0 rfl rfl ?_
                              refine n_get (k9 := 11) C dX6_hunk_176 (by omega) qh76 hX6_hunk_X6 rfl (by decide) kX6_hunk_25 rfl ?_
                              refine n_iload C dX6_hunk_179 6 rfl ?_
                              refine n_iald (j := j) C dX6_hunk_181 (by omega) qh77 (by omega) (by omega) (by omega) ?_
                              refine n_topI (y := (iI 0)) (qk) ?_
                              refine n_if_ne C dX6_hunk_182 (by decide) (by omega) (by omega) (tgt := 189) (fun c9 => absurd c9 (by omega)) (fun _ => ?_)
                              refine n_iconst C dX6_hunk_185 ?_
                              refine n_goto (tgt := 190) C dX6_hunk_186 (by decide) ?_
                              refine n_iadd C dX6_hunk_190 ?_
                              refine n_iload_n C dX6_hunk_191 1 rfl rfl ?_
                              refine n_iadd C dX6_hunk_192 ?_
                              refine n_goto (tgt := 198) C dX6_hunk_193 (by decide) ?_
                              refine n_istore (lv' := [(0, .ref (ad 53)), (1, .int (iI n)), (2, .int (iI (h : Int))), (3, .int (iI w9)), (4, .int (iI ((cB ls n (j + 1) : Int) - 1))), (5, .int (iI (((plI ls (j : Int)) + 1) + n))), (6, .int (iI (j : Int))), (7, .int (iI 0))]) C dX6_hunk_198 (by decide) rfl ?_
                              refine n_aload_n C dX6_hunk_200 0 rfl rfl ?_
                              refine n_get (k9 := 18) C dX6_hunk_201 (by omega) qh76 hX6_hunk_X6 rfl (by decide) kX6_hunk_43 rfl ?_
                              refine n_iconst C dX6_hunk_204 ?_
                              refine n_iload C dX6_hunk_205 4 rfl ?_
                              refine n_iload_n C dX6_hunk_207 2 rfl rfl ?_
                              refine n_icmp_ne C dX6_hunk_208 (by decide) (by omega) (by omega) (by omega) (by omega) (tgt := 233) (fun c9 => absurd c9 (by omega)) (fun _ => ?_)
                              refine n_aload_n C dX6_hunk_211 0 rfl rfl ?_
                              refine n_get (k9 := 11) C dX6_hunk_212 (by omega) qh76 hX6_hunk_X6 rfl (by decide) kX6_hunk_25 rfl ?_
                              refine n_iload C dX6_hunk_215 6 rfl ?_
                              refine n_iald (j := j) C dX6_hunk_217 (by omega) qh77 (by omega) (by omega) (by omega) ?_
                              refine n_topI (y := (iI 0)) (qk) ?_
                              refine n_iconst C dX6_hunk_218 ?_
                              refine n_icmp_ne C dX6_hunk_219 (by decide) (by omega) (by omega) (by omega) (by omega) (tgt := 233) (fun _ => ?_) (fun c9 => absurd c9 (by omega))
                              refine n_aload_n C dX6_hunk_233 0 rfl rfl ?_
                              refine n_get (k9 := 18) C dX6_hunk_234 (by omega) qh76 hX6_hunk_X6 rfl (by decide) kX6_hunk_43 rfl ?_
                              refine n_iconst C dX6_hunk_237 ?_
                              refine n_iald (j := 2) C dX6_hunk_238 (by omega) hs74 (by omega) (by omega) (by omega) ?_
                              refine n_topI (y := (iI (cM ls false r r2 j : Int))) (by simp [upd, hf2]) ?_
                              refine n_iast (j := 2) C dX6_hunk_239 (by omega) hs74 (by omega) (by omega) (by omega) (fun e79 hs80 ho81 => ?_)
                              have qh82 := (ho81 53 (by decide)).trans qh76
                              have qh83 := (ho81 59 (by decide)).trans qh77
                              have qh84 := (ho81 60 (by decide)).trans qh78
                              refine n_aload_n C dX6_hunk_240 0 rfl rfl ?_
                              refine n_get (k9 := 18) C dX6_hunk_241 (by omega) qh82 hX6_hunk_X6 rfl (by decide) kX6_hunk_43 rfl ?_
                              refine n_iconst C dX6_hunk_244 ?_
                              refine n_iload C dX6_hunk_245 4 rfl ?_
                              refine n_iload_n C dX6_hunk_247 2 rfl rfl ?_
                              refine n_icmp_ne C dX6_hunk_248 (by decide) (by omega) (by omega) (by omega) (by omega) (tgt := 272) (fun c9 => absurd c9 (by omega)) (fun _ => ?_)
                              refine n_aload_n C dX6_hunk_251 0 rfl rfl ?_
                              refine n_get (k9 := 11) C dX6_hunk_252 (by omega) qh82 hX6_hunk_X6 rfl (by decide) kX6_hunk_25 rfl ?_
                              refine n_iload C dX6_hunk_255 6 rfl ?_
                              refine n_iald (j := j) C dX6_hunk_257 (by omega) qh83 (by omega) (by omega) (by omega) ?_
                              refine n_topI (y := (iI 0)) (qk) ?_
                              refine n_if_ne C dX6_hunk_258 (by decide) (by omega) (by omega) (tgt := 272) (fun c9 => absurd c9 (by omega)) (fun _ => ?_)
                              refine n_aload_n C dX6_hunk_261 0 rfl rfl ?_
                              refine n_get (k9 := 18) C dX6_hunk_262 (by omega) qh82 hX6_hunk_X6 rfl (by decide) kX6_hunk_43 rfl ?_
                              refine n_iconst C dX6_hunk_265 ?_
                              refine n_iald (j := 3) C dX6_hunk_266 (by omega) hs80 (by omega) (by omega) (by omega) ?_
                              refine n_topI (y := (iI (cM ls true r r2 j : Int))) (by simp [upd, hf3]) ?_
                              refine n_iconst C dX6_hunk_267 ?_
                              refine n_iadd C dX6_hunk_268 ?_
                              refine n_goto (tgt := 278) C dX6_hunk_269 (by decide) ?_
                              refine n_iast (j := 3) C dX6_hunk_278 (by omega) hs80 (by omega) (by omega) (by omega) (fun e85 hs86 ho87 => ?_)
                              have qh88 := (ho87 53 (by decide)).trans qh82
                              have qh89 := (ho87 59 (by decide)).trans qh83
                              have qh90 := (ho87 60 (by decide)).trans qh84
                              refine n_iinc (lv' := [(0, .ref (ad 53)), (1, .int (iI n)), (2, .int (iI (h : Int))), (3, .int (iI w9)), (4, .int (iI ((cB ls n (j + 1) : Int) - 1))), (5, .int (iI (((plI ls (j : Int)) + 1) + n))), (6, .int (iI ((j : Int) + 1))), (7, .int (iI 0))]) C dX6_hunk_279 6 rfl (by decide) rfl ?_
                              refine n_goto (tgt := 69) C dX6_hunk_282 (by decide) ?_
                              have hF9 : Fr e85 ex (fun j => j = 65) := fun j hj => (ho87 j hj).trans ((ho81 j hj).trans (ho75 j hj))
                              refine n_sub (lv2 := [(0, .ref (ad 53)), (1, .int (iI n)), (2, .int (iI (h : Int))), (3, .int (iI w9)), (4, .int (iI ((cB ls n (j + 1) : Int) - 1))), (5, .int (iI (((plI ls (j : Int)) + 1) + n))), (6, .int (iI ((j : Int) + 1)))]) [0, 1, 2, 3, 4, 5, 6] rfl ?_
                              refine n_lv (lv2 := [(0, .ref (ad 53)), (1, .int (iI n)), (2, .int (iI (h : Int))), (3, .int (iI w9)), (4, .int (iI ((cB ls n (j + 1) : Int) - 1))), (5, .int (iI (((plI ls (j : Int)) + 1) + n))), (6, .int (iI ((j + 1 : Nat) : Int)))]) (by simp) ?_
                              exact ih (j + 1) (((plI ls (j : Int)) + 1) + n) _ e85 (by omega) (by omega) ⟨fun _ => by rw [show min (j + 1 - 1) r2 = j by omega, qb9], by omega, by omega⟩ ((hF9 53 (by omega)).trans k53) hs86 (fun h9 => by simp [upd, hf0 (show r < j by omega)]) (by rw [show cM ls false r r2 (j + 1) = cM ls false r r2 j + 0 from e2]; simp [upd]) (by rw [show cM ls true r r2 (j + 1) = cM ls true r r2 j + 1 from e3]; simp [upd]) (fun i hi => (hF9 i hi).trans (hF i hi))
                            · have hjr : j = r := by omega
                              refine n_iconst C dX6_hunk_126 ?_
                              refine n_goto (tgt := 131) C dX6_hunk_127 (by decide) ?_
                              refine n_istore (lv' := [(0, .ref (ad 53)), (1, .int (iI n)), (2, .int (iI (h : Int))), (3, .int (iI w9)), (4, .int (iI ((cB ls n (j + 1) : Int) - 1))), (5, .int (iI la)), (6, .int (iI (j : Int))), (7, .int (iI 1))]) C dX6_hunk_131 (by decide) rfl ?_
                              refine n_aload_n C dX6_hunk_133 0 rfl rfl ?_
                              refine n_get (k9 := 18) C dX6_hunk_134 (by omega) k53 hX6_hunk_X6 rfl (by decide) kX6_hunk_43 rfl ?_
                              refine n_iconst C dX6_hunk_137 ?_
                              refine n_iload C dX6_hunk_138 7 rfl ?_
                              refine n_if_eq C dX6_hunk_140 (by decide) (by omega) (by omega) (tgt := 155) (fun c9 => absurd c9 (by omega)) (fun _ => ?_)
                              refine n_aload_n C dX6_hunk_143 0 rfl rfl ?_
                              refine n_get (k9 := 12) C dX6_hunk_144 (by omega) k53 hX6_hunk_X6 rfl (by decide) kX6_hunk_28 rfl ?_
                              refine n_iload C dX6_hunk_147 6 rfl ?_
                              refine n_iald (j := j) C dX6_hunk_149 (by omega) m3.2.1 (by omega) (by omega) (by omega) ?_
                              refine n_topI (y := (iI (plI ls (j : Int)))) (qp) ?_
                              refine n_iload_n C dX6_hunk_150 1 rfl rfl ?_
                              refine n_isub C dX6_hunk_151 ?_
                              refine n_goto (tgt := 161) C dX6_hunk_152 (by decide) ?_
                              refine n_iast (j := 0) C dX6_hunk_161 (by omega) k65 (by omega) (by omega) (by omega) (fun e91 hs92 ho93 => ?_)
                              have qh94 := (ho93 53 (by decide)).trans k53
                              have qh95 := (ho93 59 (by decide)).trans m3.1
                              have qh96 := (ho93 60 (by decide)).trans m3.2.1
                              refine n_iload C dX6_hunk_162 4 rfl ?_
                              refine n_iload_n C dX6_hunk_164 2 rfl rfl ?_
                              refine n_icmp_ne C dX6_hunk_165 (by decide) (by omega) (by omega) (by omega) (by omega) (tgt := 196) (fun c9 => absurd c9 (by omega)) (fun _ => ?_)
                              refine n_aload_n C dX6_hunk_168 0 rfl rfl ?_
                              refine n_get (k9 := 12) C dX6_hunk_169 (by omega) qh94 hX6_hunk_X6 rfl (by decide) kX6_hunk_28 rfl ?_
                              refine n_iload C dX6_hunk_172 6 rfl ?_
                              refine n_iald (j := j) C dX6_hunk_174 (by omega) qh96 (by omega) (by omega) (by omega) ?_
                              refine n_topI (y := (iI (plI ls (j : Int)))) (qp) ?_
                              refine n_aload_n C dX6_hunk_175 0 rfl rfl ?_
                              refine n_get (k9 := 11) C dX6_hunk_176 (by omega) qh94 hX6_hunk_X6 rfl (by decide) kX6_hunk_25 rfl ?_
                              refine n_iload C dX6_hunk_179 6 rfl ?_
                              refine n_iald (j := j) C dX6_hunk_181 (by omega) qh95 (by omega) (by omega) (by omega) ?_
                              refine n_topI (y := (iI 0)) (qk) ?_
                              refine n_if_ne C dX6_hunk_182 (by decide) (by omega) (by omega) (tgt := 189) (fun c9 => absurd c9 (by omega)) (fun _ => ?_)
                              refine n_iconst C dX6_hunk_185 ?_
                              refine n_goto (tgt := 190) C dX6_hunk_186 (by decide) ?_
                              refine n_iadd C dX6_hunk_190 ?_
                              refine n_iload_n C dX6_hunk_191 1 rfl rfl ?_
                              refine n_iadd C dX6_hunk_192 ?_
                              refine n_goto (tgt := 198) C dX6_hunk_193 (by decide) ?_
                              refine n_istore (lv' := [(0, .ref (ad 53)), (1, .int (iI n)), (2, .int (iI (h : Int))), (3, .int (iI w9)), (4, .int (iI ((cB ls n (j + 1) : Int) - 1))), (5, .int (iI (((plI ls (j : Int)) + 1) + n))), (6, .int (iI (j : Int))), (7, .int (iI 1))]) C dX6_hunk_198 (by decide) rfl ?_
                              refine n_aload_n C dX6_hunk_200 0 rfl rfl ?_
                              refine n_get (k9 := 18) C dX6_hunk_201 (by omega) qh94 hX6_hunk_X6 rfl (by decide) kX6_hunk_43 rfl ?_
                              refine n_iconst C dX6_hunk_204 ?_
                              refine n_iload C dX6_hunk_205 4 rfl ?_
                              refine n_iload_n C dX6_hunk_207 2 rfl rfl ?_
                              refine n_icmp_ne C dX6_hunk_208 (by decide) (by omega) (by omega) (by omega) (by omega) (tgt := 233) (fun c9 => absurd c9 (by omega)) (fun _ => ?_)
                              refine n_aload_n C dX6_hunk_211 0 rfl rfl ?_
                              refine n_get (k9 := 11) C dX6_hunk_212 (by omega) qh94 hX6_hunk_X6 rfl (by decide) kX6_hunk_25 rfl ?_
                              refine n_iload C dX6_hunk_215 6 rfl ?_
                              refine n_iald (j := j) C dX6_hunk_217 (by omega) qh95 (by omega) (by omega) (by omega) ?_
                              refine n_topI (y := (iI 0)) (qk) ?_
                              refine n_iconst C dX6_hunk_218 ?_
                              refine n_icmp_ne C dX6_hunk_219 (by decide) (by omega) (by omega) (by omega) (by omega) (tgt := 233) (fun _ => ?_) (fun c9 => absurd c9 (by omega))
                              refine n_aload_n C dX6_hunk_233 0 rfl rfl ?_
                              refine n_get (k9 := 18) C dX6_hunk_234 (by omega) qh94 hX6_hunk_X6 rfl (by decide) kX6_hunk_43 rfl ?_
                              refine n_iconst C dX6_hunk_237 ?_
                              refine n_iald (j := 2) C dX6_hunk_238 (by omega) hs92 (by omega) (by omega) (by omega) ?_
                              refine n_topI (y := (iI (cM ls false r r2 j : Int))) (by simp [upd, hf2]) ?_
                              refine n_iast (j := 2) C dX6_hunk_239 (by omega) hs92 (by omega) (by omega) (by omega) (fun e97 hs98 ho99 => ?_)
                              have qh100 := (ho99 53 (by decide)).trans qh94
                              have qh101 := (ho99 59 (by decide)).trans qh95
                              have qh102 := (ho99 60 (by decide)).trans qh96
                              refine n_aload_n C dX6_hunk_240 0 rfl rfl ?_
                              refine n_get (k9 := 18) C dX6_hunk_241 (by omega) qh100 hX6_hunk_X6 rfl (by decide) kX6_hunk_43 rfl ?_
                              refine n_iconst C dX6_hunk_244 ?_
                              refine n_iload C dX6_hunk_245 4 rfl ?_
                              refine n_iload_n C dX6_hunk_247 2 rfl rfl ?_
                              refine n_icmp_ne C dX6_hunk_248 (by decide) (by omega) (by omega) (by omega) (by omega) (tgt := 272) (fun c9 => absurd c9 (by omega)) (fun _ => ?_)
                              refine n_aload_n C dX6_hunk_251 0 rfl rfl ?_
                              refine n_get (k9 := 11) C dX6_hunk_252 (by omega) qh100 hX6_hunk_X6 rfl (by decide) kX6_hunk_25 rfl ?_
                              refine n_iload C dX6_hunk_255 6 rfl ?_
                              refine n_iald (j := j) C dX6_hunk_257 (by omega) qh101 (by omega) (by omega) (by omega) ?_
                              refine n_topI (y := (iI 0)) (qk) ?_
                              refine n_if_ne C dX6_hunk_258 (by decide) (by omega) (by omega) (tgt := 272) (fun c9 => absurd c9 (by omega)) (fun _ => ?_)
                              refine n_aload_n C dX6_hunk_261 0 rfl rfl ?_
                              refine n_get (k9 := 18) C dX6_hunk_262 (by omega) qh100 hX6_hunk_X6 rfl (by decide) kX6_hunk_43 rfl ?_
                              refine n_iconst C dX6_hunk_265 ?_
                              refine n_iald (j := 3) C dX6_hunk_266 (by omega) hs98 (by omega) (by omega) (by omega) ?_
                              refine n_topI (y := (iI (cM ls true r r2 j : Int))) (by simp [upd, hf3]) ?_
                              refine n_iconst C dX6_hunk_267 ?_
                              refine n_iadd C dX6_hunk_268 ?_
                              refine n_goto (tgt := 278) C dX6_hunk_269 (by decide) ?_
                              refine n_iast (j := 3) C dX6_hunk_278 (by omega) hs98 (by omega) (by omega) (by omega) (fun e103 hs104 ho105 => ?_)
                              have qh106 := (ho105 53 (by decide)).trans qh100
                              have qh107 := (ho105 59 (by decide)).trans qh101
                              have qh108 := (ho105 60 (by decide)).trans qh102
                              refine n_iinc (lv' := [(0, .ref (ad 53)), (1, .int (iI n)), (2, .int (iI (h : Int))), (3, .int (iI w9)), (4, .int (iI ((cB ls n (j + 1) : Int) - 1))), (5, .int (iI (((plI ls (j : Int)) + 1) + n))), (6, .int (iI ((j : Int) + 1))), (7, .int (iI 1))]) C dX6_hunk_279 6 rfl (by decide) rfl ?_
                              refine n_goto (tgt := 69) C dX6_hunk_282 (by decide) ?_
                              have hF9 : Fr e103 ex (fun j => j = 65) := fun j hj => (ho105 j hj).trans ((ho99 j hj).trans (ho93 j hj))
                              refine n_sub (lv2 := [(0, .ref (ad 53)), (1, .int (iI n)), (2, .int (iI (h : Int))), (3, .int (iI w9)), (4, .int (iI ((cB ls n (j + 1) : Int) - 1))), (5, .int (iI (((plI ls (j : Int)) + 1) + n))), (6, .int (iI ((j : Int) + 1)))]) [0, 1, 2, 3, 4, 5, 6] rfl ?_
                              refine n_lv (lv2 := [(0, .ref (ad 53)), (1, .int (iI n)), (2, .int (iI (h : Int))), (3, .int (iI w9)), (4, .int (iI ((cB ls n (j + 1) : Int) - 1))), (5, .int (iI (((plI ls (j : Int)) + 1) + n))), (6, .int (iI ((j + 1 : Nat) : Int)))]) (by simp) ?_
                              exact ih (j + 1) (((plI ls (j : Int)) + 1) + n) _ e103 (by omega) (by omega) ⟨fun _ => by rw [show min (j + 1 - 1) r2 = j by omega, qb9], by omega, by omega⟩ ((hF9 53 (by omega)).trans k53) hs104 (fun h9 => by rw [← hjr]; simp [upd]) (by rw [show cM ls false r r2 (j + 1) = cM ls false r r2 j + 0 from e2]; simp [upd]) (by rw [show cM ls true r r2 (j + 1) = cM ls true r r2 j + 1 from e3]; simp [upd]) (fun i hi => (hF9 i hi).trans (hF i hi))
                        · have hcc : ¬ cB ls n (j + 1) = h + 1 := fun h9 => hc (hin.mp h9)
                          have e2 : cM ls false r r2 (j + 1) = cM ls false r r2 j := cM_out hr1 hc
                          have e3 : cM ls true r r2 (j + 1) = cM ls true r r2 j := cM_out hr1 hc
                          refine n_iload C dX6_hunk_104 4 rfl ?_
                          refine n_iload_n C dX6_hunk_106 2 rfl rfl ?_
                          refine n_icmp_ne C dX6_hunk_107 (by decide) (by omega) (by omega) (by omega) (by omega) (tgt := 130) (fun _ => ?_) (fun c9 => absurd c9 (by omega))
                          refine n_iconst C dX6_hunk_130 ?_
                          refine n_istore (lv' := [(0, .ref (ad 53)), (1, .int (iI n)), (2, .int (iI (h : Int))), (3, .int (iI w9)), (4, .int (iI ((cB ls n (j + 1) : Int) - 1))), (5, .int (iI la)), (6, .int (iI (j : Int))), (7, .int (iI 0))]) C dX6_hunk_131 (by decide) rfl ?_
                          refine n_aload_n C dX6_hunk_133 0 rfl rfl ?_
                          refine n_get (k9 := 18) C dX6_hunk_134 (by omega) k53 hX6_hunk_X6 rfl (by decide) kX6_hunk_43 rfl ?_
                          refine n_iconst C dX6_hunk_137 ?_
                          refine n_iload C dX6_hunk_138 7 rfl ?_
                          refine n_if_eq C dX6_hunk_140 (by decide) (by omega) (by omega) (tgt := 155) (fun _ => ?_) (fun c9 => absurd c9 (by omega))
                          refine n_aload_n C dX6_hunk_155 0 rfl rfl ?_
                          refine n_get (k9 := 18) C dX6_hunk_156 (by omega) k53 hX6_hunk_X6 rfl (by decide) kX6_hunk_43 rfl ?_
                          refine n_iconst C dX6_hunk_159 ?_
                          refine n_iald (j := 0) C dX6_hunk_160 (by omega) k65 (by omega) (by omega) (by omega) ?_
                          refine n_iast (j := 0) C dX6_hunk_161 (by omega) k65 (by omega) (by omega) (by omega) (fun e109 hs110 ho111 => ?_)
                          have qh112 := (ho111 53 (by decide)).trans k53
                          have qh113 := (ho111 59 (by decide)).trans m3.1
                          have qh114 := (ho111 60 (by decide)).trans m3.2.1
                          refine n_iload C dX6_hunk_162 4 rfl ?_
                          refine n_iload_n C dX6_hunk_164 2 rfl rfl ?_
                          refine n_icmp_ne C dX6_hunk_165 (by decide) (by omega) (by omega) (by omega) (by omega) (tgt := 196) (fun _ => ?_) (fun c9 => absurd c9 (by omega))
                          refine n_iload C dX6_hunk_196 5 rfl ?_
                          refine n_istore (lv' := [(0, .ref (ad 53)), (1, .int (iI n)), (2, .int (iI (h : Int))), (3, .int (iI w9)), (4, .int (iI ((cB ls n (j + 1) : Int) - 1))), (5, .int (iI la)), (6, .int (iI (j : Int))), (7, .int (iI 0))]) C dX6_hunk_198 (by decide) rfl ?_
                          refine n_aload_n C dX6_hunk_200 0 rfl rfl ?_
                          refine n_get (k9 := 18) C dX6_hunk_201 (by omega) qh112 hX6_hunk_X6 rfl (by decide) kX6_hunk_43 rfl ?_
                          refine n_iconst C dX6_hunk_204 ?_
                          refine n_iload C dX6_hunk_205 4 rfl ?_
                          refine n_iload_n C dX6_hunk_207 2 rfl rfl ?_
                          refine n_icmp_ne C dX6_hunk_208 (by decide) (by omega) (by omega) (by omega) (by omega) (tgt := 233) (fun _ => ?_) (fun c9 => absurd c9 (by omega))
                          refine n_aload_n C dX6_hunk_233 0 rfl rfl ?_
                          refine n_get (k9 := 18) C dX6_hunk_234 (by omega) qh112 hX6_hunk_X6 rfl (by decide) kX6_hunk_43 rfl ?_
                          refine n_iconst C dX6_hunk_237 ?_
                          refine n_iald (j := 2) C dX6_hunk_238 (by omega) hs110 (by omega) (by omega) (by omega) ?_
                          refine n_topI (y := (iI (cM ls false r r2 j : Int))) (by simp [upd, hf2]) ?_
                          refine n_iast (j := 2) C dX6_hunk_239 (by omega) hs110 (by omega) (by omega) (by omega) (fun e115 hs116 ho117 => ?_)
                          have qh118 := (ho117 53 (by decide)).trans qh112
                          have qh119 := (ho117 59 (by decide)).trans qh113
                          have qh120 := (ho117 60 (by decide)).trans qh114
                          refine n_aload_n C dX6_hunk_240 0 rfl rfl ?_
                          refine n_get (k9 := 18) C dX6_hunk_241 (by omega) qh118 hX6_hunk_X6 rfl (by decide) kX6_hunk_43 rfl ?_
                          refine n_iconst C dX6_hunk_244 ?_
                          refine n_iload C dX6_hunk_245 4 rfl ?_
                          refine n_iload_n C dX6_hunk_247 2 rfl rfl ?_
                          refine n_icmp_ne C dX6_hunk_248 (by decide) (by omega) (by omega) (by omega) (by omega) (tgt := 272) (fun _ => ?_) (fun c9 => absurd c9 (by omega))
                          refine n_aload_n C dX6_hunk_272 0 rfl rfl ?_
                          refine n_get (k9 := 18) C dX6_hunk_273 (by omega) qh118 hX6_hunk_X6 rfl (by decide) kX6_hunk_43 rfl ?_
                          refine n_iconst C dX6_hunk_276 ?_
                          refine n_iald (j := 3) C dX6_hunk_277 (by omega) hs116 (by omega) (by omega) (by omega) ?_
                          refine n_topI (y := (iI (cM ls true r r2 j : Int))) (by simp [upd, hf3]) ?_
                          refine n_iast (j := 3) C dX6_hunk_278 (by omega) hs116 (by omega) (by omega) (by omega) (fun e121 hs122 ho123 => ?_)
                          have qh124 := (ho123 53 (by decide)).trans qh118
                          have qh125 := (ho123 59 (by decide)).trans qh119
                          have qh126 := (ho123 60 (by decide)).trans qh120
                          refine n_iinc (lv' := [(0, .ref (ad 53)), (1, .int (iI n)), (2, .int (iI (h : Int))), (3, .int (iI w9)), (4, .int (iI ((cB ls n (j + 1) : Int) - 1))), (5, .int (iI la)), (6, .int (iI ((j : Int) + 1))), (7, .int (iI 0))]) C dX6_hunk_279 6 rfl (by decide) rfl ?_
                          refine n_goto (tgt := 69) C dX6_hunk_282 (by decide) ?_
                          have hF9 : Fr e121 ex (fun j => j = 65) := fun j hj => (ho123 j hj).trans ((ho117 j hj).trans (ho111 j hj))
                          refine n_sub (lv2 := [(0, .ref (ad 53)), (1, .int (iI n)), (2, .int (iI (h : Int))), (3, .int (iI w9)), (4, .int (iI ((cB ls n (j + 1) : Int) - 1))), (5, .int (iI la)), (6, .int (iI ((j : Int) + 1)))]) [0, 1, 2, 3, 4, 5, 6] rfl ?_
                          refine n_lv (lv2 := [(0, .ref (ad 53)), (1, .int (iI n)), (2, .int (iI (h : Int))), (3, .int (iI w9)), (4, .int (iI ((cB ls n (j + 1) : Int) - 1))), (5, .int (iI la)), (6, .int (iI ((j + 1 : Nat) : Int)))]) (by simp) ?_
                          exact ih (j + 1) (la) _ e121 (by omega) (by omega) ⟨fun h9 => by rw [hla.1 (by omega), show min (j + 1 - 1) r2 = min (j - 1) r2 by omega], hla.2⟩ ((hF9 53 (by omega)).trans k53) hs122 (fun h9 => by simp [upd, hf0 (show r < j by omega)]) (by rw [e2]; simp [upd]) (by rw [e3]; simp [upd]) (fun i hi => (hF9 i hi).trans (hF i hi))
                      refine n_iload C dX6_hunk_78 6 rfl ?_
                      refine n_if_eq C dX6_hunk_80 (by decide) (by omega) (by omega) (tgt := 93) (fun c13 => ?_) (fun c13 => ?_)
                      · have hj0 : j = 0 := by omega
                        have hb9 : beg ls n j = true := by rw [hj0]; rfl
                        have hcs : cB ls n (j + 1) = cB ls n j + 1 := by rw [cB_s, hb9]; rfl
                        refine n_iload C dX6_hunk_93 4 rfl ?_
                        refine n_iconst C dX6_hunk_95 ?_
                        refine n_iadd C dX6_hunk_96 ?_
                        refine n_goto (tgt := 102) C dX6_hunk_97 (by decide) ?_
                        refine n_istore (lv' := [(0, .ref (ad 53)), (1, .int (iI n)), (2, .int (iI (h : Int))), (3, .int (iI w9)), (4, .int (iI (((cB ls n j : Int) - 1) + 1))), (5, .int (iI la)), (6, .int (iI (j : Int)))]) C dX6_hunk_102 (by decide) rfl ?_
                        refine n_lv (lv2 := [(0, .ref (ad 53)), (1, .int (iI n)), (2, .int (iI (h : Int))), (3, .int (iI w9)), (4, .int (iI ((cB ls n (j + 1) : Int) - 1))), (5, .int (iI la)), (6, .int (iI (j : Int)))]) (by rw [hcs]; simp) ?_
                        exact rest
                      · refine n_aload_n C dX6_hunk_83 0 rfl rfl ?_
                        refine n_iload C dX6_hunk_84 6 rfl ?_
                        refine n_iload_n C dX6_hunk_86 1 rfl rfl ?_
                        refine n_callV (rest := []) C dX6_hunk_87 (TX6_together l hN k53 m3 (by omega) (by omega) (by omega) (by omega)) (cwV 2 C.2.2.2.2.1 gX6_hunk_X6_together rfl rfl rfl cdX6_together ⟨Nat.le_of_ble_eq_true rfl, Nat.le_of_ble_eq_true rfl⟩) (by omega) k53 rfl rfl rfl (Nat.le_of_ble_eq_true rfl) ⟨Nat.le_of_ble_eq_true rfl, Nat.le_of_ble_eq_true rfl⟩ ?_
                        rintro _ _ ⟨rfl, rfl⟩
                        refine n_pc (pc2 := 90) rfl (n_st (st2 := [.int (bI (!beg ls n j))]) rfl ?_)
                        refine n_if_neB C dX6_hunk_90 (by decide) (tgt := 100) (fun c14 => ?_) (fun c14 => ?_)
                        · have hb9 : beg ls n j = false := by cases h : beg ls n j <;> simp_all
                          have hcs : cB ls n (j + 1) = cB ls n j + 0 := by rw [cB_s, hb9]; rfl
                          refine n_iload C dX6_hunk_100 4 rfl ?_
                          refine n_istore (lv' := [(0, .ref (ad 53)), (1, .int (iI n)), (2, .int (iI (h : Int))), (3, .int (iI w9)), (4, .int (iI ((cB ls n j : Int) - 1))), (5, .int (iI la)), (6, .int (iI (j : Int)))]) C dX6_hunk_102 (by decide) rfl ?_
                          refine n_lv (lv2 := [(0, .ref (ad 53)), (1, .int (iI n)), (2, .int (iI (h : Int))), (3, .int (iI w9)), (4, .int (iI ((cB ls n (j + 1) : Int) - 1))), (5, .int (iI la)), (6, .int (iI (j : Int)))]) (by rw [hcs]; rfl) ?_
                          exact rest
                        · have hb9 : beg ls n j = true := by cases h : beg ls n j <;> simp_all
                          have hcs : cB ls n (j + 1) = cB ls n j + 1 := by rw [cB_s, hb9]; rfl
                          refine n_iload C dX6_hunk_93 4 rfl ?_
                          refine n_iconst C dX6_hunk_95 ?_
                          refine n_iadd C dX6_hunk_96 ?_
                          refine n_goto (tgt := 102) C dX6_hunk_97 (by decide) ?_
                          refine n_istore (lv' := [(0, .ref (ad 53)), (1, .int (iI n)), (2, .int (iI (h : Int))), (3, .int (iI w9)), (4, .int (iI (((cB ls n j : Int) - 1) + 1))), (5, .int (iI la)), (6, .int (iI (j : Int)))]) C dX6_hunk_102 (by decide) rfl ?_
                          refine n_lv (lv2 := [(0, .ref (ad 53)), (1, .int (iI n)), (2, .int (iI (h : Int))), (3, .int (iI w9)), (4, .int (iI ((cB ls n (j + 1) : Int) - 1))), (5, .int (iI la)), (6, .int (iI (j : Int)))]) (by rw [hcs]; simp) ?_
                          exact rest
                exact loop _ 0 0 _ e9 (Nat.lt_succ_self _) (Nat.zero_le _) ⟨fun h => absurd h (Nat.not_lt_zero _), by omega, by omega⟩ qh12 hs10 (fun h => absurd h (Nat.not_lt_zero _)) (by rw [show cM ls false r r2 0 = 0 from cK_0 _ _ _ _ (by omega)]; rfl) (by rw [show cM ls true r r2 0 = 0 from cK_0 _ _ _ _ (by omega)]; rfl) Fr.rf
              · have h8 : hkU ls lsz n k w9 r r2 = -1 := by unfold hkU; rw [if_pos (by omega)]; unfold hkV; rw [if_neg (by omega), if_neg (by omega), if_neg (by omega), if_neg (by omega)]
                refine n_iconst C dX6_hunk_44 ?_
                exact n_iret C hr dX6_hunk_45 (⟨by rw [h8], ⟨cmp, _, _, _, _, _, _, _, _, _, _, _, _, ⟨hli1, hli2, hlsz, hcmp⟩, hs2, m1, m2, m3, m4, m5⟩, fun j hj => hP4 j (by omega)⟩)

set_option maxHeartbeats 4000000 in
set_option maxRecDepth 100000 in
theorem TX6_alike (l : Launch) {G : GG} {N : Nat} {ad : Nat → Nat} {ev : Nat → va_E} {lim thr : Int} {R9 : Nat → List Int32} {ops : List Tr} {ls : List Op} {lsz : Nat} {rs9 : List Int32} {a b : Int} (hN : 66 ≤ N) (hM : MdlAt G ad ev lim thr R9 ops ls lsz rs9) (haa : -2147483648 ≤ a) (hab : a < 2147483648) (hba : -2147483648 ≤ b) (hbb : b < 2147483648) : Ct l yX6_alike wsX6_alike rmX6_alike [.ref (ad 53), .int (iI a), .int (iI b)] G N ad ev 0 0 (fun v e2 => v = some (.float (alS R9 a b)) ∧ MdlAt G ad e2 lim 0 R9 ops ls lsz rs9 ∧ Fr e2 ev (fun j => 53 ≤ j ∧ j < 66)) := by
  obtain ⟨cmp, fz, fy, fk, fp, fs, mk, mp, fr, fq, w1, w2, fd, hbb, k53, m1, m2, m3, m4, m5⟩ := hM
  obtain ⟨hli1, hli2, hlsz, hcmp⟩ := hbb
  refine Ct_of (cc := cX6_alike) (maxL := 5) (ret := some .float) (lv := [(0, .ref (ad 53)), (1, .int (iI a)), (2, .int (iI b))]) (by decide) rfl (Nat.le_of_ble_eq_true rfl) rfl ?_
  intro p E s m args below meth c A C hr hnm
  refine n_aload_n C dX6_alike_0 0 rfl rfl ?_
  refine n_iconst C dX6_alike_1 ?_
  refine n_put (k9 := 1) (fs2 := [.int (iI lim), .int (iI 0), .ref (ad 54), .ref (ad 55), .int (iI (ops.length : Int)), .ref (ad 56), .ref (ad 57), .ref (ad 58), .int (bI cmp), .int (iI (ls.length : Int)), .int (iI (lsz : Int)), .ref (ad 59), .ref (ad 60), .int (iI (rs9.length : Int)), .ref (ad 61), .ref (ad 62), .ref (ad 63), .ref (ad 64), .ref (ad 65)]) C dX6_alike_2 (by omega) k53 hX6_alike_X6 tyX6_ok nmX6 rfl (by decide) kX6_alike_50 rfl rfl rfl (Nat.le_of_ble_eq_true rfl) rfl (fun e1 hs2 ho3 => ?_)
  have hP4 : Fr e1 _ (fun j => j = 53) := fun j hj => ho3 j hj
  have m1 := m1.fr hP4 (by omega) (by omega)
  have m2 := m2.fr hP4 (by omega) (by omega) (by omega)
  have m3 := m3.fr hP4 (by omega) (by omega)
  have m4 := m4.fr hP4 (by omega)
  have m5 := m5.fr hP4 (by omega) (by omega) (by omega) (by omega)
  refine n_iload_n C dX6_alike_5 1 rfl rfl ?_
  refine n_callS (rest := []) C dX6_alike_6 (TX6_isRow l haa hab) (cwS 1 C.2.2.2.2.1 gX6_alike_X6_isRow rfl rfl rfl cdX6_isRow ⟨Nat.le_of_ble_eq_true rfl, Nat.le_of_ble_eq_true rfl⟩) rfl rfl (Nat.le_of_ble_eq_true rfl) ⟨Nat.le_of_ble_eq_true rfl, Nat.le_of_ble_eq_true rfl⟩ ?_
  rintro _ _ ⟨rfl, rfl⟩
  refine n_pc (pc2 := 9) rfl (n_st (st2 := [.int (bI (isR a))]) rfl ?_)
  refine n_if_eqB C dX6_alike_9 (by decide) (tgt := 19) (fun c1 => ?_) (fun c1 => ?_)
  · refine n_ldcf (x := 3212836864) C dX6_alike_19 (List.mem_of_getElem? (i := 2) rfl) ?_
    exact n_fret C hr dX6_alike_21 (⟨by unfold alS; rw [c1]; rfl, ⟨cmp, _, _, _, _, _, _, _, _, _, _, _, _, ⟨hli1, hli2, hlsz, hcmp⟩, hs2, m1, m2, m3, m4, m5⟩, fun j hj => hP4 j (by omega)⟩)
  · refine n_iload_n C dX6_alike_12 2 rfl rfl ?_
    refine n_callS (rest := []) C dX6_alike_13 (TX6_isRow l hba hbb) (cwS 1 C.2.2.2.2.1 gX6_alike_X6_isRow rfl rfl rfl cdX6_isRow ⟨Nat.le_of_ble_eq_true rfl, Nat.le_of_ble_eq_true rfl⟩) rfl rfl (Nat.le_of_ble_eq_true rfl) ⟨Nat.le_of_ble_eq_true rfl, Nat.le_of_ble_eq_true rfl⟩ ?_
    rintro _ _ ⟨rfl, rfl⟩
    refine n_pc (pc2 := 16) rfl (n_st (st2 := [.int (bI (isR b))]) rfl ?_)
    refine n_if_neB C dX6_alike_16 (by decide) (tgt := 22) (fun c2 => ?_) (fun c2 => ?_)
    · have c1w := of_decide_eq_true c1
      obtain ⟨i, rfl⟩ : ∃ i : Nat, a = (i : Int) := ⟨a.toNat, by omega⟩
      obtain ⟨zi, li, yi⟩ := m1.at (j := i) (by omega)
      have c2w := of_decide_eq_true c2
      obtain ⟨j, rfl⟩ : ∃ j : Nat, b = (j : Int) := ⟨b.toNat, by omega⟩
      obtain ⟨zj, lj, yj⟩ := m1.at (j := j) (by omega)
      have hrl := rst_le _ ((R9 i).drop 0) ((R9 j).drop 0) (Nat.le_refl _)
      simp only [List.length_drop, Nat.sub_zero] at hrl
      have hrs : rs (R9 i) (R9 j) 0 0 ≤ (R9 i).length + (R9 j).length := hrl.1
      have hpa : rs (R9 i) (R9 j) 0 0 % 2 = ((R9 i).length + (R9 j).length) % 2 := hrl.2
      refine n_aload_n C dX6_alike_22 0 rfl rfl ?_
      refine n_get (k9 := 2) C dX6_alike_23 (by omega) hs2 hX6_alike_X6 rfl (by decide) kX6_alike_7 rfl ?_
      refine n_iload_n C dX6_alike_26 1 rfl rfl ?_
      refine n_iald (j := i) C dX6_alike_27 (by omega) m1.1 (by omega) (by omega) (by omega) ?_
      refine n_topI (y := (iI ((R9 i).length : Int))) (zi) ?_
      refine n_aload_n C dX6_alike_28 0 rfl rfl ?_
      refine n_get (k9 := 2) C dX6_alike_29 (by omega) hs2 hX6_alike_X6 rfl (by decide) kX6_alike_7 rfl ?_
      refine n_iload_n C dX6_alike_32 2 rfl rfl ?_
      refine n_iald (j := j) C dX6_alike_33 (by omega) m1.1 (by omega) (by omega) (by omega) ?_
      refine n_topI (y := (iI ((R9 j).length : Int))) (zj) ?_
      refine n_iadd C dX6_alike_34 ?_
      refine n_istore_n (lv' := [(0, .ref (ad 53)), (1, .int (iI (i : Int))), (2, .int (iI (j : Int))), (3, .int (iI (((R9 i).length : Int) + ((R9 j).length : Int))))]) C dX6_alike_35 rfl (by decide) rfl ?_
      refine n_aload_n C dX6_alike_36 0 rfl rfl ?_
      refine n_iload_n C dX6_alike_37 1 rfl rfl ?_
      refine n_iload_n C dX6_alike_38 2 rfl rfl ?_
      refine n_callV (rest := []) C dX6_alike_39 (TX6_fill l hN hs2 m1 (a := i) (b := j) (by omega) (by omega) m5.1) (cwV 2 C.2.2.2.2.1 gX6_alike_X6_fill rfl rfl rfl cdX6_fill ⟨Nat.le_of_ble_eq_true rfl, Nat.le_of_ble_eq_true rfl⟩) (by omega) hs2 rfl rfl rfl (Nat.le_of_ble_eq_true rfl) ⟨Nat.le_of_ble_eq_true rfl, Nat.le_of_ble_eq_true rfl⟩ ?_
      rintro _ e1 ⟨rfl, ⟨fq2, k62, hok⟩, hF1⟩
      refine n_pc (pc2 := 42) rfl (n_st (st2 := []) rfl ?_)
      have k53 := (hF1 53 (by omega)).trans hs2
      have m1 := m1.fr hF1 (by omega) (by omega)
      have m2 := m2.fr hF1 (by omega) (by omega) (by omega)
      have m3 := m3.fr hF1 (by omega) (by omega)
      have m4 := m4.fr hF1 (by omega)
      have m5 : MWrk G e1 fq2 w1 w2 fd := ⟨k62, (hF1 _ (by omega)).trans m5.2.1, (hF1 _ (by omega)).trans m5.2.2.1, (hF1 _ (by omega)).trans m5.2.2.2⟩
      refine n_iload_n C dX6_alike_42 3 rfl rfl ?_
      refine n_aload_n C dX6_alike_43 0 rfl rfl ?_
      refine n_get (k9 := 15) C dX6_alike_44 (by omega) k53 hX6_alike_X6 rfl (by decide) kX6_alike_34 rfl ?_
      refine n_iconst C dX6_alike_47 ?_
      refine n_iald (j := 0) C dX6_alike_48 (by omega) m5.1 (by omega) (by omega) (by omega) ?_
      refine n_topI (y := (iI (rs (R9 i) (R9 j) 0 0 : Int))) (hok 0 0 (by omega) (by omega)) ?_
      refine n_isub C dX6_alike_49 ?_
      refine n_iconst C dX6_alike_50 ?_
      generalize hrr : rs (R9 i) (R9 j) 0 0 = rr at *
      refine n_st (st2 := [.int (iI ((2 : Nat) : Int)), .int (iI (((R9 i).length + (R9 j).length - rr : Nat) : Int))]) (by rw [show (((R9 i).length + (R9 j).length - rr : Nat) : Int) = ((R9 i).length : Int) + ((R9 j).length : Int) - (rr : Int) by omega]; rfl) ?_
      refine n_idiv (a := (R9 i).length + (R9 j).length - rr) (d := 2) C dX6_alike_51 (by omega) (by omega) (by omega) ?_
      refine n_istore (lv' := [(0, .ref (ad 53)), (1, .int (iI (i : Int))), (2, .int (iI (j : Int))), (3, .int (iI (((R9 i).length : Int) + ((R9 j).length : Int)))), (4, .int (iI ((((R9 i).length + (R9 j).length - rr) / 2 : Nat) : Int)))]) C dX6_alike_52 (by decide) rfl ?_
      refine n_iload_n C dX6_alike_54 3 rfl rfl ?_
      refine n_if_ne C dX6_alike_55 (by decide) (by omega) (by omega) (tgt := 62) (fun c3 => ?_) (fun c3 => ?_)
      · have hv9 := (alS_ok (R := R9) c1 c2 |>.trans (by rw [hrr])).trans (alN_div (r := rr) (show (R9 i).length + (R9 j).length ≠ 0 by omega) hrs)
        have hne := alN_ne (r := rr) (show (R9 i).length + (R9 j).length ≠ 0 by omega) (by omega)
        refine n_iconst C dX6_alike_62 ?_
        refine n_iload C dX6_alike_63 4 rfl ?_
        refine n_imul C dX6_alike_65 ?_
        refine n_topI (y := (iI (((R9 i).length : Int) + ((R9 j).length : Int) - (rr : Int)))) (by congr 1; omega) ?_
        refine n_i2f C dX6_alike_66 ?_
        refine n_iload_n C dX6_alike_67 3 rfl rfl ?_
        refine n_i2f C dX6_alike_68 ?_
        refine n_fdiv C dX6_alike_69 (by rw [alN_div (show (R9 i).length + (R9 j).length ≠ 0 by omega) hrs] at hne; exact hne) ?_
        exact n_fret C hr dX6_alike_70 (⟨by rw [hv9], ⟨cmp, _, _, _, _, _, _, _, _, _, _, _, _, ⟨hli1, hli2, hlsz, hcmp⟩, k53, m1, m2, m3, m4, m5⟩, fun j hj => (hF1 j (by omega)).trans (hP4 j (by omega))⟩)
      · refine n_fconst1 C dX6_alike_58 ?_
        refine n_goto (tgt := 70) C dX6_alike_59 (by decide) ?_
        exact n_fret C hr dX6_alike_70 (⟨by rw [alS_ok c1 c2, show (R9 i).length = 0 by omega, show (R9 j).length = 0 by omega, alN_0], ⟨cmp, _, _, _, _, _, _, _, _, _, _, _, _, ⟨hli1, hli2, hlsz, hcmp⟩, k53, m1, m2, m3, m4, m5⟩, fun j hj => (hF1 j (by omega)).trans (hP4 j (by omega))⟩)
    · refine n_ldcf (x := 3212836864) C dX6_alike_19 (List.mem_of_getElem? (i := 2) rfl) ?_
      exact n_fret C hr dX6_alike_21 (⟨by unfold alS; rw [c1, c2]; rfl, ⟨cmp, _, _, _, _, _, _, _, _, _, _, _, _, ⟨hli1, hli2, hlsz, hcmp⟩, hs2, m1, m2, m3, m4, m5⟩, fun j hj => hP4 j (by omega)⟩)
