def pX3_beginsHunk (ev : Nat → va_E) (ls : List Op) (n : Int) (k : Nat) : Option Value → (Nat → va_E) → Prop := fun v e2 => v = some (.int (bI (beg ls n k))) ∧ ev = e2

set_option maxHeartbeats 4000000 in
set_option maxRecDepth 100000 in
theorem TX3_beginsHunk (l : Launch) {G : GG} {N : Nat} {ad : Nat → Nat} {ev : Nat → va_E} {i k : Nat} {ls : List Op} {n : Int} (hi : i + 3 < N) (hR : ScrAt G ad ev i (ls.map encO)) (hsm : Sm ls) (hn0 : 0 ≤ n) (hn9 : n ≤ 9) (hk : k ≤ 60) : Ct l yX3_beginsHunk wsX3_beginsHunk rmX3_beginsHunk [.ref (ad i), .int (iI (k : Int)), .int (iI n)] G N ad ev 0 0 (pX3_beginsHunk ev ls n k) := by
  obtain ⟨fk, fp, fs, h0, h1, h2, h3, hf, hlc⟩ := id hR
  rw [List.length_map] at h0 hlc
  have b1 := plI_b hsm (k : Int)
  have b2 := bhI_b hsm ((k : Int) - 1)
  refine Ct_of (cc := cX3_beginsHunk) (maxL := 3) (ret := some .boolean) (lv := [(0, .ref (ad i)), (1, .int (iI (k : Int))), (2, .int (iI n))]) (by decide) rfl (Nat.le_of_ble_eq_true rfl) rfl ?_
  intro p E s m args below meth c A C hr hnm
  refine n_iload_n C dX3_beginsHunk_0 1 rfl rfl ?_
  refine n_if_eq C dX3_beginsHunk_1 (by decide) (by omega) (by omega) (tgt := 23) (fun c1 => ?_) (fun c1 => ?_)
  · refine n_iconst C dX3_beginsHunk_23 ?_
    refine n_goto (tgt := 28) C dX3_beginsHunk_24 (by decide) ?_
    exact n_zret C hr dX3_beginsHunk_28 (by decide) (⟨by rw [show k = 0 by omega]; rfl, rfl⟩)
  · refine n_aload_n C dX3_beginsHunk_4 0 rfl rfl ?_
    refine n_iload_n C dX3_beginsHunk_5 1 rfl rfl ?_
    refine n_callV (rest := []) C dX3_beginsHunk_6 (TX3_placeOf l hi hR (by omega) (by omega)) (cwV 1 C.2.2.2.2.1 gX3_beginsHunk_X3_placeOf rfl rfl rfl cdX3_placeOf ⟨Nat.le_of_ble_eq_true rfl, Nat.le_of_ble_eq_true rfl⟩) (by omega) h0 rfl rfl rfl (Nat.le_of_ble_eq_true rfl) ⟨Nat.le_of_ble_eq_true rfl, Nat.le_of_ble_eq_true rfl⟩ ?_
    rintro _ _ ⟨rfl, rfl⟩
    refine n_pc (pc2 := 9) rfl (n_st (st2 := [.int (plR (ls.map encO) (k : Int))]) rfl ?_)
    refine n_topI (y := (iI (plI ls (k : Int)))) (plRI ls _) ?_
    refine n_aload_n C dX3_beginsHunk_9 0 rfl rfl ?_
    refine n_iload_n C dX3_beginsHunk_10 1 rfl rfl ?_
    refine n_iconst C dX3_beginsHunk_11 ?_
    refine n_isub C dX3_beginsHunk_12 ?_
    refine n_callV (rest := [.int (iI (plI ls (k : Int)))]) C dX3_beginsHunk_13 (TX3_behind l hi hR (by omega) (by omega)) (cwV 1 C.2.2.2.2.1 gX3_beginsHunk_X3_behind rfl rfl rfl cdX3_behind ⟨Nat.le_of_ble_eq_true rfl, Nat.le_of_ble_eq_true rfl⟩) (by omega) h0 rfl rfl rfl (Nat.le_of_ble_eq_true rfl) ⟨Nat.le_of_ble_eq_true rfl, Nat.le_of_ble_eq_true rfl⟩ ?_
    rintro _ _ ⟨rfl, rfl⟩
    refine n_pc (pc2 := 16) rfl (n_st (st2 := [.int (bhR (ls.map encO) ((k : Int) - 1)), .int (iI (plI ls (k : Int)))]) rfl ?_)
    refine n_topI (y := (iI (bhI ls ((k : Int) - 1)))) (bhRI ls _) ?_
    refine n_isub C dX3_beginsHunk_16 ?_
    refine n_iconst C dX3_beginsHunk_17 ?_
    refine n_iload_n C dX3_beginsHunk_18 2 rfl rfl ?_
    refine n_imul C dX3_beginsHunk_19 ?_
    refine n_icmp_le C dX3_beginsHunk_20 (by decide) (by omega) (by omega) (by omega) (by omega) (tgt := 27) (fun c2 => ?_) (fun c2 => ?_)
    · refine n_iconst C dX3_beginsHunk_27 ?_
      exact n_zret C hr dX3_beginsHunk_28 (by decide) (⟨by unfold beg; rw [decide_eq_false (show ¬ k = 0 by omega), decide_eq_false (by omega)]; rfl, rfl⟩)
    · refine n_iconst C dX3_beginsHunk_23 ?_
      refine n_goto (tgt := 28) C dX3_beginsHunk_24 (by decide) ?_
      exact n_zret C hr dX3_beginsHunk_28 (by decide) (⟨by unfold beg; rw [decide_eq_false (show ¬ k = 0 by omega), decide_eq_true (by omega)]; rfl, rfl⟩)

def pX3_firstOfHunk (ev : Nat → va_E) (ls : List Op) (n : Int) (h : Nat) : Option Value → (Nat → va_E) → Prop := fun v e2 => (∃ r : Nat, v = some (.int (iI (r : Int))) ∧ r < ls.length ∧ cB ls n (r + 1) = h + 1 ∧ ∀ j, j < r → cB ls n (j + 1) ≠ h + 1) ∧ ev = e2

set_option maxHeartbeats 4000000 in
set_option maxRecDepth 100000 in
theorem TX3_firstOfHunk (l : Launch) {G : GG} {N : Nat} {ad : Nat → Nat} {ev : Nat → va_E} {i h : Nat} {ls : List Op} {n : Int} (hi : i + 3 < N) (hR : ScrAt G ad ev i (ls.map encO)) (hsm : Sm ls) (hn0 : 0 ≤ n) (hn9 : n ≤ 9) (hh : h < cB ls n ls.length) : Ct l yX3_firstOfHunk wsX3_firstOfHunk rmX3_firstOfHunk [.ref (ad i), .int (iI (h : Int)), .int (iI n)] G N ad ev 0 0 (pX3_firstOfHunk ev ls n h) := by
  obtain ⟨fk, fp, fs, h0, h1, h2, h3, hf, hlc⟩ := id hR
  rw [List.length_map] at h0 hlc
  have hcl := cB_le ls n ls.length
  refine Ct_of (cc := cX3_firstOfHunk) (maxL := 5) (ret := some .int) (lv := [(0, .ref (ad i)), (1, .int (iI (h : Int))), (2, .int (iI n))]) (by decide) rfl (Nat.le_of_ble_eq_true rfl) rfl ?_
  intro p E s m args below meth c A C hr hnm
  refine n_iconst C dX3_firstOfHunk_0 ?_
  refine n_istore_n (lv' := [(0, .ref (ad i)), (1, .int (iI (h : Int))), (2, .int (iI n)), (3, .int (iI (-1)))]) C dX3_firstOfHunk_1 rfl (by decide) rfl ?_
  refine n_iconst C dX3_firstOfHunk_2 ?_
  refine n_istore (lv' := [(0, .ref (ad i)), (1, .int (iI (h : Int))), (2, .int (iI n)), (3, .int (iI (-1))), (4, .int (iI 0))]) C dX3_firstOfHunk_3 (by decide) rfl ?_
  have loop : ∀ (n9 : Nat) (k : Nat), ls.length + 1 - k < n9 → (k ≤ ls.length) → (∀ j, j < k → cB ls n (j + 1) ≠ h + 1) → (cB ls n k ≤ h) → V p l E rmX3_firstOfHunk s m args below meth c G A 5 (MQ below (Qg G N ad A (pX3_firstOfHunk ev ls n h)) args s 0 0 A) N ad ev 0 0 5 [(0, .ref (ad i)), (1, .int (iI (h : Int))), (2, .int (iI n)), (3, .int (iI ((cB ls n k : Int) - 1))), (4, .int (iI (k : Int)))] [] := by
    intro n9
    induction n9 with
    | zero =>
      intro k hm9
      exact absurd hm9 (Nat.not_lt_zero _)
    | succ n9 ih =>
      intro k hm9 hk hno hle
      have hck := cB_le ls n k
      refine n_iload C dX3_firstOfHunk_5 4 rfl ?_
      refine n_aload_n C dX3_firstOfHunk_7 0 rfl rfl ?_
      refine n_get (k9 := 3) C dX3_firstOfHunk_8 (by omega) h0 hX3_firstOfHunk_X3 rfl (by decide) kX3_firstOfHunk_21 rfl ?_
      refine n_icmp_ge C dX3_firstOfHunk_11 (by decide) (by omega) (by omega) (by omega) (by omega) (tgt := 41) (fun c1 => ?_) (fun c1 => ?_)
      · exact absurd hh (by rw [show ls.length = k by omega]; omega)
      · refine n_aload_n C dX3_firstOfHunk_14 0 rfl rfl ?_
        refine n_iload C dX3_firstOfHunk_15 4 rfl ?_
        refine n_iload_n C dX3_firstOfHunk_17 2 rfl rfl ?_
        refine n_callV (rest := []) C dX3_firstOfHunk_18 (TX3_beginsHunk l hi hR hsm hn0 hn9 (k := k) (by omega)) (cwV 2 C.2.2.2.2.1 gX3_firstOfHunk_X3_beginsHunk rfl rfl rfl cdX3_beginsHunk ⟨Nat.le_of_ble_eq_true rfl, Nat.le_of_ble_eq_true rfl⟩) (by omega) h0 rfl rfl rfl (Nat.le_of_ble_eq_true rfl) ⟨Nat.le_of_ble_eq_true rfl, Nat.le_of_ble_eq_true rfl⟩ ?_
        rintro _ _ ⟨rfl, rfl⟩
        refine n_pc (pc2 := 21) rfl (n_st (st2 := [.int (bI (beg ls n k))]) rfl ?_)
        refine n_if_eqB C dX3_firstOfHunk_21 (by decide) (tgt := 27) (fun c2 => ?_) (fun c2 => ?_)
        · have hst : cB ls n (k + 1) = cB ls n k := by show cB ls n k + (if beg ls n k then 1 else 0) = cB ls n k; rw [c2]; rfl
          refine n_iload_n C dX3_firstOfHunk_27 3 rfl rfl ?_
          refine n_iload_n C dX3_firstOfHunk_28 1 rfl rfl ?_
          refine n_icmp_ne C dX3_firstOfHunk_29 (by decide) (by omega) (by omega) (by omega) (by omega) (tgt := 35) (fun c3 => ?_) (fun c3 => ?_)
          · refine n_iinc (lv' := [(0, .ref (ad i)), (1, .int (iI (h : Int))), (2, .int (iI n)), (3, .int (iI ((cB ls n k : Int) - 1))), (4, .int (iI ((k : Int) + 1)))]) C dX3_firstOfHunk_35 4 rfl (by decide) rfl ?_
            refine n_goto (tgt := 5) C dX3_firstOfHunk_38 (by decide) ?_
            refine n_lv (lv2 := [(0, .ref (ad i)), (1, .int (iI (h : Int))), (2, .int (iI n)), (3, .int (iI ((cB ls n (k + 1) : Int) - 1))), (4, .int (iI ((k + 1 : Nat) : Int)))]) (by rw [hst]; simp) ?_
            exact ih (k + 1) (by omega) (by omega) (fun j hj => by
              rcases Nat.lt_or_ge j k with q | q
              · exact hno j q
              · rw [show j = k by omega, hst]; omega) (by omega)
          · refine n_iload C dX3_firstOfHunk_32 4 rfl ?_
            exact n_iret C hr dX3_firstOfHunk_34 (⟨⟨k, rfl, by omega, by omega, hno⟩, rfl⟩)
        · have hst : cB ls n (k + 1) = cB ls n k + 1 := by show cB ls n k + (if beg ls n k then 1 else 0) = cB ls n k + 1; rw [c2]; rfl
          refine n_iinc (lv' := [(0, .ref (ad i)), (1, .int (iI (h : Int))), (2, .int (iI n)), (3, .int (iI (((cB ls n k : Int) - 1) + 1))), (4, .int (iI (k : Int)))]) C dX3_firstOfHunk_24 3 rfl (by decide) rfl ?_
          refine n_iload_n C dX3_firstOfHunk_27 3 rfl rfl ?_
          refine n_iload_n C dX3_firstOfHunk_28 1 rfl rfl ?_
          refine n_icmp_ne C dX3_firstOfHunk_29 (by decide) (by omega) (by omega) (by omega) (by omega) (tgt := 35) (fun c3 => ?_) (fun c3 => ?_)
          · refine n_iinc (lv' := [(0, .ref (ad i)), (1, .int (iI (h : Int))), (2, .int (iI n)), (3, .int (iI (((cB ls n k : Int) - 1) + 1))), (4, .int (iI ((k : Int) + 1)))]) C dX3_firstOfHunk_35 4 rfl (by decide) rfl ?_
            refine n_goto (tgt := 5) C dX3_firstOfHunk_38 (by decide) ?_
            refine n_lv (lv2 := [(0, .ref (ad i)), (1, .int (iI (h : Int))), (2, .int (iI n)), (3, .int (iI ((cB ls n (k + 1) : Int) - 1))), (4, .int (iI ((k + 1 : Nat) : Int)))]) (by rw [hst]; simp) ?_
            exact ih (k + 1) (by omega) (by omega) (fun j hj => by
              rcases Nat.lt_or_ge j k with q | q
              · exact hno j q
              · rw [show j = k by omega, hst]; omega) (by omega)
          · refine n_iload C dX3_firstOfHunk_32 4 rfl ?_
            exact n_iret C hr dX3_firstOfHunk_34 (⟨⟨k, rfl, by omega, by omega, hno⟩, rfl⟩)
  exact loop _ 0 (Nat.lt_succ_self _) (Nat.zero_le _) (fun j hj => absurd hj (Nat.not_lt_zero j)) (Nat.zero_le _)

def pX3_lastOfHunk (ev : Nat → va_E) (ls : List Op) (n : Int) (a : Nat) : Option Value → (Nat → va_E) → Prop := fun v e2 => (∃ r : Nat, v = some (.int (iI (r : Int))) ∧ a ≤ r ∧ r < ls.length ∧ (∀ j, a < j → j ≤ r → beg ls n j = false) ∧ (r + 1 = ls.length ∨ beg ls n (r + 1) = true)) ∧ ev = e2

set_option maxHeartbeats 4000000 in
set_option maxRecDepth 100000 in
theorem TX3_lastOfHunk (l : Launch) {G : GG} {N : Nat} {ad : Nat → Nat} {ev : Nat → va_E} {i a : Nat} {ls : List Op} {n : Int} (hi : i + 3 < N) (hR : ScrAt G ad ev i (ls.map encO)) (hsm : Sm ls) (hn0 : 0 ≤ n) (hn9 : n ≤ 9) (ha : a < ls.length) : Ct l yX3_lastOfHunk wsX3_lastOfHunk rmX3_lastOfHunk [.ref (ad i), .int (iI (a : Int)), .int (iI n)] G N ad ev 0 0 (pX3_lastOfHunk ev ls n a) := by
  obtain ⟨fk, fp, fs, h0, h1, h2, h3, hf, hlc⟩ := id hR
  rw [List.length_map] at h0 hlc
  refine Ct_of (cc := cX3_lastOfHunk) (maxL := 4) (ret := some .int) (lv := [(0, .ref (ad i)), (1, .int (iI (a : Int))), (2, .int (iI n))]) (by decide) rfl (Nat.le_of_ble_eq_true rfl) rfl ?_
  intro p E s m args below meth c A C hr hnm
  refine n_iload_n C dX3_lastOfHunk_0 1 rfl rfl ?_
  refine n_istore_n (lv' := [(0, .ref (ad i)), (1, .int (iI (a : Int))), (2, .int (iI n)), (3, .int (iI (a : Int)))]) C dX3_lastOfHunk_1 rfl (by decide) rfl ?_
  have loop : ∀ (n9 : Nat) (r : Nat), ls.length - r < n9 → (a ≤ r) → (r < ls.length) → (∀ j, a < j → j ≤ r → beg ls n j = false) → V p l E rmX3_lastOfHunk s m args below meth c G A 4 (MQ below (Qg G N ad A (pX3_lastOfHunk ev ls n a)) args s 0 0 A) N ad ev 0 0 2 [(0, .ref (ad i)), (1, .int (iI (a : Int))), (2, .int (iI n)), (3, .int (iI (r : Int)))] [] := by
    intro n9
    induction n9 with
    | zero =>
      intro r hm9
      exact absurd hm9 (Nat.not_lt_zero _)
    | succ n9 ih =>
      intro r hm9 har hrl hno
      refine n_iload_n C dX3_lastOfHunk_2 3 rfl rfl ?_
      refine n_iconst C dX3_lastOfHunk_3 ?_
      refine n_iadd C dX3_lastOfHunk_4 ?_
      refine n_aload_n C dX3_lastOfHunk_5 0 rfl rfl ?_
      refine n_get (k9 := 3) C dX3_lastOfHunk_6 (by omega) h0 hX3_lastOfHunk_X3 rfl (by decide) kX3_lastOfHunk_21 rfl ?_
      refine n_icmp_ge C dX3_lastOfHunk_9 (by decide) (by omega) (by omega) (by omega) (by omega) (tgt := 29) (fun c1 => ?_) (fun c1 => ?_)
      · refine n_iload_n C dX3_lastOfHunk_29 3 rfl rfl ?_
        exact n_iret C hr dX3_lastOfHunk_30 (⟨⟨r, rfl, har, hrl, hno, Or.inl (by omega)⟩, rfl⟩)
      · refine n_aload_n C dX3_lastOfHunk_12 0 rfl rfl ?_
        refine n_iload_n C dX3_lastOfHunk_13 3 rfl rfl ?_
        refine n_iconst C dX3_lastOfHunk_14 ?_
        refine n_iadd C dX3_lastOfHunk_15 ?_
        refine n_iload_n C dX3_lastOfHunk_16 2 rfl rfl ?_
        refine n_st (st2 := [.int (iI n), .int (iI ((r + 1 : Nat) : Int)), .ref (ad i)]) (by simp) ?_
        refine n_callV (rest := []) C dX3_lastOfHunk_17 (TX3_beginsHunk l hi hR hsm hn0 hn9 (k := r + 1) (by omega)) (cwV 2 C.2.2.2.2.1 gX3_lastOfHunk_X3_beginsHunk rfl rfl rfl cdX3_beginsHunk ⟨Nat.le_of_ble_eq_true rfl, Nat.le_of_ble_eq_true rfl⟩) (by omega) h0 rfl rfl rfl (Nat.le_of_ble_eq_true rfl) ⟨Nat.le_of_ble_eq_true rfl, Nat.le_of_ble_eq_true rfl⟩ ?_
        rintro _ _ ⟨rfl, rfl⟩
        refine n_pc (pc2 := 20) rfl (n_st (st2 := [.int (bI (beg ls n (r + 1)))]) rfl ?_)
        refine n_if_neB C dX3_lastOfHunk_20 (by decide) (tgt := 29) (fun c2 => ?_) (fun c2 => ?_)
        · refine n_iload_n C dX3_lastOfHunk_29 3 rfl rfl ?_
          exact n_iret C hr dX3_lastOfHunk_30 (⟨⟨r, rfl, har, hrl, hno, Or.inr c2⟩, rfl⟩)
        · refine n_iinc (lv' := [(0, .ref (ad i)), (1, .int (iI (a : Int))), (2, .int (iI n)), (3, .int (iI ((r : Int) + 1)))]) C dX3_lastOfHunk_23 3 rfl (by decide) rfl ?_
          refine n_goto (tgt := 2) C dX3_lastOfHunk_26 (by decide) ?_
          refine n_lv (lv2 := [(0, .ref (ad i)), (1, .int (iI (a : Int))), (2, .int (iI n)), (3, .int (iI ((r + 1 : Nat) : Int)))]) (by simp) ?_
          exact ih (r + 1) (by omega) (by omega) (by omega) (fun j h1 h2 => by
            rcases Nat.lt_or_ge r j with q | q
            · rw [show j = r + 1 by omega]; exact c2
            · exact hno j h1 q)
  exact loop _ a (Nat.lt_succ_self _) (Nat.le_refl a) ha (fun j h1 h2 => absurd h1 (by omega))

def pX3_countKind (ev : Nat → va_E) (ls : List Op) (d : Bool) (a b : Nat) : Option Value → (Nat → va_E) → Prop := fun v e2 => v = some (.int (iI (cK ls d a (b + 1) : Int))) ∧ ev = e2

theorem cK_0 (ls : List Op) (d : Bool) (a : Nat) : ∀ k, k ≤ a → cK ls d a k = 0
  | 0, _ => rfl
  | k + 1, h => by
    unfold cK
    rw [cK_0 ls d a k (by omega), if_neg (by omega)]

set_option maxHeartbeats 4000000 in
set_option maxRecDepth 100000 in
theorem TX3_countKind (l : Launch) {G : GG} {N : Nat} {ad : Nat → Nat} {ev : Nat → va_E} {i a b : Nat} {ls : List Op} {d : Bool} (hi : i + 3 < N) (hR : ScrAt G ad ev i (ls.map encO)) (hab : a ≤ b) (hb : b < ls.length) : Ct l yX3_countKind wsX3_countKind rmX3_countKind [.ref (ad i), .int (iI (if d then 0 else 1)), .int (iI (a : Int)), .int (iI (b : Int))] G N ad ev 0 0 (pX3_countKind ev ls d a b) := by
  obtain ⟨fk, fp, fs, h0, h1, h2, h3, hf, hlc⟩ := id hR
  rw [List.length_map] at h0 hlc
  refine Ct_of (cc := cX3_countKind) (maxL := 6) (ret := some .int) (lv := [(0, .ref (ad i)), (1, .int (iI (if d then 0 else 1))), (2, .int (iI (a : Int))), (3, .int (iI (b : Int)))]) (by decide) rfl (Nat.le_of_ble_eq_true rfl) rfl ?_
  intro p E s m args below meth c A C hr hnm
  refine n_iconst C dX3_countKind_0 ?_
  refine n_istore (lv' := [(0, .ref (ad i)), (1, .int (iI (if d then 0 else 1))), (2, .int (iI (a : Int))), (3, .int (iI (b : Int))), (4, .int (iI 0))]) C dX3_countKind_1 (by decide) rfl ?_
  refine n_iload_n C dX3_countKind_3 2 rfl rfl ?_
  refine n_istore (lv' := [(0, .ref (ad i)), (1, .int (iI (if d then 0 else 1))), (2, .int (iI (a : Int))), (3, .int (iI (b : Int))), (4, .int (iI 0)), (5, .int (iI (a : Int)))]) C dX3_countKind_4 (by decide) rfl ?_
  have loop : ∀ (n9 : Nat) (k : Nat), b + 2 - k < n9 → (a ≤ k) → (k ≤ b + 1) → V p l E rmX3_countKind s m args below meth c G A 6 (MQ below (Qg G N ad A (pX3_countKind ev ls d a b)) args s 0 0 A) N ad ev 0 0 6 [(0, .ref (ad i)), (1, .int (iI (if d then 0 else 1))), (2, .int (iI (a : Int))), (3, .int (iI (b : Int))), (4, .int (iI (cK ls d a k : Int))), (5, .int (iI (k : Int)))] [] := by
    intro n9
    induction n9 with
    | zero =>
      intro k hm9
      exact absurd hm9 (Nat.not_lt_zero _)
    | succ n9 ih =>
      intro k hm9 hak hkb
      refine n_iload C dX3_countKind_6 5 rfl ?_
      refine n_iload_n C dX3_countKind_8 3 rfl rfl ?_
      refine n_icmp_gt C dX3_countKind_9 (by decide) (by omega) (by omega) (by omega) (by omega) (tgt := 41) (fun c1 => ?_) (fun c1 => ?_)
      · refine n_iload C dX3_countKind_41 4 rfl ?_
        exact n_iret C hr dX3_countKind_43 (⟨by rw [show k = b + 1 by omega], rfl⟩)
      · refine n_aload_n C dX3_countKind_12 0 rfl rfl ?_
        refine n_iload C dX3_countKind_13 5 rfl ?_
        refine n_callV (rest := []) C dX3_countKind_15 (TX3_has l hi hR (by omega) (by omega)) (cwV 1 C.2.2.2.2.1 gX3_countKind_X3_has rfl rfl rfl cdX3_has ⟨Nat.le_of_ble_eq_true rfl, Nat.le_of_ble_eq_true rfl⟩) (by omega) h0 rfl rfl rfl (Nat.le_of_ble_eq_true rfl) ⟨Nat.le_of_ble_eq_true rfl, Nat.le_of_ble_eq_true rfl⟩ ?_
        rintro _ _ ⟨rfl, rfl⟩
        refine n_pc (pc2 := 18) rfl (n_st (st2 := [.int (bI (decide (0 ≤ (k : Int) ∧ (k : Int) < (ls.map encO).length)))]) rfl ?_)
        refine n_if_eqB C dX3_countKind_18 (by decide) (tgt := 35) (fun c2 => ?_) (fun c2 => ?_)
        · exact absurd (of_decide_eq_false c2) (by rw [List.length_map]; omega)
        · obtain ⟨t, ht⟩ := some_of_lt (show k < ls.length by omega)
          have hk := hf k (by rw [List.length_map]; omega)
          rw [List.getElem?_map, ht] at hk
          have hk0 : fk k = (encO t).1 := by have := Option.some.inj hk; rw [this]
          refine n_aload_n C dX3_countKind_21 0 rfl rfl ?_
          refine n_get (k9 := 0) C dX3_countKind_22 (by omega) h0 hX3_countKind_X3 rfl (by decide) kX3_countKind_9 rfl ?_
          refine n_iload C dX3_countKind_25 5 rfl ?_
          refine n_iald (j := k) C dX3_countKind_27 (by omega) h1 (by omega) (by omega) (by omega) ?_
          refine n_iload_n C dX3_countKind_28 1 rfl rfl ?_
          refine n_icmp_neR C dX3_countKind_29 (by decide) (tgt := 35) (fun c3 => ?_) (fun c3 => ?_)
          · have hst : cK ls d a (k + 1) = cK ls d a k := by
              show cK ls d a k + _ = _
              rw [if_neg]
              · rfl
              · rintro ⟨-, h9⟩
                rw [ht] at h9
                have h8 : t.1 = d := by simpa using h9
                apply c3
                rw [hk0, ← h8]
                unfold encO
                cases t.1 <;> rfl
            refine n_iinc (lv' := [(0, .ref (ad i)), (1, .int (iI (if d then 0 else 1))), (2, .int (iI (a : Int))), (3, .int (iI (b : Int))), (4, .int (iI (cK ls d a k : Int))), (5, .int (iI ((k : Int) + 1)))]) C dX3_countKind_35 5 rfl (by decide) rfl ?_
            refine n_goto (tgt := 6) C dX3_countKind_38 (by decide) ?_
            refine n_lv (lv2 := [(0, .ref (ad i)), (1, .int (iI (if d then 0 else 1))), (2, .int (iI (a : Int))), (3, .int (iI (b : Int))), (4, .int (iI (cK ls d a (k + 1) : Int))), (5, .int (iI ((k + 1 : Nat) : Int)))]) (by rw [hst]; simp) ?_
            exact ih (k + 1) (by omega) (by omega) (by omega)
          · have hst : cK ls d a (k + 1) = cK ls d a k + 1 := by
              show cK ls d a k + _ = _
              rw [if_pos]
              refine ⟨hak, ?_⟩
              rw [ht]
              rw [hk0] at c3
              have h8 := enc_k t
              cases hd : d <;> cases h7 : t.1 <;> simp_all [encO] <;> first | exact absurd c3 (iI_ne (by decide) (by decide) (by decide) (by decide) (by decide)) | exact absurd c3.symm (iI_ne (by decide) (by decide) (by decide) (by decide) (by decide))
            refine n_iinc (lv' := [(0, .ref (ad i)), (1, .int (iI (if d then 0 else 1))), (2, .int (iI (a : Int))), (3, .int (iI (b : Int))), (4, .int (iI ((cK ls d a k : Int) + 1))), (5, .int (iI (k : Int)))]) C dX3_countKind_32 4 rfl (by decide) rfl ?_
            refine n_iinc (lv' := [(0, .ref (ad i)), (1, .int (iI (if d then 0 else 1))), (2, .int (iI (a : Int))), (3, .int (iI (b : Int))), (4, .int (iI ((cK ls d a k : Int) + 1))), (5, .int (iI ((k : Int) + 1)))]) C dX3_countKind_35 5 rfl (by decide) rfl ?_
            refine n_goto (tgt := 6) C dX3_countKind_38 (by decide) ?_
            refine n_lv (lv2 := [(0, .ref (ad i)), (1, .int (iI (if d then 0 else 1))), (2, .int (iI (a : Int))), (3, .int (iI (b : Int))), (4, .int (iI (cK ls d a (k + 1) : Int))), (5, .int (iI ((k + 1 : Nat) : Int)))]) (by rw [hst]; simp) ?_
            exact ih (k + 1) (by omega) (by omega) (by omega)
  have h00 : cK ls d a a = 0 := cK_0 ls d a a (Nat.le_refl a)
  refine n_lv (lv2 := [(0, .ref (ad i)), (1, .int (iI (if d then 0 else 1))), (2, .int (iI (a : Int))), (3, .int (iI (b : Int))), (4, .int (iI (cK ls d a a : Int))), (5, .int (iI (a : Int)))]) (by rw [h00]; rfl) ?_
  exact loop _ a (Nat.lt_succ_self _) (Nat.le_refl a) (by omega)
