/-! Script: cells i (object), i + 1 (kinds), i + 2 (places), i + 3 (symbols) -/
abbrev Tr : Type := Int32 × Int32 × Int32
def ScrAt (G : GG) (ad : Nat → Nat) (ev : Nat → va_E) (i : Nat) (ops : List Tr) : Prop :=
  ∃ fk fp fs : Nat → Int32, ev i = .inr (3, [.ref (ad (i + 1)), .ref (ad (i + 2)), .ref (ad (i + 3)), .int (iI (ops.length : Int))]) ∧ ev (i + 1) = .inl (G.2.1, 60, .inl fk) ∧ ev (i + 2) = .inl (G.2.1, 60, .inl fp) ∧ ev (i + 3) = .inl (G.2.1, 60, .inl fs) ∧ (∀ j, j < ops.length → ops[j]? = some (fk j, fp j, fs j)) ∧ ops.length ≤ 60
theorem ScrAt.fr {G : GG} {ad : Nat → Nat} {ev e2 : Nat → va_E} {i : Nat} {ops : List Tr} {S : Nat → Prop} (h : ScrAt G ad ev i ops) (hF : Fr e2 ev S) (h0 : ¬ S i) (h1 : ¬ S (i + 1)) (h2 : ¬ S (i + 2)) (h3 : ¬ S (i + 3)) : ScrAt G ad e2 i ops := by
  obtain ⟨fk, fp, fs, a, b, c, d, e⟩ := h
  exact ⟨fk, fp, fs, (hF _ h0).trans a, (hF _ h1).trans b, (hF _ h2).trans c, (hF _ h3).trans d, e⟩
theorem ScrAt.le {G : GG} {ad : Nat → Nat} {ev : Nat → va_E} {i : Nat} {ops : List Tr} (h : ScrAt G ad ev i ops) : ops.length ≤ 60 := by
  obtain ⟨fk, fp, fs, a, b, c, d, e, f⟩ := h
  exact f
theorem push_t {ops : List Tr} {fk fp fs : Nat → Int32} {x y z : Int32} (hf : ∀ j, j < ops.length → ops[j]? = some (fk j, fp j, fs j)) : ∀ j, j < (ops ++ [(x, y, z)]).length → (ops ++ [(x, y, z)])[j]? = some (upd fk ops.length x j, upd fp ops.length y j, upd fs ops.length z j) := by
  intro j hj
  rw [List.length_append, List.length_singleton] at hj
  by_cases h : j < ops.length
  · rw [List.getElem?_append_left h, hf j h]
    simp [upd, Nat.ne_of_lt h]
  · have e : j = ops.length := by omega
    subst e
    simp [upd]
def plR (ops : List Tr) (z : Int) : Int32 := if 0 ≤ z ∧ z < ops.length then (ops.getD z.toNat (0, 0, 0)).2.1 else iI 0
def bhR (ops : List Tr) (z : Int) : Int32 := if 0 ≤ z ∧ z < ops.length then (if (ops.getD z.toNat (0, 0, 0)).1 = iI 0 then (ops.getD z.toNat (0, 0, 0)).2.1 + iI 1 else (ops.getD z.toNat (0, 0, 0)).2.1) else iI 0
theorem plR_out {ops : List Tr} {z : Int} (h : ¬ (0 ≤ z ∧ z < ops.length)) : plR ops z = iI 0 := by unfold plR; rw [if_neg h]
theorem bhR_out {ops : List Tr} {z : Int} (h : ¬ (0 ≤ z ∧ z < ops.length)) : bhR ops z = iI 0 := by unfold bhR; rw [if_neg h]
theorem plR_in {ops : List Tr} {j : Nat} {t : Tr} (hj : j < ops.length) (ht : ops[j]? = some t) : plR ops (j : Int) = t.2.1 := by
  unfold plR
  rw [if_pos ⟨by omega, by omega⟩]
  simp [List.getD, ht]
theorem bhR_in {ops : List Tr} {j : Nat} {t : Tr} (hj : j < ops.length) (ht : ops[j]? = some t) : bhR ops (j : Int) = if t.1 = iI 0 then t.2.1 + iI 1 else t.2.1 := by
  unfold bhR
  rw [if_pos ⟨by omega, by omega⟩]
  simp [List.getD, ht]
/-! a script that diff made: deletes or not, place, symbol -/
abbrev Op : Type := Bool × Nat × Int32
def encO (o : Op) : Tr := (if o.1 then iI 0 else iI 1, iI (o.2.1 : Int), o.2.2)
def plI (ls : List Op) (z : Int) : Int := if 0 ≤ z ∧ z < ls.length then ((ls.getD z.toNat (true, 0, 0)).2.1 : Int) else 0
def bhI (ls : List Op) (z : Int) : Int := if 0 ≤ z ∧ z < ls.length then ((ls.getD z.toNat (true, 0, 0)).2.1 : Int) + (if (ls.getD z.toNat (true, 0, 0)).1 then 1 else 0) else 0
def Sm (ls : List Op) : Prop := ∀ (j : Nat) (t : Op), ls[j]? = some t → t.2.1 ≤ 20
theorem iI_ne {a b : Int} (h : a ≠ b) (h1 : -2147483648 ≤ a) (h2 : a < 2147483648) (h3 : -2147483648 ≤ b) (h4 : b < 2147483648) : iI a ≠ iI b := fun e => h ((iI_inj h1 h2 h3 h4).mp e)
theorem enc_k (o : Op) : (encO o).1 = iI 0 ↔ o.1 = true := by
  unfold encO
  cases h : o.1
  · simp
    exact iI_ne (by decide) (by decide) (by decide) (by decide) (by decide)
  · simp
theorem plRI (ls : List Op) (z : Int) : plR (ls.map encO) z = iI (plI ls z) := by
  unfold plR plI
  rw [List.length_map]
  by_cases h : 0 ≤ z ∧ z < ls.length
  · rw [if_pos h, if_pos h]
    obtain ⟨t, ht⟩ := some_of_lt (xs := ls) (j := z.toNat) (by omega)
    simp [List.getD, ht, encO]
  · rw [if_neg h, if_neg h]
theorem bhRI (ls : List Op) (z : Int) : bhR (ls.map encO) z = iI (bhI ls z) := by
  unfold bhR bhI
  rw [List.length_map]
  by_cases h : 0 ≤ z ∧ z < ls.length
  · rw [if_pos h, if_pos h]
    obtain ⟨t, ht⟩ := some_of_lt (xs := ls) (j := z.toNat) (by omega)
    have e1 : (List.map encO ls).getD z.toNat (0, 0, 0) = encO t := by simp [List.getD, ht]
    have e2 : ls.getD z.toNat (true, 0, 0) = t := by simp [List.getD, ht]
    rw [e1, e2]
    by_cases hk : t.1 = true
    · rw [if_pos ((enc_k t).mpr hk), if_pos hk]
      exact iI_add _ _
    · rw [if_neg (fun q => hk ((enc_k t).mp q)), if_neg hk, Int.add_zero]
      rfl
  · rw [if_neg h, if_neg h]
theorem plI_b {ls : List Op} (h : Sm ls) (z : Int) : 0 ≤ plI ls z ∧ plI ls z ≤ 20 := by
  unfold plI
  by_cases h1 : 0 ≤ z ∧ z < ls.length
  · rw [if_pos h1]
    obtain ⟨t, ht⟩ := some_of_lt (xs := ls) (j := z.toNat) (by omega)
    have := h _ t ht
    simp only [List.getD, ht, Option.getD_some]
    omega
  · rw [if_neg h1]; omega
theorem bhI_b {ls : List Op} (h : Sm ls) (z : Int) : 0 ≤ bhI ls z ∧ bhI ls z ≤ 21 := by
  unfold bhI
  by_cases h1 : 0 ≤ z ∧ z < ls.length
  · rw [if_pos h1]
    obtain ⟨t, ht⟩ := some_of_lt (xs := ls) (j := z.toNat) (by omega)
    have := h _ t ht
    simp only [List.getD, ht, Option.getD_some]
    split <;> omega
  · rw [if_neg h1]; omega
/-- does operation k begin a hunk -/
def beg (ls : List Op) (n : Int) (k : Nat) : Bool := decide (k = 0) || decide (2 * n < plI ls (k : Int) - bhI ls ((k : Int) - 1))
/-- how many hunks begin before operation k -/
def cB (ls : List Op) (n : Int) : Nat → Nat
  | 0 => 0
  | k + 1 => cB ls n k + (if beg ls n k then 1 else 0)
theorem cB_le (ls : List Op) (n : Int) : ∀ k, cB ls n k ≤ k
  | 0 => Nat.le_refl 0
  | k + 1 => by
    have := cB_le ls n k
    unfold cB
    split <;> omega
/-- how many of the operations a .. b - 1 delete (d = true), or insert -/
def cK (ls : List Op) (d : Bool) (a : Nat) : Nat → Nat
  | 0 => 0
  | k + 1 => cK ls d a k + (if a ≤ k ∧ (ls[k]?).map (·.1) = some d then 1 else 0)
theorem cK_le (ls : List Op) (d : Bool) (a : Nat) : ∀ k, cK ls d a k ≤ k
  | 0 => Nat.le_refl 0
  | k + 1 => by
    have := cK_le ls d a k
    unfold cK
    split <;> omega

def pX3_empty (G : GG) (ad : Nat → Nat) (ev : Nat → va_E) (i : Nat) : Option Value → (Nat → va_E) → Prop := fun v e2 => v = none ∧ ScrAt G ad e2 i [] ∧ Fr e2 ev (fun j => j = i ∨ j = i + 1 ∨ j = i + 2 ∨ j = i + 3)

set_option maxHeartbeats 4000000 in
set_option maxRecDepth 100000 in
theorem TX3_empty (l : Launch) {G : GG} {N : Nat} {ad : Nat → Nat} {ev : Nat → va_E} {i : Nat} {ops : List Tr} (hi : i + 3 < N) (hR : ScrAt G ad ev i ops) : Ct l yX3_empty wsX3_empty rmX3_empty [.ref (ad i)] G N ad ev 0 0 (pX3_empty G ad ev i) := by
  obtain ⟨fk, fp, fs, h0, h1, h2, h3, hf, hlc⟩ := id hR
  refine Ct_of (cc := cX3_empty) (maxL := 1) (ret := none) (lv := [(0, .ref (ad i))]) (by decide) rfl (Nat.le_of_ble_eq_true rfl) rfl ?_
  intro p E s m args below meth c A C hr hnm
  refine n_aload_n C dX3_empty_0 0 rfl rfl ?_
  refine n_iconst C dX3_empty_1 ?_
  refine n_put (k9 := 3) (fs2 := [.ref (ad (i + 1)), .ref (ad (i + 2)), .ref (ad (i + 3)), .int (iI 0)]) C dX3_empty_2 (by omega) h0 hX3_empty_X3 tyX3_ok nmX3 rfl (by decide) kX3_empty_21 rfl rfl rfl (Nat.le_of_ble_eq_true rfl) rfl (fun e1 hs2 ho3 => ?_)
  have h4 := (ho3 (i + 1) (by omega)).trans h1
  have h5 := (ho3 (i + 2) (by omega)).trans h2
  have h6 := (ho3 (i + 3) (by omega)).trans h3
  exact n_vret C hr dX3_empty_5 (⟨rfl, ⟨fk, fp, fs, hs2, h4, h5, h6, fun j hj => absurd hj (Nat.not_lt_zero j), Nat.zero_le _⟩, fun j hj => ho3 j (by omega)⟩)

def pX3_add (G : GG) (ad : Nat → Nat) (ev : Nat → va_E) (i : Nat) (ops : List Tr) (x y z : Int32) : Option Value → (Nat → va_E) → Prop := fun v e2 => v = some (.int (bI (decide (ops.length < 60)))) ∧ ScrAt G ad e2 i (if ops.length < 60 then ops ++ [(x, y, z)] else ops) ∧ Fr e2 ev (fun j => j = i ∨ j = i + 1 ∨ j = i + 2 ∨ j = i + 3)

set_option maxHeartbeats 4000000 in
set_option maxRecDepth 100000 in
theorem TX3_add (l : Launch) {G : GG} {N : Nat} {ad : Nat → Nat} {ev : Nat → va_E} {i : Nat} {ops : List Tr} {x y z : Int32} (hi : i + 3 < N) (hR : ScrAt G ad ev i ops) : Ct l yX3_add wsX3_add rmX3_add [.ref (ad i), .int x, .int y, .int z] G N ad ev 0 0 (pX3_add G ad ev i ops x y z) := by
  obtain ⟨fk, fp, fs, h0, h1, h2, h3, hf, hlc⟩ := id hR
  refine Ct_of (cc := cX3_add) (maxL := 4) (ret := some .boolean) (lv := [(0, .ref (ad i)), (1, .int x), (2, .int y), (3, .int z)]) (by decide) rfl (Nat.le_of_ble_eq_true rfl) rfl ?_
  intro p E s m args below meth c A C hr hnm
  refine n_aload_n C dX3_add_0 0 rfl rfl ?_
  refine n_get (k9 := 3) C dX3_add_1 (by omega) h0 hX3_add_X3 rfl (by decide) kX3_add_21 rfl ?_
  refine n_bipush C dX3_add_4 (by decide) ?_
  refine n_icmp_lt C dX3_add_6 (by decide) (by omega) (by omega) (by omega) (by omega) (tgt := 11) (fun c1 => ?_) (fun c1 => ?_)
  · refine n_aload_n C dX3_add_11 0 rfl rfl ?_
    refine n_get (k9 := 0) C dX3_add_12 (by omega) h0 hX3_add_X3 rfl (by decide) kX3_add_9 rfl ?_
    refine n_aload_n C dX3_add_15 0 rfl rfl ?_
    refine n_get (k9 := 3) C dX3_add_16 (by omega) h0 hX3_add_X3 rfl (by decide) kX3_add_21 rfl ?_
    refine n_iload_n C dX3_add_19 1 rfl rfl ?_
    refine n_iast (j := ops.length) C dX3_add_20 (by omega) h1 (by omega) (by omega) (by omega) (fun e1 hs2 ho3 => ?_)
    have h4 := (ho3 i (by omega)).trans h0
    have h5 := (ho3 (i + 2) (by omega)).trans h2
    have h6 := (ho3 (i + 3) (by omega)).trans h3
    refine n_aload_n C dX3_add_21 0 rfl rfl ?_
    refine n_get (k9 := 1) C dX3_add_22 (by omega) h4 hX3_add_X3 rfl (by decide) kX3_add_15 rfl ?_
    refine n_aload_n C dX3_add_25 0 rfl rfl ?_
    refine n_get (k9 := 3) C dX3_add_26 (by omega) h4 hX3_add_X3 rfl (by decide) kX3_add_21 rfl ?_
    refine n_iload_n C dX3_add_29 2 rfl rfl ?_
    refine n_iast (j := ops.length) C dX3_add_30 (by omega) h5 (by omega) (by omega) (by omega) (fun e7 hs8 ho9 => ?_)
    have h10 := (ho9 i (by omega)).trans h4
    have h11 := (ho9 (i + 1) (by omega)).trans hs2
    have h12 := (ho9 (i + 3) (by omega)).trans h6
    refine n_aload_n C dX3_add_31 0 rfl rfl ?_
    refine n_get (k9 := 2) C dX3_add_32 (by omega) h10 hX3_add_X3 rfl (by decide) kX3_add_18 rfl ?_
    refine n_aload_n C dX3_add_35 0 rfl rfl ?_
    refine n_get (k9 := 3) C dX3_add_36 (by omega) h10 hX3_add_X3 rfl (by decide) kX3_add_21 rfl ?_
    refine n_iload_n C dX3_add_39 3 rfl rfl ?_
    refine n_iast (j := ops.length) C dX3_add_40 (by omega) h12 (by omega) (by omega) (by omega) (fun e13 hs14 ho15 => ?_)
    have h16 := (ho15 i (by omega)).trans h10
    have h17 := (ho15 (i + 1) (by omega)).trans h11
    have h18 := (ho15 (i + 2) (by omega)).trans hs8
    refine n_aload_n C dX3_add_41 0 rfl rfl ?_
    refine n_dup C dX3_add_42 rfl ?_
    refine n_get (k9 := 3) C dX3_add_43 (by omega) h16 hX3_add_X3 rfl (by decide) kX3_add_21 rfl ?_
    refine n_iconst C dX3_add_46 ?_
    refine n_iadd C dX3_add_47 ?_
    refine n_put (k9 := 3) (fs2 := [.ref (ad (i + 1)), .ref (ad (i + 2)), .ref (ad (i + 3)), .int (iI ((ops.length : Int) + 1))]) C dX3_add_48 (by omega) h16 hX3_add_X3 tyX3_ok nmX3 rfl (by decide) kX3_add_21 rfl rfl rfl (Nat.le_of_ble_eq_true rfl) rfl (fun e19 hs20 ho21 => ?_)
    have h22 := (ho21 (i + 1) (by omega)).trans h17
    have h23 := (ho21 (i + 2) (by omega)).trans h18
    have h24 := (ho21 (i + 3) (by omega)).trans hs14
    refine n_iconst C dX3_add_51 ?_
    have c2 : ops.length < 60 := by omega
    exact n_zret C hr dX3_add_52 (by decide) (by
      unfold pX3_add
      rw [if_pos c2, decide_eq_true c2]
      exact ⟨rfl, ⟨_, _, _, hs20.trans (by simp), h22, h23, h24, push_t hf, by simp; omega⟩, fun j hj => (((ho21 j (by omega)).trans (ho15 j (by omega))).trans (ho9 j (by omega))).trans (ho3 j (by omega))⟩)
  · refine n_iconst C dX3_add_9 ?_
    have c2 : ¬ ops.length < 60 := by omega
    exact n_zret C hr dX3_add_10 (by decide) (by
      unfold pX3_add
      rw [if_neg c2, decide_eq_false c2]
      exact ⟨rfl, hR, Fr.rf⟩)

def pX3_has (ev : Nat → va_E) (ops : List Tr) (z : Int) : Option Value → (Nat → va_E) → Prop := fun v e2 => v = some (.int (bI (decide (0 ≤ z ∧ z < ops.length)))) ∧ ev = e2

set_option maxHeartbeats 4000000 in
set_option maxRecDepth 100000 in
theorem TX3_has (l : Launch) {G : GG} {N : Nat} {ad : Nat → Nat} {ev : Nat → va_E} {i : Nat} {ops : List Tr} {z : Int} (hi : i + 3 < N) (hR : ScrAt G ad ev i ops) (hz1 : -2147483648 ≤ z) (hz2 : z < 2147483648) : Ct l yX3_has wsX3_has rmX3_has [.ref (ad i), .int (iI z)] G N ad ev 0 0 (pX3_has ev ops z) := by
  obtain ⟨fk, fp, fs, h0, h1, h2, h3, hf, hlc⟩ := id hR
  refine Ct_of (cc := cX3_has) (maxL := 2) (ret := some .boolean) (lv := [(0, .ref (ad i)), (1, .int (iI z))]) (by decide) rfl (Nat.le_of_ble_eq_true rfl) rfl ?_
  intro p E s m args below meth c A C hr hnm
  refine n_iload_n C dX3_has_0 1 rfl rfl ?_
  refine n_if_lt C dX3_has_1 (by decide) (by omega) (by omega) (tgt := 16) (fun c1 => ?_) (fun c1 => ?_)
  · refine n_iconst C dX3_has_16 ?_
    exact n_zret C hr dX3_has_17 (by decide) (⟨by rw [decide_eq_false (by omega)]; rfl, rfl⟩)
  · refine n_iload_n C dX3_has_4 1 rfl rfl ?_
    refine n_aload_n C dX3_has_5 0 rfl rfl ?_
    refine n_get (k9 := 3) C dX3_has_6 (by omega) h0 hX3_has_X3 rfl (by decide) kX3_has_21 rfl ?_
    refine n_icmp_ge C dX3_has_9 (by decide) (by omega) (by omega) (by omega) (by omega) (tgt := 16) (fun c2 => ?_) (fun c2 => ?_)
    · refine n_iconst C dX3_has_16 ?_
      exact n_zret C hr dX3_has_17 (by decide) (⟨by rw [decide_eq_false (by omega)]; rfl, rfl⟩)
    · refine n_iconst C dX3_has_12 ?_
      refine n_goto (tgt := 17) C dX3_has_13 (by decide) ?_
      exact n_zret C hr dX3_has_17 (by decide) (⟨by rw [decide_eq_true (by omega)]; rfl, rfl⟩)

def pX3_placeOf (ev : Nat → va_E) (ops : List Tr) (z : Int) : Option Value → (Nat → va_E) → Prop := fun v e2 => v = some (.int (plR ops z)) ∧ ev = e2

set_option maxHeartbeats 4000000 in
set_option maxRecDepth 100000 in
theorem TX3_placeOf (l : Launch) {G : GG} {N : Nat} {ad : Nat → Nat} {ev : Nat → va_E} {i : Nat} {ops : List Tr} {z : Int} (hi : i + 3 < N) (hR : ScrAt G ad ev i ops) (hz1 : -2147483648 ≤ z) (hz2 : z < 2147483648) : Ct l yX3_placeOf wsX3_placeOf rmX3_placeOf [.ref (ad i), .int (iI z)] G N ad ev 0 0 (pX3_placeOf ev ops z) := by
  obtain ⟨fk, fp, fs, h0, h1, h2, h3, hf, hlc⟩ := id hR
  refine Ct_of (cc := cX3_placeOf) (maxL := 2) (ret := some .int) (lv := [(0, .ref (ad i)), (1, .int (iI z))]) (by decide) rfl (Nat.le_of_ble_eq_true rfl) rfl ?_
  intro p E s m args below meth c A C hr hnm
  refine n_aload_n C dX3_placeOf_0 0 rfl rfl ?_
  refine n_iload_n C dX3_placeOf_1 1 rfl rfl ?_
  refine n_callV (rest := []) C dX3_placeOf_2 (TX3_has l hi hR hz1 hz2) (cwV 1 C.2.2.2.2.1 gX3_placeOf_X3_has rfl rfl rfl cdX3_has ⟨Nat.le_of_ble_eq_true rfl, Nat.le_of_ble_eq_true rfl⟩) (by omega) h0 rfl rfl rfl (Nat.le_of_ble_eq_true rfl) ⟨Nat.le_of_ble_eq_true rfl, Nat.le_of_ble_eq_true rfl⟩ ?_
  rintro _ _ ⟨rfl, rfl⟩
  refine n_pc (pc2 := 5) rfl (n_st (st2 := [.int (bI (decide (0 ≤ z ∧ z < ops.length)))]) rfl ?_)
  refine n_if_eqB C dX3_placeOf_5 (by decide) (tgt := 17) (fun c1 => ?_) (fun c1 => ?_)
  · refine n_iconst C dX3_placeOf_17 ?_
    exact n_iret C hr dX3_placeOf_18 (⟨by rw [plR_out (of_decide_eq_false c1)], rfl⟩)
  · have c2 := of_decide_eq_true c1
    obtain ⟨j, rfl⟩ : ∃ j : Nat, z = (j : Int) := ⟨z.toNat, by omega⟩
    refine n_aload_n C dX3_placeOf_8 0 rfl rfl ?_
    refine n_get (k9 := 1) C dX3_placeOf_9 (by omega) h0 hX3_placeOf_X3 rfl (by decide) kX3_placeOf_15 rfl ?_
    refine n_iload_n C dX3_placeOf_12 1 rfl rfl ?_
    refine n_iald (j := j) C dX3_placeOf_13 (by omega) h2 (by omega) (by omega) (by omega) ?_
    refine n_goto (tgt := 18) C dX3_placeOf_14 (by decide) ?_
    exact n_iret C hr dX3_placeOf_18 (⟨by rw [plR_in (by omega) (hf j (by omega))], rfl⟩)

def pX3_behind (ev : Nat → va_E) (ops : List Tr) (z : Int) : Option Value → (Nat → va_E) → Prop := fun v e2 => v = some (.int (bhR ops z)) ∧ ev = e2

set_option maxHeartbeats 4000000 in
set_option maxRecDepth 100000 in
theorem TX3_behind (l : Launch) {G : GG} {N : Nat} {ad : Nat → Nat} {ev : Nat → va_E} {i : Nat} {ops : List Tr} {z : Int} (hi : i + 3 < N) (hR : ScrAt G ad ev i ops) (hz1 : -2147483648 ≤ z) (hz2 : z < 2147483648) : Ct l yX3_behind wsX3_behind rmX3_behind [.ref (ad i), .int (iI z)] G N ad ev 0 0 (pX3_behind ev ops z) := by
  obtain ⟨fk, fp, fs, h0, h1, h2, h3, hf, hlc⟩ := id hR
  refine Ct_of (cc := cX3_behind) (maxL := 2) (ret := some .int) (lv := [(0, .ref (ad i)), (1, .int (iI z))]) (by decide) rfl (Nat.le_of_ble_eq_true rfl) rfl ?_
  intro p E s m args below meth c A C hr hnm
  refine n_aload_n C dX3_behind_0 0 rfl rfl ?_
  refine n_iload_n C dX3_behind_1 1 rfl rfl ?_
  refine n_callV (rest := []) C dX3_behind_2 (TX3_has l hi hR hz1 hz2) (cwV 1 C.2.2.2.2.1 gX3_behind_X3_has rfl rfl rfl cdX3_has ⟨Nat.le_of_ble_eq_true rfl, Nat.le_of_ble_eq_true rfl⟩) (by omega) h0 rfl rfl rfl (Nat.le_of_ble_eq_true rfl) ⟨Nat.le_of_ble_eq_true rfl, Nat.le_of_ble_eq_true rfl⟩ ?_
  rintro _ _ ⟨rfl, rfl⟩
  refine n_pc (pc2 := 5) rfl (n_st (st2 := [.int (bI (decide (0 ≤ z ∧ z < ops.length)))]) rfl ?_)
  refine n_if_neB C dX3_behind_5 (by decide) (tgt := 10) (fun c1 => ?_) (fun c1 => ?_)
  · have c2 := of_decide_eq_true c1
    obtain ⟨j, rfl⟩ : ∃ j : Nat, z = (j : Int) := ⟨z.toNat, by omega⟩
    refine n_aload_n C dX3_behind_10 0 rfl rfl ?_
    refine n_get (k9 := 0) C dX3_behind_11 (by omega) h0 hX3_behind_X3 rfl (by decide) kX3_behind_9 rfl ?_
    refine n_iload_n C dX3_behind_14 1 rfl rfl ?_
    refine n_iald (j := j) C dX3_behind_15 (by omega) h1 (by omega) (by omega) (by omega) ?_
    refine n_if_neR C dX3_behind_16 (by decide) (tgt := 30) (fun c3 => ?_) (fun c3 => ?_)
    · refine n_aload_n C dX3_behind_30 0 rfl rfl ?_
      refine n_get (k9 := 1) C dX3_behind_31 (by omega) h0 hX3_behind_X3 rfl (by decide) kX3_behind_15 rfl ?_
      refine n_iload_n C dX3_behind_34 1 rfl rfl ?_
      refine n_iald (j := j) C dX3_behind_35 (by omega) h2 (by omega) (by omega) (by omega) ?_
      exact n_iret C hr dX3_behind_36 (⟨by rw [bhR_in (by omega) (hf j (by omega))]; rw [if_neg c3], rfl⟩)
    · refine n_aload_n C dX3_behind_19 0 rfl rfl ?_
      refine n_get (k9 := 1) C dX3_behind_20 (by omega) h0 hX3_behind_X3 rfl (by decide) kX3_behind_15 rfl ?_
      refine n_iload_n C dX3_behind_23 1 rfl rfl ?_
      refine n_iald (j := j) C dX3_behind_24 (by omega) h2 (by omega) (by omega) (by omega) ?_
      refine n_topI (y := (iI ((fp j).toInt))) ((iI_self (fp j)).symm) ?_
      refine n_iconst C dX3_behind_25 ?_
      refine n_iadd C dX3_behind_26 ?_
      refine n_goto (tgt := 36) C dX3_behind_27 (by decide) ?_
      exact n_iret C hr dX3_behind_36 (⟨by rw [bhR_in (by omega) (hf j (by omega))]; rw [if_pos c3, ← iI_add, iI_self], rfl⟩)
  · refine n_iconst C dX3_behind_8 ?_
    exact n_iret C hr dX3_behind_9 (⟨by rw [bhR_out (of_decide_eq_false c1)], rfl⟩)
