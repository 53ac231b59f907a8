def pX2_empty (G : GG) (ad : Nat → Nat) (ev : Nat → va_E) (i cap : Nat) : Option Value → (Nat → va_E) → Prop := fun v e2 => v = none ∧ RowAt G ad e2 i [] cap ∧ Fr e2 ev (fun j => j = i ∨ j = i + 1)

set_option maxHeartbeats 4000000 in
set_option maxRecDepth 100000 in
theorem TX2_empty (l : Launch) {G : GG} {N : Nat} {ad : Nat → Nat} {ev : Nat → va_E} {i cap : Nat} {xs : List Int32} (hi : i + 1 < N) (hR : RowAt G ad ev i xs cap) : Ct l yX2_empty wsX2_empty rmX2_empty [.ref (ad i)] G N ad ev 0 0 (pX2_empty G ad ev i cap) := by
  obtain ⟨f, h0, h1, hf, hlc, hc⟩ := hR
  refine Ct_of (cc := cX2_empty) (maxL := 1) (ret := none) (lv := [(0, .ref (ad i))]) (by decide) rfl (Nat.le_of_ble_eq_true rfl) rfl ?_
  intro p E s m args below meth c A C hr hnm
  refine n_aload_n C dX2_empty_0 0 rfl rfl ?_
  refine n_iconst C dX2_empty_1 ?_
  refine n_put (k9 := 1) (fs2 := [.ref (ad (i + 1)), .int (iI 0)]) C dX2_empty_2 (by omega) h0 hX2_empty_X2 tyX2_ok nmX2 rfl (by decide) kX2_empty_15 rfl rfl rfl (Nat.le_of_ble_eq_true rfl) rfl (fun e1 hs2 ho3 => ?_)
  have h4 := (ho3 (i + 1) (by omega)).trans h1
  exact n_vret C hr dX2_empty_5 (⟨rfl, ⟨f, hs2, h4, fun j hj => absurd hj (Nat.not_lt_zero j), Nat.zero_le _, hc⟩, fun j hj => ho3 j (by omega)⟩)

def pX2_add (G : GG) (ad : Nat → Nat) (ev : Nat → va_E) (i cap : Nat) (xs : List Int32) (x : Int32) : Option Value → (Nat → va_E) → Prop := fun v e2 => v = some (.int (bI (decide (xs.length < cap)))) ∧ RowAt G ad e2 i (if xs.length < cap then xs ++ [x] else xs) cap ∧ Fr e2 ev (fun j => j = i ∨ j = i + 1)

set_option maxHeartbeats 4000000 in
set_option maxRecDepth 100000 in
theorem TX2_add (l : Launch) {G : GG} {N : Nat} {ad : Nat → Nat} {ev : Nat → va_E} {i cap : Nat} {xs : List Int32} {x : Int32} (hi : i + 1 < N) (hR : RowAt G ad ev i xs cap) : Ct l yX2_add wsX2_add rmX2_add [.ref (ad i), .int x] G N ad ev 0 0 (pX2_add G ad ev i cap xs x) := by
  obtain ⟨f, h0, h1, hf, hlc, hc⟩ := hR
  refine Ct_of (cc := cX2_add) (maxL := 2) (ret := some .boolean) (lv := [(0, .ref (ad i)), (1, .int x)]) (by decide) rfl (Nat.le_of_ble_eq_true rfl) rfl ?_
  intro p E s m args below meth c A C hr hnm
  refine n_aload_n C dX2_add_0 0 rfl rfl ?_
  refine n_get (k9 := 1) C dX2_add_1 (by omega) h0 hX2_add_X2 rfl (by decide) kX2_add_15 rfl ?_
  refine n_aload_n C dX2_add_4 0 rfl rfl ?_
  refine n_get (k9 := 0) C dX2_add_5 (by omega) h0 hX2_add_X2 rfl (by decide) kX2_add_9 rfl ?_
  refine n_alen C dX2_add_8 (by omega) h1 ?_
  refine n_st (st2 := [.int (iI (cap : Nat)), .int (iI (xs.length : Int))]) rfl ?_
  refine n_icmp_lt C dX2_add_9 (by decide) (by omega) (by omega) (by omega) (by omega) (tgt := 14) (fun c1 => ?_) (fun c1 => ?_)
  · refine n_aload_n C dX2_add_14 0 rfl rfl ?_
    refine n_get (k9 := 0) C dX2_add_15 (by omega) h0 hX2_add_X2 rfl (by decide) kX2_add_9 rfl ?_
    refine n_aload_n C dX2_add_18 0 rfl rfl ?_
    refine n_get (k9 := 1) C dX2_add_19 (by omega) h0 hX2_add_X2 rfl (by decide) kX2_add_15 rfl ?_
    refine n_iload_n C dX2_add_22 1 rfl rfl ?_
    refine n_iast (j := xs.length) C dX2_add_23 (by omega) h1 (by omega) (by omega) (by omega) (fun e1 hs2 ho3 => ?_)
    have h4 := (ho3 i (by omega)).trans h0
    refine n_aload_n C dX2_add_24 0 rfl rfl ?_
    refine n_dup C dX2_add_25 rfl ?_
    refine n_get (k9 := 1) C dX2_add_26 (by omega) h4 hX2_add_X2 rfl (by decide) kX2_add_15 rfl ?_
    refine n_iconst C dX2_add_29 ?_
    refine n_iadd C dX2_add_30 ?_
    refine n_put (k9 := 1) (fs2 := [.ref (ad (i + 1)), .int (iI ((xs.length : Int) + 1))]) C dX2_add_31 (by omega) h4 hX2_add_X2 tyX2_ok nmX2 rfl (by decide) kX2_add_15 rfl rfl rfl (Nat.le_of_ble_eq_true rfl) rfl (fun e5 hs6 ho7 => ?_)
    have h8 := (ho7 (i + 1) (by omega)).trans hs2
    refine n_iconst C dX2_add_34 ?_
    have c2 : xs.length < cap := by omega
    exact n_zret C hr dX2_add_35 (by decide) (by
      unfold pX2_add
      rw [if_pos c2, decide_eq_true c2]
      exact ⟨rfl, ⟨_, hs6.trans (by simp), h8, push_f hf, by simp; omega, hc⟩, fun j hj => (ho7 j (by omega)).trans (ho3 j (by omega))⟩)
  · refine n_iconst C dX2_add_12 ?_
    have c2 : ¬ xs.length < cap := by omega
    exact n_zret C hr dX2_add_13 (by decide) (by
      unfold pX2_add
      rw [if_neg c2, decide_eq_false c2]
      exact ⟨rfl, ⟨f, h0, h1, hf, hlc, hc⟩, Fr.rf⟩)

def pX2_at (ev : Nat → va_E) (xs : List Int32) (z : Int) (o : Int32) : Option Value → (Nat → va_E) → Prop := fun v e2 => v = some (.int (atD xs z o)) ∧ ev = e2

set_option maxHeartbeats 4000000 in
set_option maxRecDepth 100000 in
theorem TX2_at (l : Launch) {G : GG} {N : Nat} {ad : Nat → Nat} {ev : Nat → va_E} {i cap : Nat} {xs : List Int32} {z : Int} {o : Int32} (hi : i + 1 < N) (hR : RowAt G ad ev i xs cap) (hz1 : -2147483648 ≤ z) (hz2 : z < 2147483648) : Ct l yX2_at wsX2_at rmX2_at [.ref (ad i), .int (iI z), .int o] G N ad ev 0 0 (pX2_at ev xs z o) := by
  obtain ⟨f, h0, h1, hf, hlc, hc⟩ := hR
  refine Ct_of (cc := cX2_at) (maxL := 3) (ret := some .int) (lv := [(0, .ref (ad i)), (1, .int (iI z)), (2, .int o)]) (by decide) rfl (Nat.le_of_ble_eq_true rfl) rfl ?_
  intro p E s m args below meth c A C hr hnm
  refine n_iload_n C dX2_at_0 1 rfl rfl ?_
  refine n_if_lt C dX2_at_1 (by decide) (by omega) (by omega) (tgt := 21) (fun c1 => ?_) (fun c1 => ?_)
  · refine n_iload_n C dX2_at_21 2 rfl rfl ?_
    exact n_iret C hr dX2_at_22 (⟨by rw [atD_out (Or.inl c1)], rfl⟩)
  · refine n_iload_n C dX2_at_4 1 rfl rfl ?_
    refine n_aload_n C dX2_at_5 0 rfl rfl ?_
    refine n_get (k9 := 1) C dX2_at_6 (by omega) h0 hX2_at_X2 rfl (by decide) kX2_at_15 rfl ?_
    refine n_icmp_ge C dX2_at_9 (by decide) (by omega) (by omega) (by omega) (by omega) (tgt := 21) (fun c2 => ?_) (fun c2 => ?_)
    · refine n_iload_n C dX2_at_21 2 rfl rfl ?_
      exact n_iret C hr dX2_at_22 (⟨by rw [atD_out (Or.inr c2)], rfl⟩)
    · obtain ⟨j, rfl⟩ : ∃ j : Nat, z = (j : Int) := ⟨z.toNat, by omega⟩
      refine n_aload_n C dX2_at_12 0 rfl rfl ?_
      refine n_get (k9 := 0) C dX2_at_13 (by omega) h0 hX2_at_X2 rfl (by decide) kX2_at_9 rfl ?_
      refine n_iload_n C dX2_at_16 1 rfl rfl ?_
      refine n_iald (j := j) C dX2_at_17 (by omega) h1 (by omega) (by omega) (by omega) ?_
      refine n_goto (tgt := 22) C dX2_at_18 (by decide) ?_
      exact n_iret C hr dX2_at_22 (⟨by rw [atD_in rfl (by omega) (hf j (by omega))], rfl⟩)

/-- symbols a .. b - 1 of a row -/
def sl (ys : List Int32) (a b : Nat) : List Int32 := (ys.drop a).take (b - a)
theorem sl_none {ys : List Int32} {a b : Nat} (h : b ≤ a) : sl ys a b = [] := by
  unfold sl
  rw [show b - a = 0 by omega, List.take_zero]
theorem sl_len {ys : List Int32} {a b : Nat} (h : b ≤ ys.length) : (sl ys a b).length = b - a := by
  unfold sl
  rw [List.length_take, List.length_drop]
  omega
theorem sl_succ {ys : List Int32} {a k : Nat} {x : Int32} (h : a ≤ k) (hx : ys[k]? = some x) : sl ys a (k + 1) = sl ys a k ++ [x] := by
  unfold sl
  rw [show k + 1 - a = (k - a) + 1 by omega, List.take_add_one, List.getElem?_drop, show a + (k - a) = k by omega, hx]
  rfl
def pX2_addAll (G : GG) (ad : Nat → Nat) (ev : Nat → va_E) (i cap : Nat) (xs ys : List Int32) (a b : Nat) : Option Value → (Nat → va_E) → Prop := fun v e2 => v = none ∧ RowAt G ad e2 i (xs ++ sl ys a b) cap ∧ Fr e2 ev (fun j => j = i ∨ j = i + 1)

set_option maxHeartbeats 4000000 in
set_option maxRecDepth 100000 in
theorem TX2_addAll (l : Launch) {G : GG} {N : Nat} {ad : Nat → Nat} {ev : Nat → va_E} {i cap q cq a b : Nat} {xs ys : List Int32} (hi : i + 1 < N) (hR : RowAt G ad ev i xs cap) (hq : q + 1 < N) (hRq : RowAt G ad ev q ys cq) (hne : q ≠ i) (hne1 : q ≠ i + 1) (hne2 : q + 1 ≠ i) (hb : b ≤ ys.length) (hcap : xs.length + (b - a) ≤ cap) (ha : a ≤ 1000) : Ct l yX2_addAll wsX2_addAll rmX2_addAll [.ref (ad i), .ref (ad q), .int (iI (a : Int)), .int (iI (b : Int))] G N ad ev 0 0 (pX2_addAll G ad ev i cap xs ys a b) := by
  have hle := hR.le
  have hle2 := hRq.le
  refine Ct_of (cc := cX2_addAll) (maxL := 5) (ret := none) (lv := [(0, .ref (ad i)), (1, .ref (ad q)), (2, .int (iI (a : Int))), (3, .int (iI (b : Int)))]) (by decide) rfl (Nat.le_of_ble_eq_true rfl) rfl ?_
  intro p E s m args below meth c A C hr hnm
  refine n_iload_n C dX2_addAll_0 2 rfl rfl ?_
  refine n_istore (lv' := [(0, .ref (ad i)), (1, .ref (ad q)), (2, .int (iI (a : Int))), (3, .int (iI (b : Int))), (4, .int (iI (a : Int)))]) C dX2_addAll_1 (by decide) rfl ?_
  have loop : ∀ (n9 : Nat) (k : Nat) (e1 : Nat → va_E), b + 1 - k < n9 → (a ≤ k) → (k ≤ b ∨ k = a) → (RowAt G ad e1 i (xs ++ sl ys a k) cap) → (RowAt G ad e1 q ys cq) → (Fr e1 ev (fun j => j = i ∨ j = i + 1)) → V p l E rmX2_addAll s m args below meth c G A 5 (MQ below (Qg G N ad A (pX2_addAll G ad ev i cap xs ys a b)) args s 0 0 A) N ad e1 0 0 3 [(0, .ref (ad i)), (1, .ref (ad q)), (2, .int (iI (a : Int))), (3, .int (iI (b : Int))), (4, .int (iI (k : Int)))] [] := by
    intro n9
    induction n9 with
    | zero =>
      intro k e1 hm9
      exact absurd hm9 (Nat.not_lt_zero _)
    | succ n9 ih =>
      intro k e1 hm9 hak hkb r1 r2 hF
      refine n_iload C dX2_addAll_3 4 rfl ?_
      refine n_iload_n C dX2_addAll_5 3 rfl rfl ?_
      refine n_icmp_ge C dX2_addAll_6 (by decide) (by omega) (by omega) (by omega) (by omega) (tgt := 27) (fun c1 => ?_) (fun c1 => ?_)
      · have hs9 : sl ys a k = sl ys a b := by
          rcases hkb with h | h
          · rw [show k = b by omega]
          · rw [h, sl_none (Nat.le_refl a), sl_none (by omega)]
        exact n_vret C hr dX2_addAll_27 (⟨rfl, by rw [← hs9]; exact r1, hF⟩)
      · obtain ⟨x9, hx9⟩ := some_of_lt (show k < ys.length by omega)
        obtain ⟨f0, g0, g1, g2⟩ := id r1
        obtain ⟨f3, g3, g4, g5⟩ := id r2
        refine n_aload_n C dX2_addAll_9 0 rfl rfl ?_
        refine n_aload_n C dX2_addAll_10 1 rfl rfl ?_
        refine n_iload C dX2_addAll_11 4 rfl ?_
        refine n_iconst C dX2_addAll_13 ?_
        refine n_callV (rest := [.ref (ad i)]) C dX2_addAll_14 (TX2_at l hq r2 (by omega) (by omega)) (cwV 2 C.2.2.2.2.1 gX2_addAll_X2_at rfl rfl rfl cdX2_at ⟨Nat.le_of_ble_eq_true rfl, Nat.le_of_ble_eq_true rfl⟩) (by omega) g3 rfl rfl rfl (Nat.le_of_ble_eq_true rfl) ⟨Nat.le_of_ble_eq_true rfl, Nat.le_of_ble_eq_true rfl⟩ ?_
        rintro _ _ ⟨rfl, rfl⟩
        refine n_pc (pc2 := 17) rfl (n_st (st2 := [.int (atD ys (k : Int) (iI (-1))), .ref (ad i)]) rfl ?_)
        refine n_topI (y := x9) (atD_in rfl (by omega) hx9) ?_
        refine n_callV (rest := []) C dX2_addAll_17 (TX2_add l hi r1 (x := x9)) (cwV 1 C.2.2.2.2.1 gX2_addAll_X2_add rfl rfl rfl cdX2_add ⟨Nat.le_of_ble_eq_true rfl, Nat.le_of_ble_eq_true rfl⟩) (by omega) g0 rfl rfl rfl (Nat.le_of_ble_eq_true rfl) ⟨Nat.le_of_ble_eq_true rfl, Nat.le_of_ble_eq_true rfl⟩ ?_
        rintro _ e2 ⟨rfl, r3, hF2⟩
        refine n_pc (pc2 := 20) rfl (n_st (st2 := [.int (bI (decide ((xs ++ sl ys a k).length < cap)))]) rfl ?_)
        have hlen : (xs ++ sl ys a k).length < cap := by rw [List.length_append, sl_len (by omega)]; omega
        rw [if_pos hlen, List.append_assoc, ← sl_succ hak hx9] at r3
        refine n_pop C dX2_addAll_20 rfl ?_
        refine n_iinc (lv' := [(0, .ref (ad i)), (1, .ref (ad q)), (2, .int (iI (a : Int))), (3, .int (iI (b : Int))), (4, .int (iI ((k : Int) + 1)))]) C dX2_addAll_21 4 rfl (by decide) rfl ?_
        refine n_goto (tgt := 3) C dX2_addAll_24 (by decide) ?_
        exact ih (k + 1) e2 (by omega) (by omega) (by omega) r3 (r2.fr hF2 (by omega) (by omega)) (hF2.tr hF)
  exact loop _ a ev (Nat.lt_succ_self _) (Nat.le_refl a) (Or.inr rfl) (by rw [sl_none (Nat.le_refl a), List.append_nil]; exact hR) hRq Fr.rf
