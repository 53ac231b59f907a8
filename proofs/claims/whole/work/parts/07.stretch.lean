/-! Stretch: cell i; of the row at cell q, the symbols a .. b - 1 -/
def StrAt (ad : Nat → Nat) (ev : Nat → va_E) (i q : Nat) (a b : Int) : Prop := ev i = .inr (4, [.ref (ad q), .int (iI a), .int (iI b)])
theorem sl_get {ys : List Int32} {a b k : Nat} (h : a + k < b) (hb : b ≤ ys.length) : (sl ys a b)[k]? = ys[a + k]? := by
  unfold sl
  rw [List.getElem?_take_of_lt (by omega), List.getElem?_drop]
theorem sl_eq {xs ys : List Int32} {a b c d : Nat} (h1 : a ≤ b) (h2 : b ≤ xs.length) (h3 : c ≤ d) (h4 : d ≤ ys.length) (hl : b - a = d - c) (h : ∀ k, k < b - a → xs[a + k]? = ys[c + k]?) : sl xs a b = sl ys c d := by
  apply List.ext_getElem?
  intro k
  by_cases hk : k < b - a
  · rw [sl_get (by omega) h2, sl_get (by omega) h4, h k hk]
  · rw [List.getElem?_eq_none_iff.mpr (by rw [sl_len h2]; omega), List.getElem?_eq_none_iff.mpr (by rw [sl_len h4]; omega)]

def pX4_begin (ad : Nat → Nat) (ev : Nat → va_E) (i q : Nat) : Option Value → (Nat → va_E) → Prop := fun v e2 => v = none ∧ StrAt ad e2 i q 0 0 ∧ Fr e2 ev (fun j => j = i)

set_option maxHeartbeats 4000000 in
set_option maxRecDepth 100000 in
theorem TX4_begin (l : Launch) {G : GG} {N : Nat} {ad : Nat → Nat} {ev : Nat → va_E} {i q x : Nat} {a b : Int} (hi : i < N) (h0 : ev i = .inr (4, [.ref x, .int (iI a), .int (iI b)])) : Ct l yX4_begin wsX4_begin rmX4_begin [.ref (ad i), .ref (ad q)] G N ad ev 0 0 (pX4_begin ad ev i q) := by
  refine Ct_of (cc := cX4_begin) (maxL := 2) (ret := none) (lv := [(0, .ref (ad i)), (1, .ref (ad q))]) (by decide) rfl (Nat.le_of_ble_eq_true rfl) rfl ?_
  intro p E s m args below meth c A C hr hnm
  refine n_aload_n C dX4_begin_0 0 rfl rfl ?_
  refine n_aload_n C dX4_begin_1 1 rfl rfl ?_
  refine n_put (k9 := 0) (fs2 := [.ref (ad q), .int (iI a), .int (iI b)]) C dX4_begin_2 (by omega) h0 hX4_begin_X4 tyX4_ok nmX4 rfl (by decide) kX4_begin_14 rfl rfl rfl (Nat.le_of_ble_eq_true rfl) rfl (fun e1 hs2 ho3 => ?_)
  refine n_aload_n C dX4_begin_5 0 rfl rfl ?_
  refine n_iconst C dX4_begin_6 ?_
  refine n_put (k9 := 1) (fs2 := [.ref (ad q), .int (iI 0), .int (iI b)]) C dX4_begin_7 (by omega) hs2 hX4_begin_X4 tyX4_ok nmX4 rfl (by decide) kX4_begin_20 rfl rfl rfl (Nat.le_of_ble_eq_true rfl) rfl (fun e4 hs5 ho6 => ?_)
  refine n_aload_n C dX4_begin_10 0 rfl rfl ?_
  refine n_iconst C dX4_begin_11 ?_
  refine n_put (k9 := 2) (fs2 := [.ref (ad q), .int (iI 0), .int (iI 0)]) C dX4_begin_12 (by omega) hs5 hX4_begin_X4 tyX4_ok nmX4 rfl (by decide) kX4_begin_24 rfl rfl rfl (Nat.le_of_ble_eq_true rfl) rfl (fun e7 hs8 ho9 => ?_)
  exact n_vret C hr dX4_begin_15 (⟨rfl, hs8, fun j hj => ((ho9 j (by omega)).trans (ho6 j (by omega))).trans (ho3 j (by omega))⟩)

def pX4_endBefore (ad : Nat → Nat) (ev : Nat → va_E) (i q : Nat) (a z : Int) : Option Value → (Nat → va_E) → Prop := fun v e2 => v = none ∧ StrAt ad e2 i q a z ∧ Fr e2 ev (fun j => j = i)

set_option maxHeartbeats 4000000 in
set_option maxRecDepth 100000 in
theorem TX4_endBefore (l : Launch) {G : GG} {N : Nat} {ad : Nat → Nat} {ev : Nat → va_E} {i q : Nat} {a b z : Int} (hi : i < N) (h0 : StrAt ad ev i q a b) : Ct l yX4_endBefore wsX4_endBefore rmX4_endBefore [.ref (ad i), .int (iI z)] G N ad ev 0 0 (pX4_endBefore ad ev i q a z) := by
  unfold StrAt at h0
  refine Ct_of (cc := cX4_endBefore) (maxL := 2) (ret := none) (lv := [(0, .ref (ad i)), (1, .int (iI z))]) (by decide) rfl (Nat.le_of_ble_eq_true rfl) rfl ?_
  intro p E s m args below meth c A C hr hnm
  refine n_aload_n C dX4_endBefore_0 0 rfl rfl ?_
  refine n_iload_n C dX4_endBefore_1 1 rfl rfl ?_
  refine n_put (k9 := 2) (fs2 := [.ref (ad q), .int (iI a), .int (iI z)]) C dX4_endBefore_2 (by omega) h0 hX4_endBefore_X4 tyX4_ok nmX4 rfl (by decide) kX4_endBefore_24 rfl rfl rfl (Nat.le_of_ble_eq_true rfl) rfl (fun e1 hs2 ho3 => ?_)
  exact n_vret C hr dX4_endBefore_5 (⟨rfl, hs2, fun j hj => ho3 j (by omega)⟩)

def pX4_goOnBehindStable (ad : Nat → Nat) (ev : Nat → va_E) (i q : Nat) (b : Int) : Option Value → (Nat → va_E) → Prop := fun v e2 => v = none ∧ StrAt ad e2 i q (b + 1) b ∧ Fr e2 ev (fun j => j = i)

set_option maxHeartbeats 4000000 in
set_option maxRecDepth 100000 in
theorem TX4_goOnBehindStable (l : Launch) {G : GG} {N : Nat} {ad : Nat → Nat} {ev : Nat → va_E} {i q : Nat} {a b : Int} (hi : i < N) (h0 : StrAt ad ev i q a b) : Ct l yX4_goOnBehindStable wsX4_goOnBehindStable rmX4_goOnBehindStable [.ref (ad i)] G N ad ev 0 0 (pX4_goOnBehindStable ad ev i q b) := by
  unfold StrAt at h0
  refine Ct_of (cc := cX4_goOnBehindStable) (maxL := 1) (ret := none) (lv := [(0, .ref (ad i))]) (by decide) rfl (Nat.le_of_ble_eq_true rfl) rfl ?_
  intro p E s m args below meth c A C hr hnm
  refine n_aload_n C dX4_goOnBehindStable_0 0 rfl rfl ?_
  refine n_aload_n C dX4_goOnBehindStable_1 0 rfl rfl ?_
  refine n_get (k9 := 2) C dX4_goOnBehindStable_2 (by omega) h0 hX4_goOnBehindStable_X4 rfl (by decide) kX4_goOnBehindStable_24 rfl ?_
  refine n_iconst C dX4_goOnBehindStable_5 ?_
  refine n_iadd C dX4_goOnBehindStable_6 ?_
  refine n_put (k9 := 1) (fs2 := [.ref (ad q), .int (iI (b + 1)), .int (iI b)]) C dX4_goOnBehindStable_7 (by omega) h0 hX4_goOnBehindStable_X4 tyX4_ok nmX4 rfl (by decide) kX4_goOnBehindStable_20 rfl rfl rfl (Nat.le_of_ble_eq_true rfl) rfl (fun e1 hs2 ho3 => ?_)
  exact n_vret C hr dX4_goOnBehindStable_10 (⟨rfl, hs2, fun j hj => ho3 j (by omega)⟩)

set_option maxHeartbeats 4000000 in
set_option maxRecDepth 100000 in
theorem TX4_endOfRow (l : Launch) {G : GG} {N : Nat} {ad : Nat → Nat} {ev : Nat → va_E} {i q cq : Nat} {a b : Int} {xs : List Int32} (hi : i < N) (h0 : StrAt ad ev i q a b) (hq : q + 1 < N) (r1 : RowAt G ad ev q xs cq) : Ct l yX4_endOfRow wsX4_endOfRow rmX4_endOfRow [.ref (ad i)] G N ad ev 0 0 (fun v e2 => v = some (.int (iI (xs.length : Int))) ∧ ev = e2) := by
  unfold StrAt at h0
  obtain ⟨f0, g0, g1, g2⟩ := id r1
  refine Ct_of (cc := cX4_endOfRow) (maxL := 1) (ret := some .int) (lv := [(0, .ref (ad i))]) (by decide) rfl (Nat.le_of_ble_eq_true rfl) rfl ?_
  intro p E s m args below meth c A C hr hnm
  refine n_aload_n C dX4_endOfRow_0 0 rfl rfl ?_
  refine n_get (k9 := 0) C dX4_endOfRow_1 (by omega) h0 hX4_endOfRow_X4 rfl (by decide) kX4_endOfRow_14 rfl ?_
  refine n_getN (k9 := 1) C dX4_endOfRow_4 (by omega) g0 hX4_endOfRow_X2 rfl (by decide) kn_X4_27 rfl ?_
  exact n_iret C hr dX4_endOfRow_7 (⟨rfl, rfl⟩)

set_option maxHeartbeats 4000000 in
set_option maxRecDepth 100000 in
theorem TX4_symbolAt (l : Launch) {G : GG} {N : Nat} {ad : Nat → Nat} {ev : Nat → va_E} {i q cq : Nat} {a b z : Int} {xs : List Int32} (hi : i < N) (h0 : StrAt ad ev i q a b) (hq : q + 1 < N) (r1 : RowAt G ad ev q xs cq) (hz1 : -2147483648 ≤ z) (hz2 : z < 2147483648) : Ct l yX4_symbolAt wsX4_symbolAt rmX4_symbolAt [.ref (ad i), .int (iI z)] G N ad ev 0 0 (fun v e2 => v = some (.int (atD xs z (iI (-1)))) ∧ ev = e2) := by
  unfold StrAt at h0
  obtain ⟨f0, g0, g1, g2⟩ := id r1
  refine Ct_of (cc := cX4_symbolAt) (maxL := 2) (ret := some .int) (lv := [(0, .ref (ad i)), (1, .int (iI z))]) (by decide) rfl (Nat.le_of_ble_eq_true rfl) rfl ?_
  intro p E s m args below meth c A C hr hnm
  refine n_aload_n C dX4_symbolAt_0 0 rfl rfl ?_
  refine n_get (k9 := 0) C dX4_symbolAt_1 (by omega) h0 hX4_symbolAt_X4 rfl (by decide) kX4_symbolAt_14 rfl ?_
  refine n_iload_n C dX4_symbolAt_4 1 rfl rfl ?_
  refine n_iconst C dX4_symbolAt_5 ?_
  refine n_callV (rest := []) C dX4_symbolAt_6 (TX2_at l hq r1 hz1 hz2) (cwV 2 C.2.2.2.2.1 gX4_symbolAt_X2_at rfl rfl rfl cdX2_at ⟨Nat.le_of_ble_eq_true rfl, Nat.le_of_ble_eq_true rfl⟩) (by omega) g0 rfl rfl rfl (Nat.le_of_ble_eq_true rfl) ⟨Nat.le_of_ble_eq_true rfl, Nat.le_of_ble_eq_true rfl⟩ ?_
  rintro _ _ ⟨rfl, rfl⟩
  refine n_pc (pc2 := 9) rfl (n_st (st2 := [.int (atD xs z (iI (-1)))]) rfl ?_)
  exact n_iret C hr dX4_symbolAt_9 (⟨rfl, rfl⟩)

def pX4_isSameAs (ev : Nat → va_E) (xs ys : List Int32) (a b c9 d : Nat) : Option Value → (Nat → va_E) → Prop := fun v e2 => v = some (.int (bI (decide (sl xs a b = sl ys c9 d)))) ∧ ev = e2

set_option maxHeartbeats 4000000 in
set_option maxRecDepth 100000 in
theorem TX4_isSameAs (l : Launch) {G : GG} {N : Nat} {ad : Nat → Nat} {ev : Nat → va_E} {i k q r a b c9 d cq cr : Nat} {xs ys : List Int32} (hi : i < N) (hk : k < N) (h0 : StrAt ad ev i q a b) (h1 : StrAt ad ev k r c9 d) (hq : q + 1 < N) (hr9 : r + 1 < N) (r1 : RowAt G ad ev q xs cq) (r2 : RowAt G ad ev r ys cr) (hab : a ≤ b) (hbx : b ≤ xs.length) (hcd : c9 ≤ d) (hdy : d ≤ ys.length) : Ct l yX4_isSameAs wsX4_isSameAs rmX4_isSameAs [.ref (ad i), .ref (ad k)] G N ad ev 0 0 (pX4_isSameAs ev xs ys a b c9 d) := by
  unfold StrAt at h0 h1
  have hl1 := r1.le
  have hl2 := r2.le
  obtain ⟨f0, g0, g1, g2⟩ := id r1
  obtain ⟨f3, g3, g4, g5⟩ := id r2
  refine Ct_of (cc := cX4_isSameAs) (maxL := 3) (ret := some .boolean) (lv := [(0, .ref (ad i)), (1, .ref (ad k))]) (by decide) rfl (Nat.le_of_ble_eq_true rfl) rfl ?_
  intro p E s m args below meth c A C hr hnm
  refine n_aload_n C dX4_isSameAs_0 0 rfl rfl ?_
  refine n_get (k9 := 2) C dX4_isSameAs_1 (by omega) h0 hX4_isSameAs_X4 rfl (by decide) kX4_isSameAs_24 rfl ?_
  refine n_aload_n C dX4_isSameAs_4 0 rfl rfl ?_
  refine n_get (k9 := 1) C dX4_isSameAs_5 (by omega) h0 hX4_isSameAs_X4 rfl (by decide) kX4_isSameAs_20 rfl ?_
  refine n_isub C dX4_isSameAs_8 ?_
  refine n_aload_n C dX4_isSameAs_9 1 rfl rfl ?_
  refine n_get (k9 := 2) C dX4_isSameAs_10 (by omega) h1 hX4_isSameAs_X4 rfl (by decide) kX4_isSameAs_24 rfl ?_
  refine n_aload_n C dX4_isSameAs_13 1 rfl rfl ?_
  refine n_get (k9 := 1) C dX4_isSameAs_14 (by omega) h1 hX4_isSameAs_X4 rfl (by decide) kX4_isSameAs_20 rfl ?_
  refine n_isub C dX4_isSameAs_17 ?_
  refine n_icmp_eq C dX4_isSameAs_18 (by decide) (by omega) (by omega) (by omega) (by omega) (tgt := 23) (fun c1 => ?_) (fun c1 => ?_)
  · refine n_iconst C dX4_isSameAs_23 ?_
    refine n_istore_n (lv' := [(0, .ref (ad i)), (1, .ref (ad k)), (2, .int (iI 0))]) C dX4_isSameAs_24 rfl (by decide) rfl ?_
    have loop : ∀ (n9 : Nat) (n : Nat), b - a + 1 - n < n9 → (n ≤ b - a) → (∀ j, j < n → xs[a + j]? = ys[c9 + j]?) → V p l E rmX4_isSameAs s m args below meth c G A 3 (MQ below (Qg G N ad A (pX4_isSameAs ev xs ys a b c9 d)) args s 0 0 A) N ad ev 0 0 25 [(0, .ref (ad i)), (1, .ref (ad k)), (2, .int (iI (n : Int)))] [] := by
      intro n9
      induction n9 with
      | zero =>
        intro n hm9
        exact absurd hm9 (Nat.not_lt_zero _)
      | succ n9 ih =>
        intro n hm9 hn hh
        refine n_iload_n C dX4_isSameAs_25 2 rfl rfl ?_
        refine n_aload_n C dX4_isSameAs_26 0 rfl rfl ?_
        refine n_get (k9 := 2) C dX4_isSameAs_27 (by omega) h0 hX4_isSameAs_X4 rfl (by decide) kX4_isSameAs_24 rfl ?_
        refine n_aload_n C dX4_isSameAs_30 0 rfl rfl ?_
        refine n_get (k9 := 1) C dX4_isSameAs_31 (by omega) h0 hX4_isSameAs_X4 rfl (by decide) kX4_isSameAs_20 rfl ?_
        refine n_isub C dX4_isSameAs_34 ?_
        refine n_icmp_ge C dX4_isSameAs_35 (by decide) (by omega) (by omega) (by omega) (by omega) (tgt := 69) (fun c2 => ?_) (fun c2 => ?_)
        · refine n_iconst C dX4_isSameAs_69 ?_
          exact n_zret C hr dX4_isSameAs_70 (by decide) (⟨by rw [decide_eq_true (sl_eq hab hbx hcd hdy (by omega) (fun j hj => hh j (by omega)))]; rfl, rfl⟩)
        · obtain ⟨x9, hx9⟩ := some_of_lt (show a + n < xs.length by omega)
          obtain ⟨y9, hy9⟩ := some_of_lt (show c9 + n < ys.length by omega)
          refine n_aload_n C dX4_isSameAs_38 0 rfl rfl ?_
          refine n_aload_n C dX4_isSameAs_39 0 rfl rfl ?_
          refine n_get (k9 := 1) C dX4_isSameAs_40 (by omega) h0 hX4_isSameAs_X4 rfl (by decide) kX4_isSameAs_20 rfl ?_
          refine n_iload_n C dX4_isSameAs_43 2 rfl rfl ?_
          refine n_iadd C dX4_isSameAs_44 ?_
          refine n_callV (rest := []) C dX4_isSameAs_45 (TX4_symbolAt l hi h0 hq r1 (by omega) (by omega)) (cwV 1 C.2.2.2.2.1 gX4_isSameAs_X4_symbolAt rfl rfl rfl cdX4_symbolAt ⟨Nat.le_of_ble_eq_true rfl, Nat.le_of_ble_eq_true rfl⟩) (by omega) h0 rfl rfl rfl (Nat.le_of_ble_eq_true rfl) ⟨Nat.le_of_ble_eq_true rfl, Nat.le_of_ble_eq_true rfl⟩ ?_
          rintro _ _ ⟨rfl, rfl⟩
          refine n_pc (pc2 := 48) rfl (n_st (st2 := [.int (atD xs ((a : Int) + (n : Int)) (iI (-1)))]) rfl ?_)
          refine n_topI (y := x9) (atD_in (by omega) (by omega) hx9) ?_
          refine n_aload_n C dX4_isSameAs_48 1 rfl rfl ?_
          refine n_aload_n C dX4_isSameAs_49 1 rfl rfl ?_
          refine n_get (k9 := 1) C dX4_isSameAs_50 (by omega) h1 hX4_isSameAs_X4 rfl (by decide) kX4_isSameAs_20 rfl ?_
          refine n_iload_n C dX4_isSameAs_53 2 rfl rfl ?_
          refine n_iadd C dX4_isSameAs_54 ?_
          refine n_callV (rest := [.int x9]) C dX4_isSameAs_55 (TX4_symbolAt l hk h1 hr9 r2 (by omega) (by omega)) (cwV 1 C.2.2.2.2.1 gX4_isSameAs_X4_symbolAt rfl rfl rfl cdX4_symbolAt ⟨Nat.le_of_ble_eq_true rfl, Nat.le_of_ble_eq_true rfl⟩) (by omega) h1 rfl rfl rfl (Nat.le_of_ble_eq_true rfl) ⟨Nat.le_of_ble_eq_true rfl, Nat.le_of_ble_eq_true rfl⟩ ?_
          rintro _ _ ⟨rfl, rfl⟩
          refine n_pc (pc2 := 58) rfl (n_st (st2 := [.int (atD ys ((c9 : Int) + (n : Int)) (iI (-1))), .int x9]) rfl ?_)
          refine n_topI (y := y9) (atD_in (by omega) (by omega) hy9) ?_
          refine n_icmp_eqR C dX4_isSameAs_58 (by decide) (tgt := 63) (fun c3 => ?_) (fun c3 => ?_)
          · refine n_iinc (lv' := [(0, .ref (ad i)), (1, .ref (ad k)), (2, .int (iI ((n : Int) + 1)))]) C dX4_isSameAs_63 2 rfl (by decide) rfl ?_
            refine n_goto (tgt := 25) C dX4_isSameAs_66 (by decide) ?_
            refine n_lv (lv2 := [(0, .ref (ad i)), (1, .ref (ad k)), (2, .int (iI ((n + 1 : Nat) : Int)))]) (by simp) ?_
            exact ih (n + 1) (by omega) (by omega) (fun j hj => by
              rcases Nat.lt_or_ge j n with q | q
              · exact hh j q
              · rw [show j = n by omega, hx9, hy9, c3])
          · refine n_iconst C dX4_isSameAs_61 ?_
            exact n_zret C hr dX4_isSameAs_62 (by decide) (⟨by
              rw [decide_eq_false]
              · rfl
              · intro he
                have h9 : (sl xs a b)[n]? = (sl ys c9 d)[n]? := by rw [he]
                rw [sl_get (by omega) hbx, sl_get (by omega) hdy, hx9, hy9] at h9
                exact c3 (Option.some.inj h9), rfl⟩)
    exact loop _ 0 (Nat.lt_succ_self _) (Nat.zero_le _) (fun j hj => absurd hj (Nat.not_lt_zero j))
  · refine n_iconst C dX4_isSameAs_21 ?_
    exact n_zret C hr dX4_isSameAs_22 (by decide) (⟨by
      rw [decide_eq_false]
      · rfl
      · intro he
        have h9 := congrArg List.length he
        rw [sl_len hbx, sl_len hdy] at h9
        omega, rfl⟩)

def pX4_addTo (G : GG) (ad : Nat → Nat) (ev : Nat → va_E) (r cap : Nat) (zs xs : List Int32) (a b : Nat) : Option Value → (Nat → va_E) → Prop := fun v e2 => v = none ∧ RowAt G ad e2 r (zs ++ sl xs a b) cap ∧ Fr e2 ev (fun j => j = r ∨ j = r + 1)

set_option maxHeartbeats 4000000 in
set_option maxRecDepth 100000 in
theorem TX4_addTo (l : Launch) {G : GG} {N : Nat} {ad : Nat → Nat} {ev : Nat → va_E} {i q r a b cq cap : Nat} {xs zs : List Int32} (hi : i < N) (h0 : StrAt ad ev i q a b) (hq : q + 1 < N) (hr9 : r + 1 < N) (r1 : RowAt G ad ev q xs cq) (r2 : RowAt G ad ev r zs cap) (hne : q ≠ r) (hne1 : q ≠ r + 1) (hne2 : q + 1 ≠ r) (hb : b ≤ xs.length) (ha : a ≤ 1000) (hcap : zs.length + (b - a) ≤ cap) : Ct l yX4_addTo wsX4_addTo rmX4_addTo [.ref (ad i), .ref (ad r)] G N ad ev 0 0 (pX4_addTo G ad ev r cap zs xs a b) := by
  unfold StrAt at h0
  obtain ⟨f0, g0, g1, g2⟩ := id r1
  obtain ⟨f3, g3, g4, g5⟩ := id r2
  refine Ct_of (cc := cX4_addTo) (maxL := 2) (ret := none) (lv := [(0, .ref (ad i)), (1, .ref (ad r))]) (by decide) rfl (Nat.le_of_ble_eq_true rfl) rfl ?_
  intro p E s m args below meth c A C hr hnm
  refine n_aload_n C dX4_addTo_0 1 rfl rfl ?_
  refine n_aload_n C dX4_addTo_1 0 rfl rfl ?_
  refine n_get (k9 := 0) C dX4_addTo_2 (by omega) h0 hX4_addTo_X4 rfl (by decide) kX4_addTo_14 rfl ?_
  refine n_aload_n C dX4_addTo_5 0 rfl rfl ?_
  refine n_get (k9 := 1) C dX4_addTo_6 (by omega) h0 hX4_addTo_X4 rfl (by decide) kX4_addTo_20 rfl ?_
  refine n_aload_n C dX4_addTo_9 0 rfl rfl ?_
  refine n_get (k9 := 2) C dX4_addTo_10 (by omega) h0 hX4_addTo_X4 rfl (by decide) kX4_addTo_24 rfl ?_
  refine n_callV (rest := []) C dX4_addTo_13 (TX2_addAll l hr9 r2 hq r1 hne hne1 hne2 hb hcap ha) (cwV 3 C.2.2.2.2.1 gX4_addTo_X2_addAll rfl rfl rfl cdX2_addAll ⟨Nat.le_of_ble_eq_true rfl, Nat.le_of_ble_eq_true rfl⟩) (by omega) g3 rfl rfl rfl (Nat.le_of_ble_eq_true rfl) ⟨Nat.le_of_ble_eq_true rfl, Nat.le_of_ble_eq_true rfl⟩ ?_
  rintro _ e2 ⟨rfl, r3, hF⟩
  refine n_pc (pc2 := 16) rfl (n_st (st2 := []) rfl ?_)
  exact n_vret C hr dX4_addTo_16 (⟨rfl, r3, hF⟩)
