set_option maxHeartbeats 4000000 in
set_option maxRecDepth 100000 in
theorem TX6_same (l : Launch) {G : GG} {N : Nat} {ad : Nat → Nat} {ev : Nat → va_E} {lim thr : Int} {no : Nat} {cmp : Bool} {nl lsz nr : Nat} {R9 : Nat → List Int32} {fz fy : Nat → Int32} {a b i j : Nat} (hN : 66 ≤ N) (k53 : ev 53 = mO ad lim thr no cmp nl lsz nr) (m1 : MRows G ev R9 fz fy) (ha : a < 3) (hb : b < 3) (hi : i < (R9 a).length) (hj : j < (R9 b).length) : Ct l yX6_same wsX6_same rmX6_same [.ref (ad 53), .int (iI (a : Int)), .int (iI (i : Int)), .int (iI (b : Int)), .int (iI (j : Int))] G N ad ev 0 0 (fun v e2 => v = some (.int (bI (sam (R9 a) (R9 b) i j))) ∧ ev = e2) := by
  obtain ⟨za, la, ya⟩ := m1.at (j := a) ha
  obtain ⟨zb, lb, yb⟩ := m1.at (j := b) hb
  refine Ct_of (cc := cX6_same) (maxL := 5) (ret := some .boolean) (lv := [(0, .ref (ad 53)), (1, .int (iI (a : Int))), (2, .int (iI (i : Int))), (3, .int (iI (b : Int))), (4, .int (iI (j : Int)))]) (by decide) rfl (Nat.le_of_ble_eq_true rfl) rfl ?_
  intro p E s m args below meth c A C hr hnm
  refine n_aload_n C dX6_same_0 0 rfl rfl ?_
  refine n_get (k9 := 3) C dX6_same_1 (by omega) k53 hX6_same_X6 rfl (by decide) kX6_same_13 rfl ?_
  refine n_bipush C dX6_same_4 (by decide) ?_
  refine n_iload_n C dX6_same_6 1 rfl rfl ?_
  refine n_imul C dX6_same_7 ?_
  refine n_iload_n C dX6_same_8 2 rfl rfl ?_
  refine n_iadd C dX6_same_9 ?_
  refine n_iald (j := 20 * a + i) C dX6_same_10 (by omega) m1.2.1 (by omega) (by omega) (by omega) ?_
  refine n_aload_n C dX6_same_11 0 rfl rfl ?_
  refine n_get (k9 := 3) C dX6_same_12 (by omega) k53 hX6_same_X6 rfl (by decide) kX6_same_13 rfl ?_
  refine n_bipush C dX6_same_15 (by decide) ?_
  refine n_iload_n C dX6_same_17 3 rfl rfl ?_
  refine n_imul C dX6_same_18 ?_
  refine n_iload C dX6_same_19 4 rfl ?_
  refine n_iadd C dX6_same_21 ?_
  refine n_iald (j := 20 * b + j) C dX6_same_22 (by omega) m1.2.1 (by omega) (by omega) (by omega) ?_
  refine n_icmp_neR C dX6_same_23 (by decide) (tgt := 30) (fun c1 => ?_) (fun c1 => ?_)
  · refine n_iconst C dX6_same_30 ?_
    exact n_zret C hr dX6_same_31 (by decide) (⟨by rw [sam_of (ya i hi) (yb j hj), decide_eq_false c1]; rfl, rfl⟩)
  · refine n_iconst C dX6_same_26 ?_
    refine n_goto (tgt := 31) C dX6_same_27 (by decide) ?_
    exact n_zret C hr dX6_same_31 (by decide) (⟨by rw [sam_of (ya i hi) (yb j hj), decide_eq_true c1]; rfl, rfl⟩)

def okF (fq : Nat → Int32) (xs ys : List Int32) : Prop := ∀ i j, i ≤ xs.length → j ≤ ys.length → fq (21 * i + j) = iI (rs xs ys i j : Int)

set_option maxHeartbeats 4000000 in
set_option maxRecDepth 100000 in
theorem TX6_fill (l : Launch) {G : GG} {N : Nat} {ad : Nat → Nat} {ev : Nat → va_E} {lim thr : Int} {no : Nat} {cmp : Bool} {nl lsz nr : Nat} {R9 : Nat → List Int32} {fz fy : Nat → Int32} {a b : Nat} {fq : Nat → Int32} (hN : 66 ≤ N) (k53 : ev 53 = mO ad lim thr no cmp nl lsz nr) (m1 : MRows G ev R9 fz fy) (ha : a < 3) (hb : b < 3) (k62 : ev 62 = .inl (G.2.1, 441, .inl fq)) : Ct l yX6_fill wsX6_fill rmX6_fill [.ref (ad 53), .int (iI (a : Int)), .int (iI (b : Int))] G N ad ev 0 0 (fun v e2 => v = none ∧ (∃ fq : Nat → Int32, e2 62 = .inl (G.2.1, 441, .inl fq) ∧ okF fq (R9 a) (R9 b)) ∧ Fr e2 ev (fun j => j = 62)) := by
  obtain ⟨za, la, ya⟩ := m1.at (j := a) ha
  obtain ⟨zb, lb, yb⟩ := m1.at (j := b) hb
  refine Ct_of (cc := cX6_fill) (maxL := 10) (ret := none) (lv := [(0, .ref (ad 53)), (1, .int (iI (a : Int))), (2, .int (iI (b : Int)))]) (by decide) rfl (Nat.le_of_ble_eq_true rfl) rfl ?_
  intro p E s m args below meth c A C hr hnm
  refine n_aload_n C dX6_fill_0 0 rfl rfl ?_
  refine n_get (k9 := 2) C dX6_fill_1 (by omega) k53 hX6_fill_X6 rfl (by decide) kX6_fill_7 rfl ?_
  refine n_iload_n C dX6_fill_4 1 rfl rfl ?_
  refine n_iald (j := a) C dX6_fill_5 (by omega) m1.1 (by omega) (by omega) (by omega) ?_
  refine n_topI (y := (iI ((R9 a).length : Int))) (za) ?_
  refine n_istore_n (lv' := [(0, .ref (ad 53)), (1, .int (iI (a : Int))), (2, .int (iI (b : Int))), (3, .int (iI ((R9 a).length : Int)))]) C dX6_fill_6 rfl (by decide) rfl ?_
  refine n_aload_n C dX6_fill_7 0 rfl rfl ?_
  refine n_get (k9 := 2) C dX6_fill_8 (by omega) k53 hX6_fill_X6 rfl (by decide) kX6_fill_7 rfl ?_
  refine n_iload_n C dX6_fill_11 2 rfl rfl ?_
  refine n_iald (j := b) C dX6_fill_12 (by omega) m1.1 (by omega) (by omega) (by omega) ?_
  refine n_topI (y := (iI ((R9 b).length : Int))) (zb) ?_
  refine n_istore (lv' := [(0, .ref (ad 53)), (1, .int (iI (a : Int))), (2, .int (iI (b : Int))), (3, .int (iI ((R9 a).length : Int))), (4, .int (iI ((R9 b).length : Int)))]) C dX6_fill_13 (by decide) rfl ?_
  refine n_iload_n C dX6_fill_15 3 rfl rfl ?_
  refine n_istore (lv' := [(0, .ref (ad 53)), (1, .int (iI (a : Int))), (2, .int (iI (b : Int))), (3, .int (iI ((R9 a).length : Int))), (4, .int (iI ((R9 b).length : Int))), (5, .int (iI ((R9 a).length : Int)))]) C dX6_fill_16 (by decide) rfl ?_
  have loop : ∀ (n9 : Nat) (t : Nat) (ex : Nat → va_E) (fq : Nat → Int32), t < n9 → (t ≤ (R9 a).length + 1) → (ex 62 = .inl (G.2.1, 441, .inl fq)) → (Fr ex ev (fun j => j = 62)) → (∀ i j, t ≤ i → i ≤ (R9 a).length → j ≤ (R9 b).length → fq (21 * i + j) = iI (rs (R9 a) (R9 b) i j : Int)) → V p l E rmX6_fill s m args below meth c G A 10 (MQ below (Qg G N ad A (fun v e2 => v = none ∧ (∃ fq : Nat → Int32, e2 62 = .inl (G.2.1, 441, .inl fq) ∧ okF fq (R9 a) (R9 b)) ∧ Fr e2 ev (fun j => j = 62))) args s 0 0 A) N ad ex 0 0 18 [(0, .ref (ad 53)), (1, .int (iI (a : Int))), (2, .int (iI (b : Int))), (3, .int (iI ((R9 a).length : Int))), (4, .int (iI ((R9 b).length : Int))), (5, .int (iI ((t : Int) - 1)))] [] := by
    intro n9
    induction n9 with
    | zero =>
      intro t ex fq hm9
      exact absurd hm9 (Nat.not_lt_zero _)
    | succ n9 ih =>
      intro t ex fq hm9 ht k62 hF hok
      refine n_iload C dX6_fill_18 5 rfl ?_
      refine n_if_lt C dX6_fill_20 (by decide) (by omega) (by omega) (tgt := 184) (fun c1 => ?_) (fun c1 => ?_)
      · exact n_vret C hr dX6_fill_184 (⟨rfl, ⟨fq, k62, fun i j hi hj => hok i j (by omega) hi hj⟩, hF⟩)
      · obtain ⟨i, rfl⟩ : ∃ i, t = i + 1 := ⟨t - 1, by omega⟩
        refine n_lv (lv2 := [(0, .ref (ad 53)), (1, .int (iI (a : Int))), (2, .int (iI (b : Int))), (3, .int (iI ((R9 a).length : Int))), (4, .int (iI ((R9 b).length : Int))), (5, .int (iI (i : Int)))]) (by simp) ?_
        refine n_iload C dX6_fill_23 4 rfl ?_
        refine n_istore (lv' := [(0, .ref (ad 53)), (1, .int (iI (a : Int))), (2, .int (iI (b : Int))), (3, .int (iI ((R9 a).length : Int))), (4, .int (iI ((R9 b).length : Int))), (5, .int (iI (i : Int))), (6, .int (iI ((R9 b).length : Int)))]) C dX6_fill_25 (by decide) rfl ?_
        have loop2 : ∀ (n9 : Nat) (u : Nat) (ey : Nat → va_E) (fq : Nat → Int32), u < n9 → (u ≤ (R9 b).length + 1) → (ey 62 = .inl (G.2.1, 441, .inl fq)) → (Fr ey ev (fun j => j = 62)) → (∀ i9 j, i + 1 ≤ i9 → i9 ≤ (R9 a).length → j ≤ (R9 b).length → fq (21 * i9 + j) = iI (rs (R9 a) (R9 b) i9 j : Int)) → (∀ j, u ≤ j → j ≤ (R9 b).length → fq (21 * i + j) = iI (rs (R9 a) (R9 b) i j : Int)) → V p l E rmX6_fill s m args below meth c G A 10 (MQ below (Qg G N ad A (fun v e2 => v = none ∧ (∃ fq : Nat → Int32, e2 62 = .inl (G.2.1, 441, .inl fq) ∧ okF fq (R9 a) (R9 b)) ∧ Fr e2 ev (fun j => j = 62))) args s 0 0 A) N ad ey 0 0 27 [(0, .ref (ad 53)), (1, .int (iI (a : Int))), (2, .int (iI (b : Int))), (3, .int (iI ((R9 a).length : Int))), (4, .int (iI ((R9 b).length : Int))), (5, .int (iI (i : Int))), (6, .int (iI ((u : Int) - 1)))] [] := by
          intro n9
          induction n9 with
          | zero =>
            intro u ey fq hm9
            exact absurd hm9 (Nat.not_lt_zero _)
          | succ n9 ih2 =>
            intro u ey fq hm9 hu k62 hF hok hok2
            refine n_iload C dX6_fill_27 6 rfl ?_
            refine n_if_lt C dX6_fill_29 (by decide) (by omega) (by omega) (tgt := 178) (fun c2 => ?_) (fun c2 => ?_)
            · refine n_iinc (lv' := [(0, .ref (ad 53)), (1, .int (iI (a : Int))), (2, .int (iI (b : Int))), (3, .int (iI ((R9 a).length : Int))), (4, .int (iI ((R9 b).length : Int))), (5, .int (iI ((i : Int) + (-1)))), (6, .int (iI ((u : Int) - 1)))]) C dX6_fill_178 5 rfl (by decide) rfl ?_
              refine n_goto (tgt := 18) C dX6_fill_181 (by decide) ?_
              refine n_sub (lv2 := [(0, .ref (ad 53)), (1, .int (iI (a : Int))), (2, .int (iI (b : Int))), (3, .int (iI ((R9 a).length : Int))), (4, .int (iI ((R9 b).length : Int))), (5, .int (iI ((i : Int) + (-1))))]) [0, 1, 2, 3, 4, 5] rfl ?_
              exact ih i ey fq (by omega) (by omega) k62 hF (fun i9 j h1 h2 h3 => by
                rcases Nat.lt_or_ge i i9 with q | q
                · exact hok i9 j q h2 h3
                · rw [show i9 = i by omega]; exact hok2 j (by omega) h3)
            · obtain ⟨j, rfl⟩ : ∃ j, u = j + 1 := ⟨u - 1, by omega⟩
              refine n_lv (lv2 := [(0, .ref (ad 53)), (1, .int (iI (a : Int))), (2, .int (iI (b : Int))), (3, .int (iI ((R9 a).length : Int))), (4, .int (iI ((R9 b).length : Int))), (5, .int (iI (i : Int))), (6, .int (iI (j : Int)))]) (by simp) ?_
              have k53 := (hF 53 (by omega)).trans k53
              have m1 := m1.fr hF (by omega) (by omega)
              have q1 := rs_le (R9 a) (R9 b) (i + 1) (j + 1)
              have q2 := rs_le (R9 a) (R9 b) (i + 1) j
              have q3 := rs_le (R9 a) (R9 b) i (j + 1)
              refine n_iload_n C dX6_fill_32 3 rfl rfl ?_
              refine n_iload C dX6_fill_33 5 rfl ?_
              refine n_isub C dX6_fill_35 ?_
              refine n_iload C dX6_fill_36 4 rfl ?_
              refine n_iadd C dX6_fill_38 ?_
              refine n_iload C dX6_fill_39 6 rfl ?_
              refine n_isub C dX6_fill_41 ?_
              refine n_istore (lv' := [(0, .ref (ad 53)), (1, .int (iI (a : Int))), (2, .int (iI (b : Int))), (3, .int (iI ((R9 a).length : Int))), (4, .int (iI ((R9 b).length : Int))), (5, .int (iI (i : Int))), (6, .int (iI (j : Int))), (7, .int (iI (((((R9 a).length : Int) - (i : Int)) + ((R9 b).length : Int)) - (j : Int))))]) C dX6_fill_42 (by decide) rfl ?_
              refine n_iload C dX6_fill_44 5 rfl ?_
              refine n_iload_n C dX6_fill_46 3 rfl rfl ?_
              refine n_icmp_ge C dX6_fill_47 (by decide) (by omega) (by omega) (by omega) (by omega) (tgt := 92) (fun c3 => ?_) (fun c3 => ?_)
              · refine n_iload C dX6_fill_92 5 rfl ?_
                refine n_iload_n C dX6_fill_94 3 rfl rfl ?_
                refine n_icmp_ge C dX6_fill_95 (by decide) (by omega) (by omega) (by omega) (by omega) (tgt := 157) (fun _ => ?_) (fun c9 => absurd c9 (by omega))
                have hv9 : ((((R9 a).length : Int) - (i : Int)) + ((R9 b).length : Int)) - (j : Int) = (rs (R9 a) (R9 b) i j : Int) := by rw [rs_end (Or.inl (by omega))]; omega
                refine n_lv (lv2 := [(0, .ref (ad 53)), (1, .int (iI (a : Int))), (2, .int (iI (b : Int))), (3, .int (iI ((R9 a).length : Int))), (4, .int (iI ((R9 b).length : Int))), (5, .int (iI (i : Int))), (6, .int (iI (j : Int))), (7, .int (iI (rs (R9 a) (R9 b) i j : Int)))]) (by rw [hv9]) ?_
                refine n_aload_n C dX6_fill_157 0 rfl rfl ?_
                refine n_get (k9 := 15) C dX6_fill_158 (by omega) k53 hX6_fill_X6 rfl (by decide) kX6_fill_34 rfl ?_
                refine n_bipush C dX6_fill_161 (by decide) ?_
                refine n_iload C dX6_fill_163 5 rfl ?_
                refine n_imul C dX6_fill_165 ?_
                refine n_iload C dX6_fill_166 6 rfl ?_
                refine n_iadd C dX6_fill_168 ?_
                refine n_iload C dX6_fill_169 7 rfl ?_
                refine n_iast (j := 21 * i + j) C dX6_fill_171 (by omega) k62 (by omega) (by omega) (by omega) (fun e1 hs2 ho3 => ?_)
                have qh4 := (ho3 53 (by decide)).trans k53
                refine n_iinc (lv' := [(0, .ref (ad 53)), (1, .int (iI (a : Int))), (2, .int (iI (b : Int))), (3, .int (iI ((R9 a).length : Int))), (4, .int (iI ((R9 b).length : Int))), (5, .int (iI (i : Int))), (6, .int (iI ((j : Int) + (-1)))), (7, .int (iI (rs (R9 a) (R9 b) i j : Int)))]) C dX6_fill_172 6 rfl (by decide) rfl ?_
                refine n_goto (tgt := 27) C dX6_fill_175 (by decide) ?_
                refine n_sub (lv2 := [(0, .ref (ad 53)), (1, .int (iI (a : Int))), (2, .int (iI (b : Int))), (3, .int (iI ((R9 a).length : Int))), (4, .int (iI ((R9 b).length : Int))), (5, .int (iI (i : Int))), (6, .int (iI ((j : Int) + (-1))))]) [0, 1, 2, 3, 4, 5, 6] rfl ?_
                refine n_lv (lv2 := [(0, .ref (ad 53)), (1, .int (iI (a : Int))), (2, .int (iI (b : Int))), (3, .int (iI ((R9 a).length : Int))), (4, .int (iI ((R9 b).length : Int))), (5, .int (iI (i : Int))), (6, .int (iI ((j : Int) - 1)))]) rfl ?_
                exact ih2 j e1 _ (by omega) (by omega) hs2 (fun k hk => (ho3 k (by omega)).trans (hF k hk)) (fun i9 j9 h1 h2 h3 => by
                  have hne : 21 * i9 + j9 ≠ 21 * i + j := by omega
                  simp only [upd, if_neg hne]
                  exact hok i9 j9 h1 h2 h3) (fun j9 h1 h2 => by
                  by_cases e : j9 = j
                  · subst e; simp [upd]
                  · have hne : 21 * i + j9 ≠ 21 * i + j := by omega
                    simp only [upd, if_neg hne]
                    exact hok2 j9 (by omega) h2)
              · refine n_iload C dX6_fill_50 6 rfl ?_
                refine n_iload C dX6_fill_52 4 rfl ?_
                refine n_icmp_ge C dX6_fill_54 (by decide) (by omega) (by omega) (by omega) (by omega) (tgt := 92) (fun c4 => ?_) (fun c4 => ?_)
                · refine n_iload C dX6_fill_92 5 rfl ?_
                  refine n_iload_n C dX6_fill_94 3 rfl rfl ?_
                  refine n_icmp_ge C dX6_fill_95 (by decide) (by omega) (by omega) (by omega) (by omega) (tgt := 157) (fun c9 => absurd c9 (by omega)) (fun _ => ?_)
                  refine n_iload C dX6_fill_98 6 rfl ?_
                  refine n_iload C dX6_fill_100 4 rfl ?_
                  refine n_icmp_ge C dX6_fill_102 (by decide) (by omega) (by omega) (by omega) (by omega) (tgt := 157) (fun _ => ?_) (fun c9 => absurd c9 (by omega))
                  have hv9 : ((((R9 a).length : Int) - (i : Int)) + ((R9 b).length : Int)) - (j : Int) = (rs (R9 a) (R9 b) i j : Int) := by rw [rs_end (Or.inr (by omega))]; omega
                  refine n_lv (lv2 := [(0, .ref (ad 53)), (1, .int (iI (a : Int))), (2, .int (iI (b : Int))), (3, .int (iI ((R9 a).length : Int))), (4, .int (iI ((R9 b).length : Int))), (5, .int (iI (i : Int))), (6, .int (iI (j : Int))), (7, .int (iI (rs (R9 a) (R9 b) i j : Int)))]) (by rw [hv9]) ?_
                  refine n_aload_n C dX6_fill_157 0 rfl rfl ?_
                  refine n_get (k9 := 15) C dX6_fill_158 (by omega) k53 hX6_fill_X6 rfl (by decide) kX6_fill_34 rfl ?_
                  refine n_bipush C dX6_fill_161 (by decide) ?_
                  refine n_iload C dX6_fill_163 5 rfl ?_
                  refine n_imul C dX6_fill_165 ?_
                  refine n_iload C dX6_fill_166 6 rfl ?_
                  refine n_iadd C dX6_fill_168 ?_
                  refine n_iload C dX6_fill_169 7 rfl ?_
                  refine n_iast (j := 21 * i + j) C dX6_fill_171 (by omega) k62 (by omega) (by omega) (by omega) (fun e5 hs6 ho7 => ?_)
                  have qh8 := (ho7 53 (by decide)).trans k53
                  refine n_iinc (lv' := [(0, .ref (ad 53)), (1, .int (iI (a : Int))), (2, .int (iI (b : Int))), (3, .int (iI ((R9 a).length : Int))), (4, .int (iI ((R9 b).length : Int))), (5, .int (iI (i : Int))), (6, .int (iI ((j : Int) + (-1)))), (7, .int (iI (rs (R9 a) (R9 b) i j : Int)))]) C dX6_fill_172 6 rfl (by decide) rfl ?_
                  refine n_goto (tgt := 27) C dX6_fill_175 (by decide) ?_
                  refine n_sub (lv2 := [(0, .ref (ad 53)), (1, .int (iI (a : Int))), (2, .int (iI (b : Int))), (3, .int (iI ((R9 a).length : Int))), (4, .int (iI ((R9 b).length : Int))), (5, .int (iI (i : Int))), (6, .int (iI ((j : Int) + (-1))))]) [0, 1, 2, 3, 4, 5, 6] rfl ?_
                  refine n_lv (lv2 := [(0, .ref (ad 53)), (1, .int (iI (a : Int))), (2, .int (iI (b : Int))), (3, .int (iI ((R9 a).length : Int))), (4, .int (iI ((R9 b).length : Int))), (5, .int (iI (i : Int))), (6, .int (iI ((j : Int) - 1)))]) rfl ?_
                  exact ih2 j e5 _ (by omega) (by omega) hs6 (fun k hk => (ho7 k (by omega)).trans (hF k hk)) (fun i9 j9 h1 h2 h3 => by
                    have hne : 21 * i9 + j9 ≠ 21 * i + j := by omega
                    simp only [upd, if_neg hne]
                    exact hok i9 j9 h1 h2 h3) (fun j9 h1 h2 => by
                    by_cases e : j9 = j
                    · subst e; simp [upd]
                    · have hne : 21 * i + j9 ≠ 21 * i + j := by omega
                      simp only [upd, if_neg hne]
                      exact hok2 j9 (by omega) h2)
                · obtain ⟨x9, hx9⟩ := some_of_lt (show i < (R9 a).length by omega)
                  obtain ⟨y9, hy9⟩ := some_of_lt (show j < (R9 b).length by omega)
                  refine n_aload_n C dX6_fill_57 0 rfl rfl ?_
                  refine n_iload_n C dX6_fill_58 1 rfl rfl ?_
                  refine n_iload C dX6_fill_59 5 rfl ?_
                  refine n_iload_n C dX6_fill_61 2 rfl rfl ?_
                  refine n_iload C dX6_fill_62 6 rfl ?_
                  refine n_callV (rest := []) C dX6_fill_64 (TX6_same l hN k53 m1 ha hb (by omega) (by omega)) (cwV 4 C.2.2.2.2.1 gX6_fill_X6_same rfl rfl rfl cdX6_same ⟨Nat.le_of_ble_eq_true rfl, Nat.le_of_ble_eq_true rfl⟩) (by omega) k53 rfl rfl rfl (Nat.le_of_ble_eq_true rfl) ⟨Nat.le_of_ble_eq_true rfl, Nat.le_of_ble_eq_true rfl⟩ ?_
                  rintro _ _ ⟨rfl, rfl⟩
                  refine n_pc (pc2 := 67) rfl (n_st (st2 := [.int (bI (sam (R9 a) (R9 b) i j))]) rfl ?_)
                  have hsm := sam_of hx9 hy9
                  refine n_if_eqB C dX6_fill_67 (by decide) (tgt := 92) (fun c5 => ?_) (fun c5 => ?_)
                  · have hne9 : x9 ≠ y9 := of_decide_eq_false (hsm.symm.trans c5)
                    refine n_iload C dX6_fill_92 5 rfl ?_
                    refine n_iload_n C dX6_fill_94 3 rfl rfl ?_
                    refine n_icmp_ge C dX6_fill_95 (by decide) (by omega) (by omega) (by omega) (by omega) (tgt := 157) (fun c9 => absurd c9 (by omega)) (fun _ => ?_)
                    refine n_iload C dX6_fill_98 6 rfl ?_
                    refine n_iload C dX6_fill_100 4 rfl ?_
                    refine n_icmp_ge C dX6_fill_102 (by decide) (by omega) (by omega) (by omega) (by omega) (tgt := 157) (fun c9 => absurd c9 (by omega)) (fun _ => ?_)
                    refine n_aload_n C dX6_fill_105 0 rfl rfl ?_
                    refine n_get (k9 := 15) C dX6_fill_106 (by omega) k53 hX6_fill_X6 rfl (by decide) kX6_fill_34 rfl ?_
                    refine n_bipush C dX6_fill_109 (by decide) ?_
                    refine n_iload C dX6_fill_111 5 rfl ?_
                    refine n_iconst C dX6_fill_113 ?_
                    refine n_iadd C dX6_fill_114 ?_
                    refine n_imul C dX6_fill_115 ?_
                    refine n_iload C dX6_fill_116 6 rfl ?_
                    refine n_iadd C dX6_fill_118 ?_
                    refine n_iald (j := 21 * (i + 1) + j) C dX6_fill_119 (by omega) k62 (by omega) (by omega) (by omega) ?_
                    refine n_topI (y := (iI (rs (R9 a) (R9 b) (i + 1) j : Int))) (hok _ _ (by omega) (by omega) (by omega)) ?_
                    refine n_istore (lv' := [(0, .ref (ad 53)), (1, .int (iI (a : Int))), (2, .int (iI (b : Int))), (3, .int (iI ((R9 a).length : Int))), (4, .int (iI ((R9 b).length : Int))), (5, .int (iI (i : Int))), (6, .int (iI (j : Int))), (7, .int (iI (((((R9 a).length : Int) - (i : Int)) + ((R9 b).length : Int)) - (j : Int)))), (8, .int (iI (rs (R9 a) (R9 b) (i + 1) j : Int)))]) C dX6_fill_120 (by decide) rfl ?_
                    refine n_aload_n C dX6_fill_122 0 rfl rfl ?_
                    refine n_get (k9 := 15) C dX6_fill_123 (by omega) k53 hX6_fill_X6 rfl (by decide) kX6_fill_34 rfl ?_
                    refine n_bipush C dX6_fill_126 (by decide) ?_
                    refine n_iload C dX6_fill_128 5 rfl ?_
                    refine n_imul C dX6_fill_130 ?_
                    refine n_iload C dX6_fill_131 6 rfl ?_
                    refine n_iadd C dX6_fill_133 ?_
                    refine n_iconst C dX6_fill_134 ?_
                    refine n_iadd C dX6_fill_135 ?_
                    refine n_iald (j := 21 * i + (j + 1)) C dX6_fill_136 (by omega) k62 (by omega) (by omega) (by omega) ?_
                    refine n_topI (y := (iI (rs (R9 a) (R9 b) i (j + 1) : Int))) (hok2 _ (by omega) (by omega)) ?_
                    refine n_istore (lv' := [(0, .ref (ad 53)), (1, .int (iI (a : Int))), (2, .int (iI (b : Int))), (3, .int (iI ((R9 a).length : Int))), (4, .int (iI ((R9 b).length : Int))), (5, .int (iI (i : Int))), (6, .int (iI (j : Int))), (7, .int (iI (((((R9 a).length : Int) - (i : Int)) + ((R9 b).length : Int)) - (j : Int)))), (8, .int (iI (rs (R9 a) (R9 b) (i + 1) j : Int))), (9, .int (iI (rs (R9 a) (R9 b) i (j + 1) : Int)))]) C dX6_fill_137 (by decide) rfl ?_
                    refine n_iconst C dX6_fill_139 ?_
                    refine n_iload C dX6_fill_140 8 rfl ?_
                    refine n_iload C dX6_fill_142 9 rfl ?_
                    refine n_icmp_ge C dX6_fill_144 (by decide) (by omega) (by omega) (by omega) (by omega) (tgt := 152) (fun c6 => ?_) (fun c6 => ?_)
                    · refine n_iload C dX6_fill_152 9 rfl ?_
                      refine n_iadd C dX6_fill_154 ?_
                      refine n_istore (lv' := [(0, .ref (ad 53)), (1, .int (iI (a : Int))), (2, .int (iI (b : Int))), (3, .int (iI ((R9 a).length : Int))), (4, .int (iI ((R9 b).length : Int))), (5, .int (iI (i : Int))), (6, .int (iI (j : Int))), (7, .int (iI (1 + (rs (R9 a) (R9 b) i (j + 1) : Int)))), (8, .int (iI (rs (R9 a) (R9 b) (i + 1) j : Int))), (9, .int (iI (rs (R9 a) (R9 b) i (j + 1) : Int)))]) C dX6_fill_155 (by decide) rfl ?_
                      refine n_sub (lv2 := [(0, .ref (ad 53)), (1, .int (iI (a : Int))), (2, .int (iI (b : Int))), (3, .int (iI ((R9 a).length : Int))), (4, .int (iI ((R9 b).length : Int))), (5, .int (iI (i : Int))), (6, .int (iI (j : Int))), (7, .int (iI (1 + (rs (R9 a) (R9 b) i (j + 1) : Int))))]) [0, 1, 2, 3, 4, 5, 6, 7] rfl ?_
                      have hv9 : 1 + (rs (R9 a) (R9 b) i (j + 1) : Int) = (rs (R9 a) (R9 b) i j : Int) := by rw [rs_diff hx9 hy9 hne9]; omega
                      refine n_lv (lv2 := [(0, .ref (ad 53)), (1, .int (iI (a : Int))), (2, .int (iI (b : Int))), (3, .int (iI ((R9 a).length : Int))), (4, .int (iI ((R9 b).length : Int))), (5, .int (iI (i : Int))), (6, .int (iI (j : Int))), (7, .int (iI (rs (R9 a) (R9 b) i j : Int)))]) (by rw [hv9]) ?_
                      refine n_aload_n C dX6_fill_157 0 rfl rfl ?_
                      refine n_get (k9 := 15) C dX6_fill_158 (by omega) k53 hX6_fill_X6 rfl (by decide) kX6_fill_34 rfl ?_
                      refine n_bipush C dX6_fill_161 (by decide) ?_
                      refine n_iload C dX6_fill_163 5 rfl ?_
                      refine n_imul C dX6_fill_165 ?_
                      refine n_iload C dX6_fill_166 6 rfl ?_
                      refine n_iadd C dX6_fill_168 ?_
                      refine n_iload C dX6_fill_169 7 rfl ?_
                      refine n_iast (j := 21 * i + j) C dX6_fill_171 (by omega) k62 (by omega) (by omega) (by omega) (fun e9 hs10 ho11 => ?_)
                      have qh12 := (ho11 53 (by decide)).trans k53
                      refine n_iinc (lv' := [(0, .ref (ad 53)), (1, .int (iI (a : Int))), (2, .int (iI (b : Int))), (3, .int (iI ((R9 a).length : Int))), (4, .int (iI ((R9 b).length : Int))), (5, .int (iI (i : Int))), (6, .int (iI ((j : Int) + (-1)))), (7, .int (iI (rs (R9 a) (R9 b) i j : Int)))]) C dX6_fill_172 6 rfl (by decide) rfl ?_
                      refine n_goto (tgt := 27) C dX6_fill_175 (by decide) ?_
                      refine n_sub (lv2 := [(0, .ref (ad 53)), (1, .int (iI (a : Int))), (2, .int (iI (b : Int))), (3, .int (iI ((R9 a).length : Int))), (4, .int (iI ((R9 b).length : Int))), (5, .int (iI (i : Int))), (6, .int (iI ((j : Int) + (-1))))]) [0, 1, 2, 3, 4, 5, 6] rfl ?_
                      refine n_lv (lv2 := [(0, .ref (ad 53)), (1, .int (iI (a : Int))), (2, .int (iI (b : Int))), (3, .int (iI ((R9 a).length : Int))), (4, .int (iI ((R9 b).length : Int))), (5, .int (iI (i : Int))), (6, .int (iI ((j : Int) - 1)))]) rfl ?_
                      exact ih2 j e9 _ (by omega) (by omega) hs10 (fun k hk => (ho11 k (by omega)).trans (hF k hk)) (fun i9 j9 h1 h2 h3 => by
                        have hne : 21 * i9 + j9 ≠ 21 * i + j := by omega
                        simp only [upd, if_neg hne]
                        exact hok i9 j9 h1 h2 h3) (fun j9 h1 h2 => by
                        by_cases e : j9 = j
                        · subst e; simp [upd]
                        · have hne : 21 * i + j9 ≠ 21 * i + j := by omega
                          simp only [upd, if_neg hne]
                          exact hok2 j9 (by omega) h2)
                    · refine n_iload C dX6_fill_147 8 rfl ?_
                      refine n_goto (tgt := 154) C dX6_fill_149 (by decide) ?_
                      refine n_iadd C dX6_fill_154 ?_
                      refine n_istore (lv' := [(0, .ref (ad 53)), (1, .int (iI (a : Int))), (2, .int (iI (b : Int))), (3, .int (iI ((R9 a).length : Int))), (4, .int (iI ((R9 b).length : Int))), (5, .int (iI (i : Int))), (6, .int (iI (j : Int))), (7, .int (iI (1 + (rs (R9 a) (R9 b) (i + 1) j : Int)))), (8, .int (iI (rs (R9 a) (R9 b) (i + 1) j : Int))), (9, .int (iI (rs (R9 a) (R9 b) i (j + 1) : Int)))]) C dX6_fill_155 (by decide) rfl ?_
                      refine n_sub (lv2 := [(0, .ref (ad 53)), (1, .int (iI (a : Int))), (2, .int (iI (b : Int))), (3, .int (iI ((R9 a).length : Int))), (4, .int (iI ((R9 b).length : Int))), (5, .int (iI (i : Int))), (6, .int (iI (j : Int))), (7, .int (iI (1 + (rs (R9 a) (R9 b) (i + 1) j : Int))))]) [0, 1, 2, 3, 4, 5, 6, 7] rfl ?_
                      have hv9 : 1 + (rs (R9 a) (R9 b) (i + 1) j : Int) = (rs (R9 a) (R9 b) i j : Int) := by rw [rs_diff hx9 hy9 hne9]; omega
                      refine n_lv (lv2 := [(0, .ref (ad 53)), (1, .int (iI (a : Int))), (2, .int (iI (b : Int))), (3, .int (iI ((R9 a).length : Int))), (4, .int (iI ((R9 b).length : Int))), (5, .int (iI (i : Int))), (6, .int (iI (j : Int))), (7, .int (iI (rs (R9 a) (R9 b) i j : Int)))]) (by rw [hv9]) ?_
                      refine n_aload_n C dX6_fill_157 0 rfl rfl ?_
                      refine n_get (k9 := 15) C dX6_fill_158 (by omega) k53 hX6_fill_X6 rfl (by decide) kX6_fill_34 rfl ?_
                      refine n_bipush C dX6_fill_161 (by decide) ?_
                      refine n_iload C dX6_fill_163 5 rfl ?_
                      refine n_imul C dX6_fill_165 ?_
                      refine n_iload C dX6_fill_166 6 rfl ?_
                      refine n_iadd C dX6_fill_168 ?_
                      refine n_iload C dX6_fill_169 7 rfl ?_
                      refine n_iast (j := 21 * i + j) C dX6_fill_171 (by omega) k62 (by omega) (by omega) (by omega) (fun e13 hs14 ho15 => ?_)
                      have qh16 := (ho15 53 (by decide)).trans k53
                      refine n_iinc (lv' := [(0, .ref (ad 53)), (1, .int (iI (a : Int))), (2, .int (iI (b : Int))), (3, .int (iI ((R9 a).length : Int))), (4, .int (iI ((R9 b).length : Int))), (5, .int (iI (i : Int))), (6, .int (iI ((j : Int) + (-1)))), (7, .int (iI (rs (R9 a) (R9 b) i j : Int)))]) C dX6_fill_172 6 rfl (by decide) rfl ?_
                      refine n_goto (tgt := 27) C dX6_fill_175 (by decide) ?_
                      refine n_sub (lv2 := [(0, .ref (ad 53)), (1, .int (iI (a : Int))), (2, .int (iI (b : Int))), (3, .int (iI ((R9 a).length : Int))), (4, .int (iI ((R9 b).length : Int))), (5, .int (iI (i : Int))), (6, .int (iI ((j : Int) + (-1))))]) [0, 1, 2, 3, 4, 5, 6] rfl ?_
                      refine n_lv (lv2 := [(0, .ref (ad 53)), (1, .int (iI (a : Int))), (2, .int (iI (b : Int))), (3, .int (iI ((R9 a).length : Int))), (4, .int (iI ((R9 b).length : Int))), (5, .int (iI (i : Int))), (6, .int (iI ((j : Int) - 1)))]) rfl ?_
                      exact ih2 j e13 _ (by omega) (by omega) hs14 (fun k hk => (ho15 k (by omega)).trans (hF k hk)) (fun i9 j9 h1 h2 h3 => by
                        have hne : 21 * i9 + j9 ≠ 21 * i + j := by omega
                        simp only [upd, if_neg hne]
                        exact hok i9 j9 h1 h2 h3) (fun j9 h1 h2 => by
                        by_cases e : j9 = j
                        · subst e; simp [upd]
                        · have hne : 21 * i + j9 ≠ 21 * i + j := by omega
                          simp only [upd, if_neg hne]
                          exact hok2 j9 (by omega) h2)
                  · have he9 : x9 = y9 := of_decide_eq_true (hsm.symm.trans c5)
                    subst he9
                    refine n_aload_n C dX6_fill_70 0 rfl rfl ?_
                    refine n_get (k9 := 15) C dX6_fill_71 (by omega) k53 hX6_fill_X6 rfl (by decide) kX6_fill_34 rfl ?_
                    refine n_bipush C dX6_fill_74 (by decide) ?_
                    refine n_iload C dX6_fill_76 5 rfl ?_
                    refine n_iconst C dX6_fill_78 ?_
                    refine n_iadd C dX6_fill_79 ?_
                    refine n_imul C dX6_fill_80 ?_
                    refine n_iload C dX6_fill_81 6 rfl ?_
                    refine n_iadd C dX6_fill_83 ?_
                    refine n_iconst C dX6_fill_84 ?_
                    refine n_iadd C dX6_fill_85 ?_
                    refine n_iald (j := 21 * (i + 1) + (j + 1)) C dX6_fill_86 (by omega) k62 (by omega) (by omega) (by omega) ?_
                    refine n_topI (y := (iI (rs (R9 a) (R9 b) (i + 1) (j + 1) : Int))) (hok _ _ (by omega) (by omega) (by omega)) ?_
                    refine n_istore (lv' := [(0, .ref (ad 53)), (1, .int (iI (a : Int))), (2, .int (iI (b : Int))), (3, .int (iI ((R9 a).length : Int))), (4, .int (iI ((R9 b).length : Int))), (5, .int (iI (i : Int))), (6, .int (iI (j : Int))), (7, .int (iI (rs (R9 a) (R9 b) (i + 1) (j + 1) : Int)))]) C dX6_fill_87 (by decide) rfl ?_
                    refine n_goto (tgt := 157) C dX6_fill_89 (by decide) ?_
                    have hv9 : (rs (R9 a) (R9 b) (i + 1) (j + 1) : Int) = (rs (R9 a) (R9 b) i j : Int) := by rw [rs_same hx9 hy9]
                    refine n_lv (lv2 := [(0, .ref (ad 53)), (1, .int (iI (a : Int))), (2, .int (iI (b : Int))), (3, .int (iI ((R9 a).length : Int))), (4, .int (iI ((R9 b).length : Int))), (5, .int (iI (i : Int))), (6, .int (iI (j : Int))), (7, .int (iI (rs (R9 a) (R9 b) i j : Int)))]) (by rw [hv9]) ?_
                    refine n_aload_n C dX6_fill_157 0 rfl rfl ?_
                    refine n_get (k9 := 15) C dX6_fill_158 (by omega) k53 hX6_fill_X6 rfl (by decide) kX6_fill_34 rfl ?_
                    refine n_bipush C dX6_fill_161 (by decide) ?_
                    refine n_iload C dX6_fill_163 5 rfl ?_
                    refine n_imul C dX6_fill_165 ?_
                    refine n_iload C dX6_fill_166 6 rfl ?_
                    refine n_iadd C dX6_fill_168 ?_
                    refine n_iload C dX6_fill_169 7 rfl ?_
                    refine n_iast (j := 21 * i + j) C dX6_fill_171 (by omega) k62 (by omega) (by omega) (by omega) (fun e17 hs18 ho19 => ?_)
                    have qh20 := (ho19 53 (by decide)).trans k53
                    refine n_iinc (lv' := [(0, .ref (ad 53)), (1, .int (iI (a : Int))), (2, .int (iI (b : Int))), (3, .int (iI ((R9 a).length : Int))), (4, .int (iI ((R9 b).length : Int))), (5, .int (iI (i : Int))), (6, .int (iI ((j : Int) + (-1)))), (7, .int (iI (rs (R9 a) (R9 b) i j : Int)))]) C dX6_fill_172 6 rfl (by decide) rfl ?_
                    refine n_goto (tgt := 27) C dX6_fill_175 (by decide) ?_
                    refine n_sub (lv2 := [(0, .ref (ad 53)), (1, .int (iI (a : Int))), (2, .int (iI (b : Int))), (3, .int (iI ((R9 a).length : Int))), (4, .int (iI ((R9 b).length : Int))), (5, .int (iI (i : Int))), (6, .int (iI ((j : Int) + (-1))))]) [0, 1, 2, 3, 4, 5, 6] rfl ?_
                    refine n_lv (lv2 := [(0, .ref (ad 53)), (1, .int (iI (a : Int))), (2, .int (iI (b : Int))), (3, .int (iI ((R9 a).length : Int))), (4, .int (iI ((R9 b).length : Int))), (5, .int (iI (i : Int))), (6, .int (iI ((j : Int) - 1)))]) rfl ?_
                    exact ih2 j e17 _ (by omega) (by omega) hs18 (fun k hk => (ho19 k (by omega)).trans (hF k hk)) (fun i9 j9 h1 h2 h3 => by
                      have hne : 21 * i9 + j9 ≠ 21 * i + j := by omega
                      simp only [upd, if_neg hne]
                      exact hok i9 j9 h1 h2 h3) (fun j9 h1 h2 => by
                      by_cases e : j9 = j
                      · subst e; simp [upd]
                      · have hne : 21 * i + j9 ≠ 21 * i + j := by omega
                        simp only [upd, if_neg hne]
                        exact hok2 j9 (by omega) h2)
        refine n_lv (lv2 := [(0, .ref (ad 53)), (1, .int (iI (a : Int))), (2, .int (iI (b : Int))), (3, .int (iI ((R9 a).length : Int))), (4, .int (iI ((R9 b).length : Int))), (5, .int (iI (i : Int))), (6, .int (iI ((((R9 b).length + 1 : Nat) : Int) - 1)))]) (by simp) ?_
        exact loop2 _ ((R9 b).length + 1) ex fq (Nat.lt_succ_self _) (Nat.le_refl _) k62 hF hok (fun j h1 h2 => absurd h1 (by omega))
  refine n_lv (lv2 := [(0, .ref (ad 53)), (1, .int (iI (a : Int))), (2, .int (iI (b : Int))), (3, .int (iI ((R9 a).length : Int))), (4, .int (iI ((R9 b).length : Int))), (5, .int (iI ((((R9 a).length + 1 : Nat) : Int) - 1)))]) (by simp) ?_
  exact loop _ ((R9 a).length + 1) ev fq (Nat.lt_succ_self _) (Nat.le_refl _) k62 Fr.rf (fun i j h1 h2 h3 => absurd h1 (by omega))

set_option maxHeartbeats 4000000 in
set_option maxRecDepth 100000 in
theorem TX6_deletes (l : Launch) {G : GG} {N : Nat} {ad : Nat → Nat} {ev : Nat → va_E} {lim thr : Int} {no : Nat} {cmp : Bool} {nl lsz nr : Nat} {R9 : Nat → List Int32} {fz fy : Nat → Int32} {a b i j : Nat} {fq : Nat → Int32} (hN : 66 ≤ N) (k53 : ev 53 = mO ad lim thr no cmp nl lsz nr) (m1 : MRows G ev R9 fz fy) (ha : a < 3) (hb : b < 3) (k62 : ev 62 = .inl (G.2.1, 441, .inl fq)) (hok : okF fq (R9 a) (R9 b)) (hi : i ≤ (R9 a).length) (hj : j ≤ (R9 b).length) : Ct l yX6_deletes wsX6_deletes rmX6_deletes [.ref (ad 53), .int (iI (a : Int)), .int (iI (i : Int)), .int (iI (j : Int))] G N ad ev 0 0 (fun v e2 => v = some (.int (bI (decide (i < (R9 a).length ∧ rs (R9 a) (R9 b) (i + 1) j < rs (R9 a) (R9 b) i j)))) ∧ ev = e2) := by
  obtain ⟨za, la, ya⟩ := m1.at (j := a) ha
  obtain ⟨zb, lb, yb⟩ := m1.at (j := b) hb
  have q2 := rs_le (R9 a) (R9 b) (i + 1) j
  have q3 := rs_le (R9 a) (R9 b) i j
  refine Ct_of (cc := cX6_deletes) (maxL := 4) (ret := some .boolean) (lv := [(0, .ref (ad 53)), (1, .int (iI (a : Int))), (2, .int (iI (i : Int))), (3, .int (iI (j : Int)))]) (by decide) rfl (Nat.le_of_ble_eq_true rfl) rfl ?_
  intro p E s m args below meth c A C hr hnm
  refine n_iload_n C dX6_deletes_0 2 rfl rfl ?_
  refine n_aload_n C dX6_deletes_1 0 rfl rfl ?_
  refine n_get (k9 := 2) C dX6_deletes_2 (by omega) k53 hX6_deletes_X6 rfl (by decide) kX6_deletes_7 rfl ?_
  refine n_iload_n C dX6_deletes_5 1 rfl rfl ?_
  refine n_iald (j := a) C dX6_deletes_6 (by omega) m1.1 (by omega) (by omega) (by omega) ?_
  refine n_topI (y := (iI ((R9 a).length : Int))) (za) ?_
  refine n_icmp_ge C dX6_deletes_7 (by decide) (by omega) (by omega) (by omega) (by omega) (tgt := 41) (fun c1 => ?_) (fun c1 => ?_)
  · refine n_iconst C dX6_deletes_41 ?_
    exact n_zret C hr dX6_deletes_42 (by decide) (⟨by rw [decide_eq_false (by omega)]; rfl, rfl⟩)
  · refine n_aload_n C dX6_deletes_10 0 rfl rfl ?_
    refine n_get (k9 := 15) C dX6_deletes_11 (by omega) k53 hX6_deletes_X6 rfl (by decide) kX6_deletes_34 rfl ?_
    refine n_bipush C dX6_deletes_14 (by decide) ?_
    refine n_iload_n C dX6_deletes_16 2 rfl rfl ?_
    refine n_iconst C dX6_deletes_17 ?_
    refine n_iadd C dX6_deletes_18 ?_
    refine n_imul C dX6_deletes_19 ?_
    refine n_iload_n C dX6_deletes_20 3 rfl rfl ?_
    refine n_iadd C dX6_deletes_21 ?_
    refine n_iald (j := 21 * (i + 1) + j) C dX6_deletes_22 (by omega) k62 (by omega) (by omega) (by omega) ?_
    refine n_topI (y := (iI (rs (R9 a) (R9 b) (i + 1) j : Int))) (hok _ _ (by omega) (by omega)) ?_
    refine n_aload_n C dX6_deletes_23 0 rfl rfl ?_
    refine n_get (k9 := 15) C dX6_deletes_24 (by omega) k53 hX6_deletes_X6 rfl (by decide) kX6_deletes_34 rfl ?_
    refine n_bipush C dX6_deletes_27 (by decide) ?_
    refine n_iload_n C dX6_deletes_29 2 rfl rfl ?_
    refine n_imul C dX6_deletes_30 ?_
    refine n_iload_n C dX6_deletes_31 3 rfl rfl ?_
    refine n_iadd C dX6_deletes_32 ?_
    refine n_iald (j := 21 * i + j) C dX6_deletes_33 (by omega) k62 (by omega) (by omega) (by omega) ?_
    refine n_topI (y := (iI (rs (R9 a) (R9 b) i j : Int))) (hok _ _ (by omega) (by omega)) ?_
    refine n_icmp_ge C dX6_deletes_34 (by decide) (by omega) (by omega) (by omega) (by omega) (tgt := 41) (fun c2 => ?_) (fun c2 => ?_)
    · refine n_iconst C dX6_deletes_41 ?_
      exact n_zret C hr dX6_deletes_42 (by decide) (⟨by rw [decide_eq_false (by omega)]; rfl, rfl⟩)
    · refine n_iconst C dX6_deletes_37 ?_
      refine n_goto (tgt := 42) C dX6_deletes_38 (by decide) ?_
      exact n_zret C hr dX6_deletes_42 (by decide) (⟨by rw [decide_eq_true (by omega)]; rfl, rfl⟩)
