theorem kind3 (x : Int32) : x = iI 0 ∨ x = iI 1 ∨ (x ≠ iI 0 ∧ x ≠ iI 1 ∧ (x.toInt < 0 ∨ 1 < x.toInt)) := by
  by_cases h0 : x.toInt = 0
  · exact Or.inl (by rw [← h0, iI_self])
  · by_cases h1 : x.toInt = 1
    · exact Or.inr (Or.inl (by rw [← h1, iI_self]))
    · refine Or.inr (Or.inr ⟨fun h => h0 (by rw [h]; exact iI_toInt (by decide) (by decide)), fun h => h1 (by rw [h]; exact iI_toInt (by decide) (by decide)), by omega⟩)
theorem pstep_fst {xs : List Int32} {a : Nat × List Int32} {t : Tr} (h : chk xs a.1 t = 0) : (pstep xs a t).1 + insN t = plN t + 1 := by
  obtain ⟨hk, -⟩ := chk_0 h
  rcases hk with hk | hk
  · rw [pstep_0 hk, insN_0 hk]
  · rw [pstep_1 hk, insN_1 hk]
theorem insN_k {xs : List Int32} {tk : Nat} {t : Tr} (h : chk xs tk t = 0) : t.1 = iI (insN t : Int) := by
  obtain ⟨hk, -⟩ := chk_0 h
  rcases hk with hk | hk
  · rw [insN_0 hk]; exact hk
  · rw [insN_1 hk]; exact hk
theorem plN_p {xs : List Int32} {tk : Nat} {t : Tr} (h : chk xs tk t = 0) : t.2.1 = iI (plN t : Int) := (chk_0 h).2.2.1
theorem insN_le (t : Tr) : insN t ≤ 1 := by unfold insN; split <;> omega
theorem wr_all {xs : List Int32} {ops : List Tr} : ∀ (n k : Nat), ops.length - k ≤ n → k ≤ ops.length → wr xs ops k = 0 → (∀ j t, k ≤ j → ops[j]? = some t → trb xs (pst xs ops j) t = 0)
  | n, k, hn, hk, h, j, t, hj, ht => by
    have hjl : j < ops.length := (List.getElem?_eq_some_iff.mp ht).1
    obtain ⟨t9, ht9⟩ := some_of_lt (xs := ops) (j := k) (by omega)
    have h0 : trb xs (pst xs ops k) t9 = 0 := by
      by_cases hb : trb xs (pst xs ops k) t9 = 0
      · exact hb
      · rw [wr_bad ht9 hb] at h; exact absurd h hb
    by_cases e : j = k
    · subst e
      obtain rfl : t9 = t := Option.some.inj (ht9.symm.trans ht)
      exact h0
    · cases n with
      | zero => omega
      | succ n =>
        rw [wr_ok ht9 h0] at h
        exact wr_all n (k + 1) (by omega) (by omega) h j t (by omega) ht
theorem wr_fin {xs : List Int32} {ops : List Tr} : ∀ (n k : Nat), ops.length - k ≤ n → k ≤ ops.length → wr xs ops k = 0 → wr xs ops ops.length = 0
  | n, k, hn, hk, h => by
    by_cases e : k = ops.length
    · rw [← e]; exact h
    · obtain ⟨t9, ht9⟩ := some_of_lt (xs := ops) (j := k) (by omega)
      have h0 : trb xs (pst xs ops k) t9 = 0 := by
        by_cases hb : trb xs (pst xs ops k) t9 = 0
        · exact hb
        · rw [wr_bad ht9 hb] at h; exact absurd h hb
      cases n with
      | zero => omega
      | succ n =>
        rw [wr_ok ht9 h0] at h
        exact wr_fin n (k + 1) (by omega) (by omega) h
theorem trb_4 {xs : List Int32} {a : Nat × List Int32} {t : Tr} (h : chk xs a.1 t = 0) {v : Nat} (hv : (if 60 < a.2.length + (plN t - a.1) + insN t then 4 else 0) = v) : trb xs a t = v := by rw [trb_room h, hv]

theorem trb_le (xs : List Int32) (a : Nat × List Int32) (t : Tr) : trb xs a t ≤ 4 := by
  unfold trb chk
  repeat' split
  all_goals omega
theorem wr_le (xs : List Int32) (ops : List Tr) : ∀ (n k : Nat), ops.length - k ≤ n → wr xs ops k ≤ 4
  | n, k, hn => by
    rcases Nat.lt_or_ge k ops.length with h | h
    · obtain ⟨t9, ht9⟩ := some_of_lt h
      by_cases hb : trb xs (pst xs ops k) t9 = 0
      · cases n with
        | zero => omega
        | succ n => rw [wr_ok ht9 hb]; exact wr_le xs ops n (k + 1) (by omega)
      · rw [wr_bad ht9 hb]; exact trb_le _ _ _
    · rw [wr_end h]; split <;> omega

set_option maxHeartbeats 4000000 in
set_option maxRecDepth 100000 in
theorem TX6_trouble (l : Launch) {G : GG} {N : Nat} {ad : Nat → Nat} {ev : Nat → va_E} {lim thr : Int} {no : Nat} {cmp : Bool} {nl lsz nr : Nat} {R9 : Nat → List Int32} {fz fy : Nat → Int32} {ops : List Tr} {fk fp fs : Nat → Int32} {j k tk : Nat} {acc : List Int32} {t : Tr} (hN : 66 ≤ N) (k53 : ev 53 = mO ad lim thr no cmp nl lsz nr) (m1 : MRows G ev R9 fz fy) (m2 : MOps G ev ops fk fp fs) (hj : j < 3) (ht : ops[k]? = some t) (htk0 : k = 0 → tk = 0) (htk : 0 < k → ∃ q : Nat, fp (k - 1) = iI (q : Int) ∧ tk = if fk (k - 1) = iI 0 then q + 1 else q) (htl : tk ≤ (R9 j).length) (hal : acc.length ≤ 60) : Ct l yX6_trouble wsX6_trouble rmX6_trouble [.ref (ad 53), .int (iI (j : Int)), .int (iI (k : Int)), .int (iI (tk : Int)), .int (iI (acc.length : Int))] G N ad ev 0 0 (fun v e2 => v = some (.int (iI (trb (R9 j) (tk, acc) t : Nat))) ∧ ev = e2) := by
  obtain ⟨zj, lj, yj⟩ := m1.at (j := j) hj
  have hk : k < ops.length := (List.getElem?_eq_some_iff.mp ht).1
  have hlo := m2.2.2.2.2
  obtain rfl : t = (fk k, fp k, fs k) := Option.some.inj (ht.symm.trans (m2.2.2.2.1 k hk))
  have hPa := (fp k).le_toInt
  have hPb := (fp k).toInt_lt
  have hSa := (fs k).le_toInt
  have hSb := (fs k).toInt_lt
  have hKa := (fk k).le_toInt
  have hKb := (fk k).toInt_lt
  refine Ct_of (cc := cX6_trouble) (maxL := 8) (ret := some .int) (lv := [(0, .ref (ad 53)), (1, .int (iI (j : Int))), (2, .int (iI (k : Int))), (3, .int (iI (tk : Int))), (4, .int (iI (acc.length : Int)))]) (by decide) rfl (Nat.le_of_ble_eq_true rfl) rfl ?_
  intro p E s m args below meth c A C hr hnm
  refine n_aload_n C dX6_trouble_0 0 rfl rfl ?_
  refine n_get (k9 := 2) C dX6_trouble_1 (by omega) k53 hX6_trouble_X6 rfl (by decide) kX6_trouble_7 rfl ?_
  refine n_iload_n C dX6_trouble_4 1 rfl rfl ?_
  refine n_iald (j := j) C dX6_trouble_5 (by omega) m1.1 (by omega) (by omega) (by omega) ?_
  refine n_topI (y := (iI ((R9 j).length : Int))) (zj) ?_
  refine n_istore (lv' := [(0, .ref (ad 53)), (1, .int (iI (j : Int))), (2, .int (iI (k : Int))), (3, .int (iI (tk : Int))), (4, .int (iI (acc.length : Int))), (5, .int (iI ((R9 j).length : Int)))]) C dX6_trouble_6 (by decide) rfl ?_
  refine n_iload_n C dX6_trouble_8 2 rfl rfl ?_
  refine n_if_ne C dX6_trouble_9 (by decide) (by omega) (by omega) (tgt := 16) (fun c1 => ?_) (fun c1 => ?_)
  · obtain ⟨q9, hq9, htk9⟩ := htk (by omega)
    refine n_aload_n C dX6_trouble_16 0 rfl rfl ?_
    refine n_get (k9 := 5) C dX6_trouble_17 (by omega) k53 hX6_trouble_X6 rfl (by decide) kX6_trouble_16 rfl ?_
    refine n_iload_n C dX6_trouble_20 2 rfl rfl ?_
    refine n_iconst C dX6_trouble_21 ?_
    refine n_isub C dX6_trouble_22 ?_
    refine n_iald (j := k - 1) C dX6_trouble_23 (by omega) m2.1 (by omega) (by omega) (by omega) ?_
    refine n_if_neR C dX6_trouble_24 (by decide) (tgt := 40) (fun c2 => ?_) (fun c2 => ?_)
    · rw [if_neg c2] at htk9
      refine n_aload_n C dX6_trouble_40 0 rfl rfl ?_
      refine n_get (k9 := 6) C dX6_trouble_41 (by omega) k53 hX6_trouble_X6 rfl (by decide) kX6_trouble_19 rfl ?_
      refine n_iload_n C dX6_trouble_44 2 rfl rfl ?_
      refine n_iconst C dX6_trouble_45 ?_
      refine n_isub C dX6_trouble_46 ?_
      refine n_iald (j := k - 1) C dX6_trouble_47 (by omega) m2.2.1 (by omega) (by omega) (by omega) ?_
      refine n_topI (y := (iI (q9 : Int))) (hq9) ?_
      refine n_istore (lv' := [(0, .ref (ad 53)), (1, .int (iI (j : Int))), (2, .int (iI (k : Int))), (3, .int (iI (tk : Int))), (4, .int (iI (acc.length : Int))), (5, .int (iI ((R9 j).length : Int))), (6, .int (iI (q9 : Int)))]) C dX6_trouble_48 (by decide) rfl ?_
      refine n_lv (lv2 := [(0, .ref (ad 53)), (1, .int (iI (j : Int))), (2, .int (iI (k : Int))), (3, .int (iI (tk : Int))), (4, .int (iI (acc.length : Int))), (5, .int (iI ((R9 j).length : Int))), (6, .int (iI (tk : Int)))]) (by rw [htk9]) ?_
      rcases kind3 (fk k) with hk9 | hk9 | ⟨hk9, hk8, hk7⟩
      · refine n_aload_n C dX6_trouble_50 0 rfl rfl ?_
        refine n_get (k9 := 5) C dX6_trouble_51 (by omega) k53 hX6_trouble_X6 rfl (by decide) kX6_trouble_16 rfl ?_
        refine n_iload_n C dX6_trouble_54 2 rfl rfl ?_
        refine n_iald (j := k) C dX6_trouble_55 (by omega) m2.1 (by omega) (by omega) (by omega) ?_
        refine n_topI (y := (iI 0)) (hk9) ?_
        refine n_if_lt C dX6_trouble_56 (by decide) (by omega) (by omega) (tgt := 90) (fun c9 => absurd c9 (by omega)) (fun _ => ?_)
        refine n_aload_n C dX6_trouble_59 0 rfl rfl ?_
        refine n_get (k9 := 5) C dX6_trouble_60 (by omega) k53 hX6_trouble_X6 rfl (by decide) kX6_trouble_16 rfl ?_
        refine n_iload_n C dX6_trouble_63 2 rfl rfl ?_
        refine n_iald (j := k) C dX6_trouble_64 (by omega) m2.1 (by omega) (by omega) (by omega) ?_
        refine n_topI (y := (iI 0)) (hk9) ?_
        refine n_iconst C dX6_trouble_65 ?_
        refine n_icmp_gt C dX6_trouble_66 (by decide) (by omega) (by omega) (by omega) (by omega) (tgt := 90) (fun c9 => absurd c9 (by omega)) (fun _ => ?_)
        refine n_aload_n C dX6_trouble_69 0 rfl rfl ?_
        refine n_get (k9 := 7) C dX6_trouble_70 (by omega) k53 hX6_trouble_X6 rfl (by decide) kX6_trouble_22 rfl ?_
        refine n_iload_n C dX6_trouble_73 2 rfl rfl ?_
        refine n_iald (j := k) C dX6_trouble_74 (by omega) m2.2.2.1 (by omega) (by omega) (by omega) ?_
        refine n_topI (y := (iI ((fs k).toInt))) ((iI_self (fs k)).symm) ?_
        refine n_if_lt C dX6_trouble_75 (by decide) (by omega) (by omega) (tgt := 90) (fun c3 => ?_) (fun c3 => ?_)
        · refine n_iconst C dX6_trouble_90 ?_
          have hcc : chk (R9 j) tk (fk k, fp k, fs k) = 1 := chk_a (Or.inr (decide_eq_false (by omega)))
          have htr : trb (R9 j) (tk, acc) (fk k, fp k, fs k) = 1 := by rw [trb_chk (a := (tk, acc)) (by show chk (R9 j) tk (fk k, fp k, fs k) ≠ 0; rw [hcc]; decide)]; exact hcc
          exact n_iret C hr dX6_trouble_91 (⟨by rw [htr]; rfl, rfl⟩)
        · refine n_aload_n C dX6_trouble_78 0 rfl rfl ?_
          refine n_get (k9 := 7) C dX6_trouble_79 (by omega) k53 hX6_trouble_X6 rfl (by decide) kX6_trouble_22 rfl ?_
          refine n_iload_n C dX6_trouble_82 2 rfl rfl ?_
          refine n_iald (j := k) C dX6_trouble_83 (by omega) m2.2.2.1 (by omega) (by omega) (by omega) ?_
          refine n_topI (y := (iI ((fs k).toInt))) ((iI_self (fs k)).symm) ?_
          refine n_sipush C dX6_trouble_84 (by decide) ?_
          refine n_icmp_le C dX6_trouble_87 (by decide) (by omega) (by omega) (by omega) (by omega) (tgt := 92) (fun c4 => ?_) (fun c4 => ?_)
          · have hcv : chk (R9 j) tk (fk k, fp k, fs k) = if (fp k).toInt < (tk : Int) ∨ ((R9 j).length : Int) - 1 < (fp k).toInt then 2 else if (R9 j)[(fp k).toInt.toNat]? ≠ some (fs k) then 3 else 0 := by rw [hk9]; exact chk_k0 (decide_eq_true (by omega))
            refine n_aload_n C dX6_trouble_92 0 rfl rfl ?_
            refine n_get (k9 := 6) C dX6_trouble_93 (by omega) k53 hX6_trouble_X6 rfl (by decide) kX6_trouble_19 rfl ?_
            refine n_iload_n C dX6_trouble_96 2 rfl rfl ?_
            refine n_iald (j := k) C dX6_trouble_97 (by omega) m2.2.1 (by omega) (by omega) (by omega) ?_
            refine n_topI (y := (iI ((fp k).toInt))) ((iI_self (fp k)).symm) ?_
            refine n_if_lt C dX6_trouble_98 (by decide) (by omega) (by omega) (tgt := 132) (fun c5 => ?_) (fun c5 => ?_)
            · refine n_iconst C dX6_trouble_132 ?_
              have hcc : chk (R9 j) tk (fk k, fp k, fs k) = 2 := by rw [hcv, if_pos (by omega)]
              have htr : trb (R9 j) (tk, acc) (fk k, fp k, fs k) = 2 := by rw [trb_chk (a := (tk, acc)) (by show chk (R9 j) tk (fk k, fp k, fs k) ≠ 0; rw [hcc]; decide)]; exact hcc
              exact n_iret C hr dX6_trouble_133 (⟨by rw [htr]; rfl, rfl⟩)
            · refine n_aload_n C dX6_trouble_101 0 rfl rfl ?_
              refine n_get (k9 := 6) C dX6_trouble_102 (by omega) k53 hX6_trouble_X6 rfl (by decide) kX6_trouble_19 rfl ?_
              refine n_iload_n C dX6_trouble_105 2 rfl rfl ?_
              refine n_iald (j := k) C dX6_trouble_106 (by omega) m2.2.1 (by omega) (by omega) (by omega) ?_
              refine n_topI (y := (iI ((fp k).toInt))) ((iI_self (fp k)).symm) ?_
              refine n_iload C dX6_trouble_107 5 rfl ?_
              refine n_iconst C dX6_trouble_109 ?_
              refine n_isub C dX6_trouble_110 ?_
              refine n_aload_n C dX6_trouble_111 0 rfl rfl ?_
              refine n_get (k9 := 5) C dX6_trouble_112 (by omega) k53 hX6_trouble_X6 rfl (by decide) kX6_trouble_16 rfl ?_
              refine n_iload_n C dX6_trouble_115 2 rfl rfl ?_
              refine n_iald (j := k) C dX6_trouble_116 (by omega) m2.1 (by omega) (by omega) (by omega) ?_
              refine n_topI (y := (iI 0)) (hk9) ?_
              refine n_iadd C dX6_trouble_117 ?_
              refine n_icmp_gt C dX6_trouble_118 (by decide) (by omega) (by omega) (by omega) (by omega) (tgt := 132) (fun c6 => ?_) (fun c6 => ?_)
              · refine n_iconst C dX6_trouble_132 ?_
                have hcc : chk (R9 j) tk (fk k, fp k, fs k) = 2 := by rw [hcv, if_pos (by omega)]
                have htr : trb (R9 j) (tk, acc) (fk k, fp k, fs k) = 2 := by rw [trb_chk (a := (tk, acc)) (by show chk (R9 j) tk (fk k, fp k, fs k) ≠ 0; rw [hcc]; decide)]; exact hcc
                exact n_iret C hr dX6_trouble_133 (⟨by rw [htr]; rfl, rfl⟩)
              · refine n_aload_n C dX6_trouble_121 0 rfl rfl ?_
                refine n_get (k9 := 6) C dX6_trouble_122 (by omega) k53 hX6_trouble_X6 rfl (by decide) kX6_trouble_19 rfl ?_
                refine n_iload_n C dX6_trouble_125 2 rfl rfl ?_
                refine n_iald (j := k) C dX6_trouble_126 (by omega) m2.2.1 (by omega) (by omega) (by omega) ?_
                refine n_topI (y := (iI ((fp k).toInt))) ((iI_self (fp k)).symm) ?_
                refine n_iload C dX6_trouble_127 6 rfl ?_
                refine n_icmp_ge C dX6_trouble_129 (by decide) (by omega) (by omega) (by omega) (by omega) (tgt := 134) (fun c7 => ?_) (fun c7 => ?_)
                · refine n_aload_n C dX6_trouble_134 0 rfl rfl ?_
                  refine n_get (k9 := 5) C dX6_trouble_135 (by omega) k53 hX6_trouble_X6 rfl (by decide) kX6_trouble_16 rfl ?_
                  refine n_iload_n C dX6_trouble_138 2 rfl rfl ?_
                  refine n_iald (j := k) C dX6_trouble_139 (by omega) m2.1 (by omega) (by omega) (by omega) ?_
                  refine n_topI (y := (iI 0)) (hk9) ?_
                  refine n_if_ne C dX6_trouble_140 (by decide) (by omega) (by omega) (tgt := 170) (fun c9 => absurd c9 (by omega)) (fun _ => ?_)
                  obtain ⟨pn, hpn9⟩ : ∃ pn : Nat, (fp k).toInt = (pn : Int) := ⟨(fp k).toInt.toNat, by omega⟩
                  have hg9 := yj pn (by omega)
                  refine n_aload_n C dX6_trouble_143 0 rfl rfl ?_
                  refine n_get (k9 := 3) C dX6_trouble_144 (by omega) k53 hX6_trouble_X6 rfl (by decide) kX6_trouble_13 rfl ?_
                  refine n_bipush C dX6_trouble_147 (by decide) ?_
                  refine n_iload_n C dX6_trouble_149 1 rfl rfl ?_
                  refine n_imul C dX6_trouble_150 ?_
                  refine n_aload_n C dX6_trouble_151 0 rfl rfl ?_
                  refine n_get (k9 := 6) C dX6_trouble_152 (by omega) k53 hX6_trouble_X6 rfl (by decide) kX6_trouble_19 rfl ?_
                  refine n_iload_n C dX6_trouble_155 2 rfl rfl ?_
                  refine n_iald (j := k) C dX6_trouble_156 (by omega) m2.2.1 (by omega) (by omega) (by omega) ?_
                  refine n_topI (y := (iI (pn : Int))) (by rw [← hpn9, iI_self]) ?_
                  refine n_iadd C dX6_trouble_157 ?_
                  refine n_iald (j := 20 * j + pn) C dX6_trouble_158 (by omega) m1.2.1 (by omega) (by omega) (by omega) ?_
                  refine n_aload_n C dX6_trouble_159 0 rfl rfl ?_
                  refine n_get (k9 := 7) C dX6_trouble_160 (by omega) k53 hX6_trouble_X6 rfl (by decide) kX6_trouble_22 rfl ?_
                  refine n_iload_n C dX6_trouble_163 2 rfl rfl ?_
                  refine n_iald (j := k) C dX6_trouble_164 (by omega) m2.2.2.1 (by omega) (by omega) (by omega) ?_
                  refine n_icmp_eqR C dX6_trouble_165 (by decide) (tgt := 170) (fun c8 => ?_) (fun c8 => ?_)
                  · have hcc : chk (R9 j) tk (fk k, fp k, fs k) = 0 := by rw [hcv, if_neg (by omega), hpn9, Int.toNat_natCast, hg9, c8, if_neg (by simp)]
                    have hpn : plN (fk k, fp k, fs k) = (fp k).toInt.toNat := rfl
                    have hin : insN (fk k, fp k, fs k) = 0 := insN_0 hk9
                    refine n_iload C dX6_trouble_170 4 rfl ?_
                    refine n_aload_n C dX6_trouble_172 0 rfl rfl ?_
                    refine n_get (k9 := 6) C dX6_trouble_173 (by omega) k53 hX6_trouble_X6 rfl (by decide) kX6_trouble_19 rfl ?_
                    refine n_iload_n C dX6_trouble_176 2 rfl rfl ?_
                    refine n_iald (j := k) C dX6_trouble_177 (by omega) m2.2.1 (by omega) (by omega) (by omega) ?_
                    refine n_topI (y := (iI ((fp k).toInt))) ((iI_self (fp k)).symm) ?_
                    refine n_iadd C dX6_trouble_178 ?_
                    refine n_iload_n C dX6_trouble_179 3 rfl rfl ?_
                    refine n_isub C dX6_trouble_180 ?_
                    refine n_istore (lv' := [(0, .ref (ad 53)), (1, .int (iI (j : Int))), (2, .int (iI (k : Int))), (3, .int (iI (tk : Int))), (4, .int (iI (acc.length : Int))), (5, .int (iI ((R9 j).length : Int))), (6, .int (iI (tk : Int))), (7, .int (iI (((acc.length : Int) + ((fp k).toInt)) - (tk : Int))))]) C dX6_trouble_181 (by decide) rfl ?_
                    refine n_iload C dX6_trouble_183 7 rfl ?_
                    refine n_aload_n C dX6_trouble_185 0 rfl rfl ?_
                    refine n_get (k9 := 5) C dX6_trouble_186 (by omega) k53 hX6_trouble_X6 rfl (by decide) kX6_trouble_16 rfl ?_
                    refine n_iload_n C dX6_trouble_189 2 rfl rfl ?_
                    refine n_iald (j := k) C dX6_trouble_190 (by omega) m2.1 (by omega) (by omega) (by omega) ?_
                    refine n_topI (y := (iI 0)) (hk9) ?_
                    refine n_iadd C dX6_trouble_191 ?_
                    refine n_bipush C dX6_trouble_192 (by decide) ?_
                    refine n_icmp_le C dX6_trouble_194 (by decide) (by omega) (by omega) (by omega) (by omega) (tgt := 201) (fun c9 => ?_) (fun c9 => ?_)
                    · refine n_iconst C dX6_trouble_201 ?_
                      have htr : trb (R9 j) (tk, acc) (fk k, fp k, fs k) = 0 := trb_4 (a := (tk, acc)) hcc (by rw [hin, hpn]; exact if_neg (by show ¬ 60 < acc.length + ((fp k).toInt.toNat - tk) + 0; omega))
                      exact n_iret C hr dX6_trouble_202 (⟨by rw [htr]; rfl, rfl⟩)
                    · refine n_iconst C dX6_trouble_197 ?_
                      refine n_goto (tgt := 202) C dX6_trouble_198 (by decide) ?_
                      have htr : trb (R9 j) (tk, acc) (fk k, fp k, fs k) = 4 := trb_4 (a := (tk, acc)) hcc (by rw [hin, hpn]; exact if_pos (by show 60 < acc.length + ((fp k).toInt.toNat - tk) + 0; omega))
                      exact n_iret C hr dX6_trouble_202 (⟨by rw [htr]; rfl, rfl⟩)
                  · refine n_iconst C dX6_trouble_168 ?_
                    have hcc : chk (R9 j) tk (fk k, fp k, fs k) = 3 := by rw [hcv, if_neg (by omega), hpn9, Int.toNat_natCast, hg9, if_pos (fun q => c8 (Option.some.inj q))]
                    have htr : trb (R9 j) (tk, acc) (fk k, fp k, fs k) = 3 := by rw [trb_chk (a := (tk, acc)) (by show chk (R9 j) tk (fk k, fp k, fs k) ≠ 0; rw [hcc]; decide)]; exact hcc
                    exact n_iret C hr dX6_trouble_169 (⟨by rw [htr]; rfl, rfl⟩)
                · refine n_iconst C dX6_trouble_132 ?_
                  have hcc : chk (R9 j) tk (fk k, fp k, fs k) = 2 := by rw [hcv, if_pos (by omega)]
                  have htr : trb (R9 j) (tk, acc) (fk k, fp k, fs k) = 2 := by rw [trb_chk (a := (tk, acc)) (by show chk (R9 j) tk (fk k, fp k, fs k) ≠ 0; rw [hcc]; decide)]; exact hcc
                  exact n_iret C hr dX6_trouble_133 (⟨by rw [htr]; rfl, rfl⟩)
          · refine n_iconst C dX6_trouble_90 ?_
            have hcc : chk (R9 j) tk (fk k, fp k, fs k) = 1 := chk_a (Or.inr (decide_eq_false (by omega)))
            have htr : trb (R9 j) (tk, acc) (fk k, fp k, fs k) = 1 := by rw [trb_chk (a := (tk, acc)) (by show chk (R9 j) tk (fk k, fp k, fs k) ≠ 0; rw [hcc]; decide)]; exact hcc
            exact n_iret C hr dX6_trouble_91 (⟨by rw [htr]; rfl, rfl⟩)
      · refine n_aload_n C dX6_trouble_50 0 rfl rfl ?_
        refine n_get (k9 := 5) C dX6_trouble_51 (by omega) k53 hX6_trouble_X6 rfl (by decide) kX6_trouble_16 rfl ?_
        refine n_iload_n C dX6_trouble_54 2 rfl rfl ?_
        refine n_iald (j := k) C dX6_trouble_55 (by omega) m2.1 (by omega) (by omega) (by omega) ?_
        refine n_topI (y := (iI 1)) (hk9) ?_
        refine n_if_lt C dX6_trouble_56 (by decide) (by omega) (by omega) (tgt := 90) (fun c9 => absurd c9 (by omega)) (fun _ => ?_)
        refine n_aload_n C dX6_trouble_59 0 rfl rfl ?_
        refine n_get (k9 := 5) C dX6_trouble_60 (by omega) k53 hX6_trouble_X6 rfl (by decide) kX6_trouble_16 rfl ?_
        refine n_iload_n C dX6_trouble_63 2 rfl rfl ?_
        refine n_iald (j := k) C dX6_trouble_64 (by omega) m2.1 (by omega) (by omega) (by omega) ?_
        refine n_topI (y := (iI 1)) (hk9) ?_
        refine n_iconst C dX6_trouble_65 ?_
        refine n_icmp_gt C dX6_trouble_66 (by decide) (by omega) (by omega) (by omega) (by omega) (tgt := 90) (fun c9 => absurd c9 (by omega)) (fun _ => ?_)
        refine n_aload_n C dX6_trouble_69 0 rfl rfl ?_
        refine n_get (k9 := 7) C dX6_trouble_70 (by omega) k53 hX6_trouble_X6 rfl (by decide) kX6_trouble_22 rfl ?_
        refine n_iload_n C dX6_trouble_73 2 rfl rfl ?_
        refine n_iald (j := k) C dX6_trouble_74 (by omega) m2.2.2.1 (by omega) (by omega) (by omega) ?_
        refine n_topI (y := (iI ((fs k).toInt))) ((iI_self (fs k)).symm) ?_
        refine n_if_lt C dX6_trouble_75 (by decide) (by omega) (by omega) (tgt := 90) (fun c3 => ?_) (fun c3 => ?_)
        · refine n_iconst C dX6_trouble_90 ?_
          have hcc : chk (R9 j) tk (fk k, fp k, fs k) = 1 := chk_a (Or.inr (decide_eq_false (by omega)))
          have htr : trb (R9 j) (tk, acc) (fk k, fp k, fs k) = 1 := by rw [trb_chk (a := (tk, acc)) (by show chk (R9 j) tk (fk k, fp k, fs k) ≠ 0; rw [hcc]; decide)]; exact hcc
          exact n_iret C hr dX6_trouble_91 (⟨by rw [htr]; rfl, rfl⟩)
        · refine n_aload_n C dX6_trouble_78 0 rfl rfl ?_
          refine n_get (k9 := 7) C dX6_trouble_79 (by omega) k53 hX6_trouble_X6 rfl (by decide) kX6_trouble_22 rfl ?_
          refine n_iload_n C dX6_trouble_82 2 rfl rfl ?_
          refine n_iald (j := k) C dX6_trouble_83 (by omega) m2.2.2.1 (by omega) (by omega) (by omega) ?_
          refine n_topI (y := (iI ((fs k).toInt))) ((iI_self (fs k)).symm) ?_
          refine n_sipush C dX6_trouble_84 (by decide) ?_
          refine n_icmp_le C dX6_trouble_87 (by decide) (by omega) (by omega) (by omega) (by omega) (tgt := 92) (fun c4 => ?_) (fun c4 => ?_)
          · have hcv : chk (R9 j) tk (fk k, fp k, fs k) = if (fp k).toInt < (tk : Int) ∨ ((R9 j).length : Int) < (fp k).toInt then 2 else 0 := by rw [hk9]; exact chk_k1 (decide_eq_true (by omega))
            refine n_aload_n C dX6_trouble_92 0 rfl rfl ?_
            refine n_get (k9 := 6) C dX6_trouble_93 (by omega) k53 hX6_trouble_X6 rfl (by decide) kX6_trouble_19 rfl ?_
            refine n_iload_n C dX6_trouble_96 2 rfl rfl ?_
            refine n_iald (j := k) C dX6_trouble_97 (by omega) m2.2.1 (by omega) (by omega) (by omega) ?_
            refine n_topI (y := (iI ((fp k).toInt))) ((iI_self (fp k)).symm) ?_
            refine n_if_lt C dX6_trouble_98 (by decide) (by omega) (by omega) (tgt := 132) (fun c5 => ?_) (fun c5 => ?_)
            · refine n_iconst C dX6_trouble_132 ?_
              have hcc : chk (R9 j) tk (fk k, fp k, fs k) = 2 := by rw [hcv, if_pos (by omega)]
              have htr : trb (R9 j) (tk, acc) (fk k, fp k, fs k) = 2 := by rw [trb_chk (a := (tk, acc)) (by show chk (R9 j) tk (fk k, fp k, fs k) ≠ 0; rw [hcc]; decide)]; exact hcc
              exact n_iret C hr dX6_trouble_133 (⟨by rw [htr]; rfl, rfl⟩)
            · refine n_aload_n C dX6_trouble_101 0 rfl rfl ?_
              refine n_get (k9 := 6) C dX6_trouble_102 (by omega) k53 hX6_trouble_X6 rfl (by decide) kX6_trouble_19 rfl ?_
              refine n_iload_n C dX6_trouble_105 2 rfl rfl ?_
              refine n_iald (j := k) C dX6_trouble_106 (by omega) m2.2.1 (by omega) (by omega) (by omega) ?_
              refine n_topI (y := (iI ((fp k).toInt))) ((iI_self (fp k)).symm) ?_
              refine n_iload C dX6_trouble_107 5 rfl ?_
              refine n_iconst C dX6_trouble_109 ?_
              refine n_isub C dX6_trouble_110 ?_
              refine n_aload_n C dX6_trouble_111 0 rfl rfl ?_
              refine n_get (k9 := 5) C dX6_trouble_112 (by omega) k53 hX6_trouble_X6 rfl (by decide) kX6_trouble_16 rfl ?_
              refine n_iload_n C dX6_trouble_115 2 rfl rfl ?_
              refine n_iald (j := k) C dX6_trouble_116 (by omega) m2.1 (by omega) (by omega) (by omega) ?_
              refine n_topI (y := (iI 1)) (hk9) ?_
              refine n_iadd C dX6_trouble_117 ?_
              refine n_icmp_gt C dX6_trouble_118 (by decide) (by omega) (by omega) (by omega) (by omega) (tgt := 132) (fun c6 => ?_) (fun c6 => ?_)
              · refine n_iconst C dX6_trouble_132 ?_
                have hcc : chk (R9 j) tk (fk k, fp k, fs k) = 2 := by rw [hcv, if_pos (by omega)]
                have htr : trb (R9 j) (tk, acc) (fk k, fp k, fs k) = 2 := by rw [trb_chk (a := (tk, acc)) (by show chk (R9 j) tk (fk k, fp k, fs k) ≠ 0; rw [hcc]; decide)]; exact hcc
                exact n_iret C hr dX6_trouble_133 (⟨by rw [htr]; rfl, rfl⟩)
              · refine n_aload_n C dX6_trouble_121 0 rfl rfl ?_
                refine n_get (k9 := 6) C dX6_trouble_122 (by omega) k53 hX6_trouble_X6 rfl (by decide) kX6_trouble_19 rfl ?_
                refine n_iload_n C dX6_trouble_125 2 rfl rfl ?_
                refine n_iald (j := k) C dX6_trouble_126 (by omega) m2.2.1 (by omega) (by omega) (by omega) ?_
                refine n_topI (y := (iI ((fp k).toInt))) ((iI_self (fp k)).symm) ?_
                refine n_iload C dX6_trouble_127 6 rfl ?_
                refine n_icmp_ge C dX6_trouble_129 (by decide) (by omega) (by omega) (by omega) (by omega) (tgt := 134) (fun c7 => ?_) (fun c7 => ?_)
                · refine n_aload_n C dX6_trouble_134 0 rfl rfl ?_
                  refine n_get (k9 := 5) C dX6_trouble_135 (by omega) k53 hX6_trouble_X6 rfl (by decide) kX6_trouble_16 rfl ?_
                  refine n_iload_n C dX6_trouble_138 2 rfl rfl ?_
                  refine n_iald (j := k) C dX6_trouble_139 (by omega) m2.1 (by omega) (by omega) (by omega) ?_
                  refine n_topI (y := (iI 1)) (hk9) ?_
                  refine n_if_ne C dX6_trouble_140 (by decide) (by omega) (by omega) (tgt := 170) (fun _ => ?_) (fun c9 => absurd c9 (by omega))
                  have hcc : chk (R9 j) tk (fk k, fp k, fs k) = 0 := by rw [hcv, if_neg (by omega)]
                  have hpn : plN (fk k, fp k, fs k) = (fp k).toInt.toNat := rfl
                  have hin : insN (fk k, fp k, fs k) = 1 := insN_1 hk9
                  refine n_iload C dX6_trouble_170 4 rfl ?_
                  refine n_aload_n C dX6_trouble_172 0 rfl rfl ?_
                  refine n_get (k9 := 6) C dX6_trouble_173 (by omega) k53 hX6_trouble_X6 rfl (by decide) kX6_trouble_19 rfl ?_
                  refine n_iload_n C dX6_trouble_176 2 rfl rfl ?_
                  refine n_iald (j := k) C dX6_trouble_177 (by omega) m2.2.1 (by omega) (by omega) (by omega) ?_
                  refine n_topI (y := (iI ((fp k).toInt))) ((iI_self (fp k)).symm) ?_
                  refine n_iadd C dX6_trouble_178 ?_
                  refine n_iload_n C dX6_trouble_179 3 rfl rfl ?_
                  refine n_isub C dX6_trouble_180 ?_
                  refine n_istore (lv' := [(0, .ref (ad 53)), (1, .int (iI (j : Int))), (2, .int (iI (k : Int))), (3, .int (iI (tk : Int))), (4, .int (iI (acc.length : Int))), (5, .int (iI ((R9 j).length : Int))), (6, .int (iI (tk : Int))), (7, .int (iI (((acc.length : Int) + ((fp k).toInt)) - (tk : Int))))]) C dX6_trouble_181 (by decide) rfl ?_
                  refine n_iload C dX6_trouble_183 7 rfl ?_
                  refine n_aload_n C dX6_trouble_185 0 rfl rfl ?_
                  refine n_get (k9 := 5) C dX6_trouble_186 (by omega) k53 hX6_trouble_X6 rfl (by decide) kX6_trouble_16 rfl ?_
                  refine n_iload_n C dX6_trouble_189 2 rfl rfl ?_
                  refine n_iald (j := k) C dX6_trouble_190 (by omega) m2.1 (by omega) (by omega) (by omega) ?_
                  refine n_topI (y := (iI 1)) (hk9) ?_
                  refine n_iadd C dX6_trouble_191 ?_
                  refine n_bipush C dX6_trouble_192 (by decide) ?_
                  refine n_icmp_le C dX6_trouble_194 (by decide) (by omega) (by omega) (by omega) (by omega) (tgt := 201) (fun c9 => ?_) (fun c9 => ?_)
                  · refine n_iconst C dX6_trouble_201 ?_
                    have htr : trb (R9 j) (tk, acc) (fk k, fp k, fs k) = 0 := trb_4 (a := (tk, acc)) hcc (by rw [hin, hpn]; exact if_neg (by show ¬ 60 < acc.length + ((fp k).toInt.toNat - tk) + 1; omega))
                    exact n_iret C hr dX6_trouble_202 (⟨by rw [htr]; rfl, rfl⟩)
                  · refine n_iconst C dX6_trouble_197 ?_
                    refine n_goto (tgt := 202) C dX6_trouble_198 (by decide) ?_
                    have htr : trb (R9 j) (tk, acc) (fk k, fp k, fs k) = 4 := trb_4 (a := (tk, acc)) hcc (by rw [hin, hpn]; exact if_pos (by show 60 < acc.length + ((fp k).toInt.toNat - tk) + 1; omega))
                    exact n_iret C hr dX6_trouble_202 (⟨by rw [htr]; rfl, rfl⟩)
                · refine n_iconst C dX6_trouble_132 ?_
                  have hcc : chk (R9 j) tk (fk k, fp k, fs k) = 2 := by rw [hcv, if_pos (by omega)]
                  have htr : trb (R9 j) (tk, acc) (fk k, fp k, fs k) = 2 := by rw [trb_chk (a := (tk, acc)) (by show chk (R9 j) tk (fk k, fp k, fs k) ≠ 0; rw [hcc]; decide)]; exact hcc
                  exact n_iret C hr dX6_trouble_133 (⟨by rw [htr]; rfl, rfl⟩)
          · refine n_iconst C dX6_trouble_90 ?_
            have hcc : chk (R9 j) tk (fk k, fp k, fs k) = 1 := chk_a (Or.inr (decide_eq_false (by omega)))
            have htr : trb (R9 j) (tk, acc) (fk k, fp k, fs k) = 1 := by rw [trb_chk (a := (tk, acc)) (by show chk (R9 j) tk (fk k, fp k, fs k) ≠ 0; rw [hcc]; decide)]; exact hcc
            exact n_iret C hr dX6_trouble_91 (⟨by rw [htr]; rfl, rfl⟩)
      · refine n_aload_n C dX6_trouble_50 0 rfl rfl ?_
        refine n_get (k9 := 5) C dX6_trouble_51 (by omega) k53 hX6_trouble_X6 rfl (by decide) kX6_trouble_16 rfl ?_
        refine n_iload_n C dX6_trouble_54 2 rfl rfl ?_
        refine n_iald (j := k) C dX6_trouble_55 (by omega) m2.1 (by omega) (by omega) (by omega) ?_
        refine n_topI (y := (iI ((fk k).toInt))) ((iI_self (fk k)).symm) ?_
        refine n_if_lt C dX6_trouble_56 (by decide) (by omega) (by omega) (tgt := 90) (fun c3 => ?_) (fun c3 => ?_)
        · refine n_iconst C dX6_trouble_90 ?_
          have hcc : chk (R9 j) tk (fk k, fp k, fs k) = 1 := chk_a (Or.inl ⟨hk9, hk8⟩)
          have htr : trb (R9 j) (tk, acc) (fk k, fp k, fs k) = 1 := by rw [trb_chk (a := (tk, acc)) (by show chk (R9 j) tk (fk k, fp k, fs k) ≠ 0; rw [hcc]; decide)]; exact hcc
          exact n_iret C hr dX6_trouble_91 (⟨by rw [htr]; rfl, rfl⟩)
        · refine n_aload_n C dX6_trouble_59 0 rfl rfl ?_
          refine n_get (k9 := 5) C dX6_trouble_60 (by omega) k53 hX6_trouble_X6 rfl (by decide) kX6_trouble_16 rfl ?_
          refine n_iload_n C dX6_trouble_63 2 rfl rfl ?_
          refine n_iald (j := k) C dX6_trouble_64 (by omega) m2.1 (by omega) (by omega) (by omega) ?_
          refine n_topI (y := (iI ((fk k).toInt))) ((iI_self (fk k)).symm) ?_
          refine n_iconst C dX6_trouble_65 ?_
          refine n_icmp_gt C dX6_trouble_66 (by decide) (by omega) (by omega) (by omega) (by omega) (tgt := 90) (fun _ => ?_) (fun c9 => absurd c9 (by omega))
          refine n_iconst C dX6_trouble_90 ?_
          have hcc : chk (R9 j) tk (fk k, fp k, fs k) = 1 := chk_a (Or.inl ⟨hk9, hk8⟩)
          have htr : trb (R9 j) (tk, acc) (fk k, fp k, fs k) = 1 := by rw [trb_chk (a := (tk, acc)) (by show chk (R9 j) tk (fk k, fp k, fs k) ≠ 0; rw [hcc]; decide)]; exact hcc
          exact n_iret C hr dX6_trouble_91 (⟨by rw [htr]; rfl, rfl⟩)
    · rw [if_pos c2] at htk9
      refine n_aload_n C dX6_trouble_27 0 rfl rfl ?_
      refine n_get (k9 := 6) C dX6_trouble_28 (by omega) k53 hX6_trouble_X6 rfl (by decide) kX6_trouble_19 rfl ?_
      refine n_iload_n C dX6_trouble_31 2 rfl rfl ?_
      refine n_iconst C dX6_trouble_32 ?_
      refine n_isub C dX6_trouble_33 ?_
      refine n_iald (j := k - 1) C dX6_trouble_34 (by omega) m2.2.1 (by omega) (by omega) (by omega) ?_
      refine n_topI (y := (iI (q9 : Int))) (hq9) ?_
      refine n_iconst C dX6_trouble_35 ?_
      refine n_iadd C dX6_trouble_36 ?_
      refine n_goto (tgt := 48) C dX6_trouble_37 (by decide) ?_
      refine n_istore (lv' := [(0, .ref (ad 53)), (1, .int (iI (j : Int))), (2, .int (iI (k : Int))), (3, .int (iI (tk : Int))), (4, .int (iI (acc.length : Int))), (5, .int (iI ((R9 j).length : Int))), (6, .int (iI ((q9 : Int) + 1)))]) C dX6_trouble_48 (by decide) rfl ?_
      refine n_lv (lv2 := [(0, .ref (ad 53)), (1, .int (iI (j : Int))), (2, .int (iI (k : Int))), (3, .int (iI (tk : Int))), (4, .int (iI (acc.length : Int))), (5, .int (iI ((R9 j).length : Int))), (6, .int (iI (tk : Int)))]) (by rw [htk9]; simp) ?_
      rcases kind3 (fk k) with hk9 | hk9 | ⟨hk9, hk8, hk7⟩
      · refine n_aload_n C dX6_trouble_50 0 rfl rfl ?_
        refine n_get (k9 := 5) C dX6_trouble_51 (by omega) k53 hX6_trouble_X6 rfl (by decide) kX6_trouble_16 rfl ?_
        refine n_iload_n C dX6_trouble_54 2 rfl rfl ?_
        refine n_iald (j := k) C dX6_trouble_55 (by omega) m2.1 (by omega) (by omega) (by omega) ?_
        refine n_topI (y := (iI 0)) (hk9) ?_
        refine n_if_lt C dX6_trouble_56 (by decide) (by omega) (by omega) (tgt := 90) (fun c9 => absurd c9 (by omega)) (fun _ => ?_)
        refine n_aload_n C dX6_trouble_59 0 rfl rfl ?_
        refine n_get (k9 := 5) C dX6_trouble_60 (by omega) k53 hX6_trouble_X6 rfl (by decide) kX6_trouble_16 rfl ?_
        refine n_iload_n C dX6_trouble_63 2 rfl rfl ?_
        refine n_iald (j := k) C dX6_trouble_64 (by omega) m2.1 (by omega) (by omega) (by omega) ?_
        refine n_topI (y := (iI 0)) (hk9) ?_
        refine n_iconst C dX6_trouble_65 ?_
        refine n_icmp_gt C dX6_trouble_66 (by decide) (by omega) (by omega) (by omega) (by omega) (tgt := 90) (fun c9 => absurd c9 (by omega)) (fun _ => ?_)
        refine n_aload_n C dX6_trouble_69 0 rfl rfl ?_
        refine n_get (k9 := 7) C dX6_trouble_70 (by omega) k53 hX6_trouble_X6 rfl (by decide) kX6_trouble_22 rfl ?_
        refine n_iload_n C dX6_trouble_73 2 rfl rfl ?_
        refine n_iald (j := k) C dX6_trouble_74 (by omega) m2.2.2.1 (by omega) (by omega) (by omega) ?_
        refine n_topI (y := (iI ((fs k).toInt))) ((iI_self (fs k)).symm) ?_
        refine n_if_lt C dX6_trouble_75 (by decide) (by omega) (by omega) (tgt := 90) (fun c3 => ?_) (fun c3 => ?_)
        · refine n_iconst C dX6_trouble_90 ?_
          have hcc : chk (R9 j) tk (fk k, fp k, fs k) = 1 := chk_a (Or.inr (decide_eq_false (by omega)))
          have htr : trb (R9 j) (tk, acc) (fk k, fp k, fs k) = 1 := by rw [trb_chk (a := (tk, acc)) (by show chk (R9 j) tk (fk k, fp k, fs k) ≠ 0; rw [hcc]; decide)]; exact hcc
          exact n_iret C hr dX6_trouble_91 (⟨by rw [htr]; rfl, rfl⟩)
        · refine n_aload_n C dX6_trouble_78 0 rfl rfl ?_
          refine n_get (k9 := 7) C dX6_trouble_79 (by omega) k53 hX6_trouble_X6 rfl (by decide) kX6_trouble_22 rfl ?_
          refine n_iload_n C dX6_trouble_82 2 rfl rfl ?_
          refine n_iald (j := k) C dX6_trouble_83 (by omega) m2.2.2.1 (by omega) (by omega) (by omega) ?_
          refine n_topI (y := (iI ((fs k).toInt))) ((iI_self (fs k)).symm) ?_
          refine n_sipush C dX6_trouble_84 (by decide) ?_
          refine n_icmp_le C dX6_trouble_87 (by decide) (by omega) (by omega) (by omega) (by omega) (tgt := 92) (fun c4 => ?_) (fun c4 => ?_)
          · have hcv : chk (R9 j) tk (fk k, fp k, fs k) = if (fp k).toInt < (tk : Int) ∨ ((R9 j).length : Int) - 1 < (fp k).toInt then 2 else if (R9 j)[(fp k).toInt.toNat]? ≠ some (fs k) then 3 else 0 := by rw [hk9]; exact chk_k0 (decide_eq_true (by omega))
            refine n_aload_n C dX6_trouble_92 0 rfl rfl ?_
            refine n_get (k9 := 6) C dX6_trouble_93 (by omega) k53 hX6_trouble_X6 rfl (by decide) kX6_trouble_19 rfl ?_
            refine n_iload_n C dX6_trouble_96 2 rfl rfl ?_
            refine n_iald (j := k) C dX6_trouble_97 (by omega) m2.2.1 (by omega) (by omega) (by omega) ?_
            refine n_topI (y := (iI ((fp k).toInt))) ((iI_self (fp k)).symm) ?_
            refine n_if_lt C dX6_trouble_98 (by decide) (by omega) (by omega) (tgt := 132) (fun c5 => ?_) (fun c5 => ?_)
            · refine n_iconst C dX6_trouble_132 ?_
              have hcc : chk (R9 j) tk (fk k, fp k, fs k) = 2 := by rw [hcv, if_pos (by omega)]
              have htr : trb (R9 j) (tk, acc) (fk k, fp k, fs k) = 2 := by rw [trb_chk (a := (tk, acc)) (by show chk (R9 j) tk (fk k, fp k, fs k) ≠ 0; rw [hcc]; decide)]; exact hcc
              exact n_iret C hr dX6_trouble_133 (⟨by rw [htr]; rfl, rfl⟩)
            · refine n_aload_n C dX6_trouble_101 0 rfl rfl ?_
              refine n_get (k9 := 6) C dX6_trouble_102 (by omega) k53 hX6_trouble_X6 rfl (by decide) kX6_trouble_19 rfl ?_
              refine n_iload_n C dX6_trouble_105 2 rfl rfl ?_
              refine n_iald (j := k) C dX6_trouble_106 (by omega) m2.2.1 (by omega) (by omega) (by omega) ?_
              refine n_topI (y := (iI ((fp k).toInt))) ((iI_self (fp k)).symm) ?_
              refine n_iload C dX6_trouble_107 5 rfl ?_
              refine n_iconst C dX6_trouble_109 ?_
              refine n_isub C dX6_trouble_110 ?_
              refine n_aload_n C dX6_trouble_111 0 rfl rfl ?_
              refine n_get (k9 := 5) C dX6_trouble_112 (by omega) k53 hX6_trouble_X6 rfl (by decide) kX6_trouble_16 rfl ?_
              refine n_iload_n C dX6_trouble_115 2 rfl rfl ?_
              refine n_iald (j := k) C dX6_trouble_116 (by omega) m2.1 (by omega) (by omega) (by omega) ?_
              refine n_topI (y := (iI 0)) (hk9) ?_
              refine n_iadd C dX6_trouble_117 ?_
              refine n_icmp_gt C dX6_trouble_118 (by decide) (by omega) (by omega) (by omega) (by omega) (tgt := 132) (fun c6 => ?_) (fun c6 => ?_)
              · refine n_iconst C dX6_trouble_132 ?_
                have hcc : chk (R9 j) tk (fk k, fp k, fs k) = 2 := by rw [hcv, if_pos (by omega)]
                have htr : trb (R9 j) (tk, acc) (fk k, fp k, fs k) = 2 := by rw [trb_chk (a := (tk, acc)) (by show chk (R9 j) tk (fk k, fp k, fs k) ≠ 0; rw [hcc]; decide)]; exact hcc
                exact n_iret C hr dX6_trouble_133 (⟨by rw [htr]; rfl, rfl⟩)
              · refine n_aload_n C dX6_trouble_121 0 rfl rfl ?_
                refine n_get (k9 := 6) C dX6_trouble_122 (by omega) k53 hX6_trouble_X6 rfl (by decide) kX6_trouble_19 rfl ?_
                refine n_iload_n C dX6_trouble_125 2 rfl rfl ?_
                refine n_iald (j := k) C dX6_trouble_126 (by omega) m2.2.1 (by omega) (by omega) (by omega) ?_
                refine n_topI (y := (iI ((fp k).toInt))) ((iI_self (fp k)).symm) ?_
                refine n_iload C dX6_trouble_127 6 rfl ?_
                refine n_icmp_ge C dX6_trouble_129 (by decide) (by omega) (by omega) (by omega) (by omega) (tgt := 134) (fun c7 => ?_) (fun c7 => ?_)
                · refine n_aload_n C dX6_trouble_134 0 rfl rfl ?_
                  refine n_get (k9 := 5) C dX6_trouble_135 (by omega) k53 hX6_trouble_X6 rfl (by decide) kX6_trouble_16 rfl ?_
                  refine n_iload_n C dX6_trouble_138 2 rfl rfl ?_
                  refine n_iald (j := k) C dX6_trouble_139 (by omega) m2.1 (by omega) (by omega) (by omega) ?_
                  refine n_topI (y := (iI 0)) (hk9) ?_
                  refine n_if_ne C dX6_trouble_140 (by decide) (by omega) (by omega) (tgt := 170) (fun c9 => absurd c9 (by omega)) (fun _ => ?_)
                  obtain ⟨pn, hpn9⟩ : ∃ pn : Nat, (fp k).toInt = (pn : Int) := ⟨(fp k).toInt.toNat, by omega⟩
                  have hg9 := yj pn (by omega)
                  refine n_aload_n C dX6_trouble_143 0 rfl rfl ?_
                  refine n_get (k9 := 3) C dX6_trouble_144 (by omega) k53 hX6_trouble_X6 rfl (by decide) kX6_trouble_13 rfl ?_
                  refine n_bipush C dX6_trouble_147 (by decide) ?_
                  refine n_iload_n C dX6_trouble_149 1 rfl rfl ?_
                  refine n_imul C dX6_trouble_150 ?_
                  refine n_aload_n C dX6_trouble_151 0 rfl rfl ?_
                  refine n_get (k9 := 6) C dX6_trouble_152 (by omega) k53 hX6_trouble_X6 rfl (by decide) kX6_trouble_19 rfl ?_
                  refine n_iload_n C dX6_trouble_155 2 rfl rfl ?_
                  refine n_iald (j := k) C dX6_trouble_156 (by omega) m2.2.1 (by omega) (by omega) (by omega) ?_
                  refine n_topI (y := (iI (pn : Int))) (by rw [← hpn9, iI_self]) ?_
                  refine n_iadd C dX6_trouble_157 ?_
                  refine n_iald (j := 20 * j + pn) C dX6_trouble_158 (by omega) m1.2.1 (by omega) (by omega) (by omega) ?_
                  refine n_aload_n C dX6_trouble_159 0 rfl rfl ?_
                  refine n_get (k9 := 7) C dX6_trouble_160 (by omega) k53 hX6_trouble_X6 rfl (by decide) kX6_trouble_22 rfl ?_
                  refine n_iload_n C dX6_trouble_163 2 rfl rfl ?_
                  refine n_iald (j := k) C dX6_trouble_164 (by omega) m2.2.2.1 (by omega) (by omega) (by omega) ?_
                  refine n_icmp_eqR C dX6_trouble_165 (by decide) (tgt := 170) (fun c8 => ?_) (fun c8 => ?_)
                  · have hcc : chk (R9 j) tk (fk k, fp k, fs k) = 0 := by rw [hcv, if_neg (by omega), hpn9, Int.toNat_natCast, hg9, c8, if_neg (by simp)]
                    have hpn : plN (fk k, fp k, fs k) = (fp k).toInt.toNat := rfl
                    have hin : insN (fk k, fp k, fs k) = 0 := insN_0 hk9
                    refine n_iload C dX6_trouble_170 4 rfl ?_
                    refine n_aload_n C dX6_trouble_172 0 rfl rfl ?_
                    refine n_get (k9 := 6) C dX6_trouble_173 (by omega) k53 hX6_trouble_X6 rfl (by decide) kX6_trouble_19 rfl ?_
                    refine n_iload_n C dX6_trouble_176 2 rfl rfl ?_
                    refine n_iald (j := k) C dX6_trouble_177 (by omega) m2.2.1 (by omega) (by omega) (by omega) ?_
                    refine n_topI (y := (iI ((fp k).toInt))) ((iI_self (fp k)).symm) ?_
                    refine n_iadd C dX6_trouble_178 ?_
                    refine n_iload_n C dX6_trouble_179 3 rfl rfl ?_
                    refine n_isub C dX6_trouble_180 ?_
                    refine n_istore (lv' := [(0, .ref (ad 53)), (1, .int (iI (j : Int))), (2, .int (iI (k : Int))), (3, .int (iI (tk : Int))), (4, .int (iI (acc.length : Int))), (5, .int (iI ((R9 j).length : Int))), (6, .int (iI (tk : Int))), (7, .int (iI (((acc.length : Int) + ((fp k).toInt)) - (tk : Int))))]) C dX6_trouble_181 (by decide) rfl ?_
                    refine n_iload C dX6_trouble_183 7 rfl ?_
                    refine n_aload_n C dX6_trouble_185 0 rfl rfl ?_
                    refine n_get (k9 := 5) C dX6_trouble_186 (by omega) k53 hX6_trouble_X6 rfl (by decide) kX6_trouble_16 rfl ?_
                    refine n_iload_n C dX6_trouble_189 2 rfl rfl ?_
                    refine n_iald (j := k) C dX6_trouble_190 (by omega) m2.1 (by omega) (by omega) (by omega) ?_
                    refine n_topI (y := (iI 0)) (hk9) ?_
                    refine n_iadd C dX6_trouble_191 ?_
                    refine n_bipush C dX6_trouble_192 (by decide) ?_
                    refine n_icmp_le C dX6_trouble_194 (by decide) (by omega) (by omega) (by omega) (by omega) (tgt := 201) (fun c9 => ?_) (fun c9 => ?_)
                    · refine n_iconst C dX6_trouble_201 ?_
                      have htr : trb (R9 j) (tk, acc) (fk k, fp k, fs k) = 0 := trb_4 (a := (tk, acc)) hcc (by rw [hin, hpn]; exact if_neg (by show ¬ 60 < acc.length + ((fp k).toInt.toNat - tk) + 0; omega))
                      exact n_iret C hr dX6_trouble_202 (⟨by rw [htr]; rfl, rfl⟩)
                    · refine n_iconst C dX6_trouble_197 ?_
                      refine n_goto (tgt := 202) C dX6_trouble_198 (by decide) ?_
                      have htr : trb (R9 j) (tk, acc) (fk k, fp k, fs k) = 4 := trb_4 (a := (tk, acc)) hcc (by rw [hin, hpn]; exact if_pos (by show 60 < acc.length + ((fp k).toInt.toNat - tk) + 0; omega))
                      exact n_iret C hr dX6_trouble_202 (⟨by rw [htr]; rfl, rfl⟩)
                  · refine n_iconst C dX6_trouble_168 ?_
                    have hcc : chk (R9 j) tk (fk k, fp k, fs k) = 3 := by rw [hcv, if_neg (by omega), hpn9, Int.toNat_natCast, hg9, if_pos (fun q => c8 (Option.some.inj q))]
                    have htr : trb (R9 j) (tk, acc) (fk k, fp k, fs k) = 3 := by rw [trb_chk (a := (tk, acc)) (by show chk (R9 j) tk (fk k, fp k, fs k) ≠ 0; rw [hcc]; decide)]; exact hcc
                    exact n_iret C hr dX6_trouble_169 (⟨by rw [htr]; rfl, rfl⟩)
                · refine n_iconst C dX6_trouble_132 ?_
                  have hcc : chk (R9 j) tk (fk k, fp k, fs k) = 2 := by rw [hcv, if_pos (by omega)]
                  have htr : trb (R9 j) (tk, acc) (fk k, fp k, fs k) = 2 := by rw [trb_chk (a := (tk, acc)) (by show chk (R9 j) tk (fk k, fp k, fs k) ≠ 0; rw [hcc]; decide)]; exact hcc
                  exact n_iret C hr dX6_trouble_133 (⟨by rw [htr]; rfl, rfl⟩)
          · refine n_iconst C dX6_trouble_90 ?_
            have hcc : chk (R9 j) tk (fk k, fp k, fs k) = 1 := chk_a (Or.inr (decide_eq_false (by omega)))
            have htr : trb (R9 j) (tk, acc) (fk k, fp k, fs k) = 1 := by rw [trb_chk (a := (tk, acc)) (by show chk (R9 j) tk (fk k, fp k, fs k) ≠ 0; rw [hcc]; decide)]; exact hcc
            exact n_iret C hr dX6_trouble_91 (⟨by rw [htr]; rfl, rfl⟩)
      · refine n_aload_n C dX6_trouble_50 0 rfl rfl ?_
        refine n_get (k9 := 5) C dX6_trouble_51 (by omega) k53 hX6_trouble_X6 rfl (by decide) kX6_trouble_16 rfl ?_
        refine n_iload_n C dX6_trouble_54 2 rfl rfl ?_
        refine n_iald (j := k) C dX6_trouble_55 (by omega) m2.1 (by omega) (by omega) (by omega) ?_
        refine n_topI (y := (iI 1)) (hk9) ?_
        refine n_if_lt C dX6_trouble_56 (by decide) (by omega) (by omega) (tgt := 90) (fun c9 => absurd c9 (by omega)) (fun _ => ?_)
        refine n_aload_n C dX6_trouble_59 0 rfl rfl ?_
        refine n_get (k9 := 5) C dX6_trouble_60 (by omega) k53 hX6_trouble_X6 rfl (by decide) kX6_trouble_16 rfl ?_
        refine n_iload_n C dX6_trouble_63 2 rfl rfl ?_
        refine n_iald (j := k) C dX6_trouble_64 (by omega) m2.1 (by omega) (by omega) (by omega) ?_
        refine n_topI (y := (iI 1)) (hk9) ?_
        refine n_iconst C dX6_trouble_65 ?_
        refine n_icmp_gt C dX6_trouble_66 (by decide) (by omega) (by omega) (by omega) (by omega) (tgt := 90) (fun c9 => absurd c9 (by omega)) (fun _ => ?_)
        refine n_aload_n C dX6_trouble_69 0 rfl rfl ?_
        refine n_get (k9 := 7) C dX6_trouble_70 (by omega) k53 hX6_trouble_X6 rfl (by decide) kX6_trouble_22 rfl ?_
        refine n_iload_n C dX6_trouble_73 2 rfl rfl ?_
        refine n_iald (j := k) C dX6_trouble_74 (by omega) m2.2.2.1 (by omega) (by omega) (by omega) ?_
        refine n_topI (y := (iI ((fs k).toInt))) ((iI_self (fs k)).symm) ?_
        refine n_if_lt C dX6_trouble_75 (by decide) (by omega) (by omega) (tgt := 90) (fun c3 => ?_) (fun c3 => ?_)
        · refine n_iconst C dX6_trouble_90 ?_
          have hcc : chk (R9 j) tk (fk k, fp k, fs k) = 1 := chk_a (Or.inr (decide_eq_false (by omega)))
          have htr : trb (R9 j) (tk, acc) (fk k, fp k, fs k) = 1 := by rw [trb_chk (a := (tk, acc)) (by show chk (R9 j) tk (fk k, fp k, fs k) ≠ 0; rw [hcc]; decide)]; exact hcc
          exact n_iret C hr dX6_trouble_91 (⟨by rw [htr]; rfl, rfl⟩)
        · refine n_aload_n C dX6_trouble_78 0 rfl rfl ?_
          refine n_get (k9 := 7) C dX6_trouble_79 (by omega) k53 hX6_trouble_X6 rfl (by decide) kX6_trouble_22 rfl ?_
          refine n_iload_n C dX6_trouble_82 2 rfl rfl ?_
          refine n_iald (j := k) C dX6_trouble_83 (by omega) m2.2.2.1 (by omega) (by omega) (by omega) ?_
          refine n_topI (y := (iI ((fs k).toInt))) ((iI_self (fs k)).symm) ?_
          refine n_sipush C dX6_trouble_84 (by decide) ?_
          refine n_icmp_le C dX6_trouble_87 (by decide) (by omega) (by omega) (by omega) (by omega) (tgt := 92) (fun c4 => ?_) (fun c4 => ?_)
          · have hcv : chk (R9 j) tk (fk k, fp k, fs k) = if (fp k).toInt < (tk : Int) ∨ ((R9 j).length : Int) < (fp k).toInt then 2 else 0 := by rw [hk9]; exact chk_k1 (decide_eq_true (by omega))
            refine n_aload_n C dX6_trouble_92 0 rfl rfl ?_
            refine n_get (k9 := 6) C dX6_trouble_93 (by omega) k53 hX6_trouble_X6 rfl (by decide) kX6_trouble_19 rfl ?_
            refine n_iload_n C dX6_trouble_96 2 rfl rfl ?_
            refine n_iald (j := k) C dX6_trouble_97 (by omega) m2.2.1 (by omega) (by omega) (by omega) ?_
            refine n_topI (y := (iI ((fp k).toInt))) ((iI_self (fp k)).symm) ?_
            refine n_if_lt C dX6_trouble_98 (by decide) (by omega) (by omega) (tgt := 132) (fun c5 => ?_) (fun c5 => ?_)
            · refine n_iconst C dX6_trouble_132 ?_
              have hcc : chk (R9 j) tk (fk k, fp k, fs k) = 2 := by rw [hcv, if_pos (by omega)]
              have htr : trb (R9 j) (tk, acc) (fk k, fp k, fs k) = 2 := by rw [trb_chk (a := (tk, acc)) (by show chk (R9 j) tk (fk k, fp k, fs k) ≠ 0; rw [hcc]; decide)]; exact hcc
              exact n_iret C hr dX6_trouble_133 (⟨by rw [htr]; rfl, rfl⟩)
            · refine n_aload_n C dX6_trouble_101 0 rfl rfl ?_
              refine n_get (k9 := 6) C dX6_trouble_102 (by omega) k53 hX6_trouble_X6 rfl (by decide) kX6_trouble_19 rfl ?_
              refine n_iload_n C dX6_trouble_105 2 rfl rfl ?_
              refine n_iald (j := k) C dX6_trouble_106 (by omega) m2.2.1 (by omega) (by omega) (by omega) ?_
              refine n_topI (y := (iI ((fp k).toInt))) ((iI_self (fp k)).symm) ?_
              refine n_iload C dX6_trouble_107 5 rfl ?_
              refine n_iconst C dX6_trouble_109 ?_
              refine n_isub C dX6_trouble_110 ?_
              refine n_aload_n C dX6_trouble_111 0 rfl rfl ?_
              refine n_get (k9 := 5) C dX6_trouble_112 (by omega) k53 hX6_trouble_X6 rfl (by decide) kX6_trouble_16 rfl ?_
              refine n_iload_n C dX6_trouble_115 2 rfl rfl ?_
              refine n_iald (j := k) C dX6_trouble_116 (by omega) m2.1 (by omega) (by omega) (by omega) ?_
              refine n_topI (y := (iI 1)) (hk9) ?_
              refine n_iadd C dX6_trouble_117 ?_
              refine n_icmp_gt C dX6_trouble_118 (by decide) (by omega) (by omega) (by omega) (by omega) (tgt := 132) (fun c6 => ?_) (fun c6 => ?_)
              · refine n_iconst C dX6_trouble_132 ?_
                have hcc : chk (R9 j) tk (fk k, fp k, fs k) = 2 := by rw [hcv, if_pos (by omega)]
                have htr : trb (R9 j) (tk, acc) (fk k, fp k, fs k) = 2 := by rw [trb_chk (a := (tk, acc)) (by show chk (R9 j) tk (fk k, fp k, fs k) ≠ 0; rw [hcc]; decide)]; exact hcc
                exact n_iret C hr dX6_trouble_133 (⟨by rw [htr]; rfl, rfl⟩)
              · refine n_aload_n C dX6_trouble_121 0 rfl rfl ?_
                refine n_get (k9 := 6) C dX6_trouble_122 (by omega) k53 hX6_trouble_X6 rfl (by decide) kX6_trouble_19 rfl ?_
                refine n_iload_n C dX6_trouble_125 2 rfl rfl ?_
                refine n_iald (j := k) C dX6_trouble_126 (by omega) m2.2.1 (by omega) (by omega) (by omega) ?_
                refine n_topI (y := (iI ((fp k).toInt))) ((iI_self (fp k)).symm) ?_
                refine n_iload C dX6_trouble_127 6 rfl ?_
                refine n_icmp_ge C dX6_trouble_129 (by decide) (by omega) (by omega) (by omega) (by omega) (tgt := 134) (fun c7 => ?_) (fun c7 => ?_)
                · refine n_aload_n C dX6_trouble_134 0 rfl rfl ?_
                  refine n_get (k9 := 5) C dX6_trouble_135 (by omega) k53 hX6_trouble_X6 rfl (by decide) kX6_trouble_16 rfl ?_
                  refine n_iload_n C dX6_trouble_138 2 rfl rfl ?_
                  refine n_iald (j := k) C dX6_trouble_139 (by omega) m2.1 (by omega) (by omega) (by omega) ?_
                  refine n_topI (y := (iI 1)) (hk9) ?_
                  refine n_if_ne C dX6_trouble_140 (by decide) (by omega) (by omega) (tgt := 170) (fun _ => ?_) (fun c9 => absurd c9 (by omega))
                  have hcc : chk (R9 j) tk (fk k, fp k, fs k) = 0 := by rw [hcv, if_neg (by omega)]
                  have hpn : plN (fk k, fp k, fs k) = (fp k).toInt.toNat := rfl
                  have hin : insN (fk k, fp k, fs k) = 1 := insN_1 hk9
                  refine n_iload C dX6_trouble_170 4 rfl ?_
                  refine n_aload_n C dX6_trouble_172 0 rfl rfl ?_
                  refine n_get (k9 := 6) C dX6_trouble_173 (by omega) k53 hX6_trouble_X6 rfl (by decide) kX6_trouble_19 rfl ?_
                  refine n_iload_n C dX6_trouble_176 2 rfl rfl ?_
                  refine n_iald (j := k) C dX6_trouble_177 (by omega) m2.2.1 (by omega) (by omega) (by omega) ?_
                  refine n_topI (y := (iI ((fp k).toInt))) ((iI_self (fp k)).symm) ?_
                  refine n_iadd C dX6_trouble_178 ?_
                  refine n_iload_n C dX6_trouble_179 3 rfl rfl ?_
                  refine n_isub C dX6_trouble_180 ?_
                  refine n_istore (lv' := [(0, .ref (ad 53)), (1, .int (iI (j : Int))), (2, .int (iI (k : Int))), (3, .int (iI (tk : Int))), (4, .int (iI (acc.length : Int))), (5, .int (iI ((R9 j).length : Int))), (6, .int (iI (tk : Int))), (7, .int (iI (((acc.length : Int) + ((fp k).toInt)) - (tk : Int))))]) C dX6_trouble_181 (by decide) rfl ?_
                  refine n_iload C dX6_trouble_183 7 rfl ?_
                  refine n_aload_n C dX6_trouble_185 0 rfl rfl ?_
                  refine n_get (k9 := 5) C dX6_trouble_186 (by omega) k53 hX6_trouble_X6 rfl (by decide) kX6_trouble_16 rfl ?_
                  refine n_iload_n C dX6_trouble_189 2 rfl rfl ?_
                  refine n_iald (j := k) C dX6_trouble_190 (by omega) m2.1 (by omega) (by omega) (by omega) ?_
                  refine n_topI (y := (iI 1)) (hk9) ?_
                  refine n_iadd C dX6_trouble_191 ?_
                  refine n_bipush C dX6_trouble_192 (by decide) ?_
                  refine n_icmp_le C dX6_trouble_194 (by decide) (by omega) (by omega) (by omega) (by omega) (tgt := 201) (fun c9 => ?_) (fun c9 => ?_)
                  · refine n_iconst C dX6_trouble_201 ?_
                    have htr : trb (R9 j) (tk, acc) (fk k, fp k, fs k) = 0 := trb_4 (a := (tk, acc)) hcc (by rw [hin, hpn]; exact if_neg (by show ¬ 60 < acc.length + ((fp k).toInt.toNat - tk) + 1; omega))
                    exact n_iret C hr dX6_trouble_202 (⟨by rw [htr]; rfl, rfl⟩)
                  · refine n_iconst C dX6_trouble_197 ?_
                    refine n_goto (tgt := 202) C dX6_trouble_198 (by decide) ?_
                    have htr : trb (R9 j) (tk, acc) (fk k, fp k, fs k) = 4 := trb_4 (a := (tk, acc)) hcc (by rw [hin, hpn]; exact if_pos (by show 60 < acc.length + ((fp k).toInt.toNat - tk) + 1; omega))
                    exact n_iret C hr dX6_trouble_202 (⟨by rw [htr]; rfl, rfl⟩)
                · refine n_iconst C dX6_trouble_132 ?_
                  have hcc : chk (R9 j) tk (fk k, fp k, fs k) = 2 := by rw [hcv, if_pos (by omega)]
                  have htr : trb (R9 j) (tk, acc) (fk k, fp k, fs k) = 2 := by rw [trb_chk (a := (tk, acc)) (by show chk (R9 j) tk (fk k, fp k, fs k) ≠ 0; rw [hcc]; decide)]; exact hcc
                  exact n_iret C hr dX6_trouble_133 (⟨by rw [htr]; rfl, rfl⟩)
          · refine n_iconst C dX6_trouble_90 ?_
            have hcc : chk (R9 j) tk (fk k, fp k, fs k) = 1 := chk_a (Or.inr (decide_eq_false (by omega)))
            have htr : trb (R9 j) (tk, acc) (fk k, fp k, fs k) = 1 := by rw [trb_chk (a := (tk, acc)) (by show chk (R9 j) tk (fk k, fp k, fs k) ≠ 0; rw [hcc]; decide)]; exact hcc
            exact n_iret C hr dX6_trouble_91 (⟨by rw [htr]; rfl, rfl⟩)
      · refine n_aload_n C dX6_trouble_50 0 rfl rfl ?_
        refine n_get (k9 := 5) C dX6_trouble_51 (by omega) k53 hX6_trouble_X6 rfl (by decide) kX6_trouble_16 rfl ?_
        refine n_iload_n C dX6_trouble_54 2 rfl rfl ?_
        refine n_iald (j := k) C dX6_trouble_55 (by omega) m2.1 (by omega) (by omega) (by omega) ?_
        refine n_topI (y := (iI ((fk k).toInt))) ((iI_self (fk k)).symm) ?_
        refine n_if_lt C dX6_trouble_56 (by decide) (by omega) (by omega) (tgt := 90) (fun c3 => ?_) (fun c3 => ?_)
        · refine n_iconst C dX6_trouble_90 ?_
          have hcc : chk (R9 j) tk (fk k, fp k, fs k) = 1 := chk_a (Or.inl ⟨hk9, hk8⟩)
          have htr : trb (R9 j) (tk, acc) (fk k, fp k, fs k) = 1 := by rw [trb_chk (a := (tk, acc)) (by show chk (R9 j) tk (fk k, fp k, fs k) ≠ 0; rw [hcc]; decide)]; exact hcc
          exact n_iret C hr dX6_trouble_91 (⟨by rw [htr]; rfl, rfl⟩)
        · refine n_aload_n C dX6_trouble_59 0 rfl rfl ?_
          refine n_get (k9 := 5) C dX6_trouble_60 (by omega) k53 hX6_trouble_X6 rfl (by decide) kX6_trouble_16 rfl ?_
          refine n_iload_n C dX6_trouble_63 2 rfl rfl ?_
          refine n_iald (j := k) C dX6_trouble_64 (by omega) m2.1 (by omega) (by omega) (by omega) ?_
          refine n_topI (y := (iI ((fk k).toInt))) ((iI_self (fk k)).symm) ?_
          refine n_iconst C dX6_trouble_65 ?_
          refine n_icmp_gt C dX6_trouble_66 (by decide) (by omega) (by omega) (by omega) (by omega) (tgt := 90) (fun _ => ?_) (fun c9 => absurd c9 (by omega))
          refine n_iconst C dX6_trouble_90 ?_
          have hcc : chk (R9 j) tk (fk k, fp k, fs k) = 1 := chk_a (Or.inl ⟨hk9, hk8⟩)
          have htr : trb (R9 j) (tk, acc) (fk k, fp k, fs k) = 1 := by rw [trb_chk (a := (tk, acc)) (by show chk (R9 j) tk (fk k, fp k, fs k) ≠ 0; rw [hcc]; decide)]; exact hcc
          exact n_iret C hr dX6_trouble_91 (⟨by rw [htr]; rfl, rfl⟩)
  · have htk9 := htk0 (by omega)
    refine n_iconst C dX6_trouble_12 ?_
    refine n_goto (tgt := 48) C dX6_trouble_13 (by decide) ?_
    refine n_istore (lv' := [(0, .ref (ad 53)), (1, .int (iI (j : Int))), (2, .int (iI (k : Int))), (3, .int (iI (tk : Int))), (4, .int (iI (acc.length : Int))), (5, .int (iI ((R9 j).length : Int))), (6, .int (iI 0))]) C dX6_trouble_48 (by decide) rfl ?_
    refine n_lv (lv2 := [(0, .ref (ad 53)), (1, .int (iI (j : Int))), (2, .int (iI (k : Int))), (3, .int (iI (tk : Int))), (4, .int (iI (acc.length : Int))), (5, .int (iI ((R9 j).length : Int))), (6, .int (iI (tk : Int)))]) (by rw [htk9]; rfl) ?_
    rcases kind3 (fk k) with hk9 | hk9 | ⟨hk9, hk8, hk7⟩
    · refine n_aload_n C dX6_trouble_50 0 rfl rfl ?_
      refine n_get (k9 := 5) C dX6_trouble_51 (by omega) k53 hX6_trouble_X6 rfl (by decide) kX6_trouble_16 rfl ?_
      refine n_iload_n C dX6_trouble_54 2 rfl rfl ?_
      refine n_iald (j := k) C dX6_trouble_55 (by omega) m2.1 (by omega) (by omega) (by omega) ?_
      refine n_topI (y := (iI 0)) (hk9) ?_
      refine n_if_lt C dX6_trouble_56 (by decide) (by omega) (by omega) (tgt := 90) (fun c9 => absurd c9 (by omega)) (fun _ => ?_)
      refine n_aload_n C dX6_trouble_59 0 rfl rfl ?_
      refine n_get (k9 := 5) C dX6_trouble_60 (by omega) k53 hX6_trouble_X6 rfl (by decide) kX6_trouble_16 rfl ?_
      refine n_iload_n C dX6_trouble_63 2 rfl rfl ?_
      refine n_iald (j := k) C dX6_trouble_64 (by omega) m2.1 (by omega) (by omega) (by omega) ?_
      refine n_topI (y := (iI 0)) (hk9) ?_
      refine n_iconst C dX6_trouble_65 ?_
      refine n_icmp_gt C dX6_trouble_66 (by decide) (by omega) (by omega) (by omega) (by omega) (tgt := 90) (fun c9 => absurd c9 (by omega)) (fun _ => ?_)
      refine n_aload_n C dX6_trouble_69 0 rfl rfl ?_
      refine n_get (k9 := 7) C dX6_trouble_70 (by omega) k53 hX6_trouble_X6 rfl (by decide) kX6_trouble_22 rfl ?_
      refine n_iload_n C dX6_trouble_73 2 rfl rfl ?_
      refine n_iald (j := k) C dX6_trouble_74 (by omega) m2.2.2.1 (by omega) (by omega) (by omega) ?_
      refine n_topI (y := (iI ((fs k).toInt))) ((iI_self (fs k)).symm) ?_
      refine n_if_lt C dX6_trouble_75 (by decide) (by omega) (by omega) (tgt := 90) (fun c3 => ?_) (fun c3 => ?_)
      · refine n_iconst C dX6_trouble_90 ?_
        have hcc : chk (R9 j) tk (fk k, fp k, fs k) = 1 := chk_a (Or.inr (decide_eq_false (by omega)))
        have htr : trb (R9 j) (tk, acc) (fk k, fp k, fs k) = 1 := by rw [trb_chk (a := (tk, acc)) (by show chk (R9 j) tk (fk k, fp k, fs k) ≠ 0; rw [hcc]; decide)]; exact hcc
        exact n_iret C hr dX6_trouble_91 (⟨by rw [htr]; rfl, rfl⟩)
      · refine n_aload_n C dX6_trouble_78 0 rfl rfl ?_
        refine n_get (k9 := 7) C dX6_trouble_79 (by omega) k53 hX6_trouble_X6 rfl (by decide) kX6_trouble_22 rfl ?_
        refine n_iload_n C dX6_trouble_82 2 rfl rfl ?_
        refine n_iald (j := k) C dX6_trouble_83 (by omega) m2.2.2.1 (by omega) (by omega) (by omega) ?_
        refine n_topI (y := (iI ((fs k).toInt))) ((iI_self (fs k)).symm) ?_
        refine n_sipush C dX6_trouble_84 (by decide) ?_
        refine n_icmp_le C dX6_trouble_87 (by decide) (by omega) (by omega) (by omega) (by omega) (tgt := 92) (fun c4 => ?_) (fun c4 => ?_)
        · have hcv : chk (R9 j) tk (fk k, fp k, fs k) = if (fp k).toInt < (tk : Int) ∨ ((R9 j).length : Int) - 1 < (fp k).toInt then 2 else if (R9 j)[(fp k).toInt.toNat]? ≠ some (fs k) then 3 else 0 := by rw [hk9]; exact chk_k0 (decide_eq_true (by omega))
          refine n_aload_n C dX6_trouble_92 0 rfl rfl ?_
          refine n_get (k9 := 6) C dX6_trouble_93 (by omega) k53 hX6_trouble_X6 rfl (by decide) kX6_trouble_19 rfl ?_
          refine n_iload_n C dX6_trouble_96 2 rfl rfl ?_
          refine n_iald (j := k) C dX6_trouble_97 (by omega) m2.2.1 (by omega) (by omega) (by omega) ?_
          refine n_topI (y := (iI ((fp k).toInt))) ((iI_self (fp k)).symm) ?_
          refine n_if_lt C dX6_trouble_98 (by decide) (by omega) (by omega) (tgt := 132) (fun c5 => ?_) (fun c5 => ?_)
          · refine n_iconst C dX6_trouble_132 ?_
            have hcc : chk (R9 j) tk (fk k, fp k, fs k) = 2 := by rw [hcv, if_pos (by omega)]
            have htr : trb (R9 j) (tk, acc) (fk k, fp k, fs k) = 2 := by rw [trb_chk (a := (tk, acc)) (by show chk (R9 j) tk (fk k, fp k, fs k) ≠ 0; rw [hcc]; decide)]; exact hcc
            exact n_iret C hr dX6_trouble_133 (⟨by rw [htr]; rfl, rfl⟩)
          · refine n_aload_n C dX6_trouble_101 0 rfl rfl ?_
            refine n_get (k9 := 6) C dX6_trouble_102 (by omega) k53 hX6_trouble_X6 rfl (by decide) kX6_trouble_19 rfl ?_
            refine n_iload_n C dX6_trouble_105 2 rfl rfl ?_
            refine n_iald (j := k) C dX6_trouble_106 (by omega) m2.2.1 (by omega) (by omega) (by omega) ?_
            refine n_topI (y := (iI ((fp k).toInt))) ((iI_self (fp k)).symm) ?_
            refine n_iload C dX6_trouble_107 5 rfl ?_
            refine n_iconst C dX6_trouble_109 ?_
            refine n_isub C dX6_trouble_110 ?_
            refine n_aload_n C dX6_trouble_111 0 rfl rfl ?_
            refine n_get (k9 := 5) C dX6_trouble_112 (by omega) k53 hX6_trouble_X6 rfl (by decide) kX6_trouble_16 rfl ?_
            refine n_iload_n C dX6_trouble_115 2 rfl rfl ?_
            refine n_iald (j := k) C dX6_trouble_116 (by omega) m2.1 (by omega) (by omega) (by omega) ?_
            refine n_topI (y := (iI 0)) (hk9) ?_
            refine n_iadd C dX6_trouble_117 ?_
            refine n_icmp_gt C dX6_trouble_118 (by decide) (by omega) (by omega) (by omega) (by omega) (tgt := 132) (fun c6 => ?_) (fun c6 => ?_)
            · refine n_iconst C dX6_trouble_132 ?_
              have hcc : chk (R9 j) tk (fk k, fp k, fs k) = 2 := by rw [hcv, if_pos (by omega)]
              have htr : trb (R9 j) (tk, acc) (fk k, fp k, fs k) = 2 := by rw [trb_chk (a := (tk, acc)) (by show chk (R9 j) tk (fk k, fp k, fs k) ≠ 0; rw [hcc]; decide)]; exact hcc
              exact n_iret C hr dX6_trouble_133 (⟨by rw [htr]; rfl, rfl⟩)
            · refine n_aload_n C dX6_trouble_121 0 rfl rfl ?_
              refine n_get (k9 := 6) C dX6_trouble_122 (by omega) k53 hX6_trouble_X6 rfl (by decide) kX6_trouble_19 rfl ?_
              refine n_iload_n C dX6_trouble_125 2 rfl rfl ?_
              refine n_iald (j := k) C dX6_trouble_126 (by omega) m2.2.1 (by omega) (by omega) (by omega) ?_
              refine n_topI (y := (iI ((fp k).toInt))) ((iI_self (fp k)).symm) ?_
              refine n_iload C dX6_trouble_127 6 rfl ?_
              refine n_icmp_ge C dX6_trouble_129 (by decide) (by omega) (by omega) (by omega) (by omega) (tgt := 134) (fun c7 => ?_) (fun c7 => ?_)
              · refine n_aload_n C dX6_trouble_134 0 rfl rfl ?_
                refine n_get (k9 := 5) C dX6_trouble_135 (by omega) k53 hX6_trouble_X6 rfl (by decide) kX6_trouble_16 rfl ?_
                refine n_iload_n C dX6_trouble_138 2 rfl rfl ?_
                refine n_iald (j := k) C dX6_trouble_139 (by omega) m2.1 (by omega) (by omega) (by omega) ?_
                refine n_topI (y := (iI 0)) (hk9) ?_
                refine n_if_ne C dX6_trouble_140 (by decide) (by omega) (by omega) (tgt := 170) (fun c9 => absurd c9 (by omega)) (fun _ => ?_)
                obtain ⟨pn, hpn9⟩ : ∃ pn : Nat, (fp k).toInt = (pn : Int) := ⟨(fp k).toInt.toNat, by omega⟩
                have hg9 := yj pn (by omega)
                refine n_aload_n C dX6_trouble_143 0 rfl rfl ?_
                refine n_get (k9 := 3) C dX6_trouble_144 (by omega) k53 hX6_trouble_X6 rfl (by decide) kX6_trouble_13 rfl ?_
                refine n_bipush C dX6_trouble_147 (by decide) ?_
                refine n_iload_n C dX6_trouble_149 1 rfl rfl ?_
                refine n_imul C dX6_trouble_150 ?_
                refine n_aload_n C dX6_trouble_151 0 rfl rfl ?_
                refine n_get (k9 := 6) C dX6_trouble_152 (by omega) k53 hX6_trouble_X6 rfl (by decide) kX6_trouble_19 rfl ?_
                refine n_iload_n C dX6_trouble_155 2 rfl rfl ?_
                refine n_iald (j := k) C dX6_trouble_156 (by omega) m2.2.1 (by omega) (by omega) (by omega) ?_
                refine n_topI (y := (iI (pn : Int))) (by rw [← hpn9, iI_self]) ?_
                refine n_iadd C dX6_trouble_157 ?_
                refine n_iald (j := 20 * j + pn) C dX6_trouble_158 (by omega) m1.2.1 (by omega) (by omega) (by omega) ?_
                refine n_aload_n C dX6_trouble_159 0 rfl rfl ?_
                refine n_get (k9 := 7) C dX6_trouble_160 (by omega) k53 hX6_trouble_X6 rfl (by decide) kX6_trouble_22 rfl ?_
                refine n_iload_n C dX6_trouble_163 2 rfl rfl ?_
                refine n_iald (j := k) C dX6_trouble_164 (by omega) m2.2.2.1 (by omega) (by omega) (by omega) ?_
                refine n_icmp_eqR C dX6_trouble_165 (by decide) (tgt := 170) (fun c8 => ?_) (fun c8 => ?_)
                · have hcc : chk (R9 j) tk (fk k, fp k, fs k) = 0 := by rw [hcv, if_neg (by omega), hpn9, Int.toNat_natCast, hg9, c8, if_neg (by simp)]
                  have hpn : plN (fk k, fp k, fs k) = (fp k).toInt.toNat := rfl
                  have hin : insN (fk k, fp k, fs k) = 0 := insN_0 hk9
                  refine n_iload C dX6_trouble_170 4 rfl ?_
                  refine n_aload_n C dX6_trouble_172 0 rfl rfl ?_
                  refine n_get (k9 := 6) C dX6_trouble_173 (by omega) k53 hX6_trouble_X6 rfl (by decide) kX6_trouble_19 rfl ?_
                  refine n_iload_n C dX6_trouble_176 2 rfl rfl ?_
                  refine n_iald (j := k) C dX6_trouble_177 (by omega) m2.2.1 (by omega) (by omega) (by omega) ?_
                  refine n_topI (y := (iI ((fp k).toInt))) ((iI_self (fp k)).symm) ?_
                  refine n_iadd C dX6_trouble_178 ?_
                  refine n_iload_n C dX6_trouble_179 3 rfl rfl ?_
                  refine n_isub C dX6_trouble_180 ?_
                  refine n_istore (lv' := [(0, .ref (ad 53)), (1, .int (iI (j : Int))), (2, .int (iI (k : Int))), (3, .int (iI (tk : Int))), (4, .int (iI (acc.length : Int))), (5, .int (iI ((R9 j).length : Int))), (6, .int (iI (tk : Int))), (7, .int (iI (((acc.length : Int) + ((fp k).toInt)) - (tk : Int))))]) C dX6_trouble_181 (by decide) rfl ?_
                  refine n_iload C dX6_trouble_183 7 rfl ?_
                  refine n_aload_n C dX6_trouble_185 0 rfl rfl ?_
                  refine n_get (k9 := 5) C dX6_trouble_186 (by omega) k53 hX6_trouble_X6 rfl (by decide) kX6_trouble_16 rfl ?_
                  refine n_iload_n C dX6_trouble_189 2 rfl rfl ?_
                  refine n_iald (j := k) C dX6_trouble_190 (by omega) m2.1 (by omega) (by omega) (by omega) ?_
                  refine n_topI (y := (iI 0)) (hk9) ?_
                  refine n_iadd C dX6_trouble_191 ?_
                  refine n_bipush C dX6_trouble_192 (by decide) ?_
                  refine n_icmp_le C dX6_trouble_194 (by decide) (by omega) (by omega) (by omega) (by omega) (tgt := 201) (fun c9 => ?_) (fun c9 => ?_)
                  · refine n_iconst C dX6_trouble_201 ?_
                    have htr : trb (R9 j) (tk, acc) (fk k, fp k, fs k) = 0 := trb_4 (a := (tk, acc)) hcc (by rw [hin, hpn]; exact if_neg (by show ¬ 60 < acc.length + ((fp k).toInt.toNat - tk) + 0; omega))
                    exact n_iret C hr dX6_trouble_202 (⟨by rw [htr]; rfl, rfl⟩)
                  · refine n_iconst C dX6_trouble_197 ?_
                    refine n_goto (tgt := 202) C dX6_trouble_198 (by decide) ?_
                    have htr : trb (R9 j) (tk, acc) (fk k, fp k, fs k) = 4 := trb_4 (a := (tk, acc)) hcc (by rw [hin, hpn]; exact if_pos (by show 60 < acc.length + ((fp k).toInt.toNat - tk) + 0; omega))
                    exact n_iret C hr dX6_trouble_202 (⟨by rw [htr]; rfl, rfl⟩)
                · refine n_iconst C dX6_trouble_168 ?_
                  have hcc : chk (R9 j) tk (fk k, fp k, fs k) = 3 := by rw [hcv, if_neg (by omega), hpn9, Int.toNat_natCast, hg9, if_pos (fun q => c8 (Option.some.inj q))]
                  have htr : trb (R9 j) (tk, acc) (fk k, fp k, fs k) = 3 := by rw [trb_chk (a := (tk, acc)) (by show chk (R9 j) tk (fk k, fp k, fs k) ≠ 0; rw [hcc]; decide)]; exact hcc
                  exact n_iret C hr dX6_trouble_169 (⟨by rw [htr]; rfl, rfl⟩)
              · refine n_iconst C dX6_trouble_132 ?_
                have hcc : chk (R9 j) tk (fk k, fp k, fs k) = 2 := by rw [hcv, if_pos (by omega)]
                have htr : trb (R9 j) (tk, acc) (fk k, fp k, fs k) = 2 := by rw [trb_chk (a := (tk, acc)) (by show chk (R9 j) tk (fk k, fp k, fs k) ≠ 0; rw [hcc]; decide)]; exact hcc
                exact n_iret C hr dX6_trouble_133 (⟨by rw [htr]; rfl, rfl⟩)
        · refine n_iconst C dX6_trouble_90 ?_
          have hcc : chk (R9 j) tk (fk k, fp k, fs k) = 1 := chk_a (Or.inr (decide_eq_false (by omega)))
          have htr : trb (R9 j) (tk, acc) (fk k, fp k, fs k) = 1 := by rw [trb_chk (a := (tk, acc)) (by show chk (R9 j) tk (fk k, fp k, fs k) ≠ 0; rw [hcc]; decide)]; exact hcc
          exact n_iret C hr dX6_trouble_91 (⟨by rw [htr]; rfl, rfl⟩)
    · refine n_aload_n C dX6_trouble_50 0 rfl rfl ?_
      refine n_get (k9 := 5) C dX6_trouble_51 (by omega) k53 hX6_trouble_X6 rfl (by decide) kX6_trouble_16 rfl ?_
      refine n_iload_n C dX6_trouble_54 2 rfl rfl ?_
      refine n_iald (j := k) C dX6_trouble_55 (by omega) m2.1 (by omega) (by omega) (by omega) ?_
      refine n_topI (y := (iI 1)) (hk9) ?_
      refine n_if_lt C dX6_trouble_56 (by decide) (by omega) (by omega) (tgt := 90) (fun c9 => absurd c9 (by omega)) (fun _ => ?_)
      refine n_aload_n C dX6_trouble_59 0 rfl rfl ?_
      refine n_get (k9 := 5) C dX6_trouble_60 (by omega) k53 hX6_trouble_X6 rfl (by decide) kX6_trouble_16 rfl ?_
      refine n_iload_n C dX6_trouble_63 2 rfl rfl ?_
      refine n_iald (j := k) C dX6_trouble_64 (by omega) m2.1 (by omega) (by omega) (by omega) ?_
      refine n_topI (y := (iI 1)) (hk9) ?_
      refine n_iconst C dX6_trouble_65 ?_
      refine n_icmp_gt C dX6_trouble_66 (by decide) (by omega) (by omega) (by omega) (by omega) (tgt := 90) (fun c9 => absurd c9 (by omega)) (fun _ => ?_)
      refine n_aload_n C dX6_trouble_69 0 rfl rfl ?_
      refine n_get (k9 := 7) C dX6_trouble_70 (by omega) k53 hX6_trouble_X6 rfl (by decide) kX6_trouble_22 rfl ?_
      refine n_iload_n C dX6_trouble_73 2 rfl rfl ?_
      refine n_iald (j := k) C dX6_trouble_74 (by omega) m2.2.2.1 (by omega) (by omega) (by omega) ?_
      refine n_topI (y := (iI ((fs k).toInt))) ((iI_self (fs k)).symm) ?_
      refine n_if_lt C dX6_trouble_75 (by decide) (by omega) (by omega) (tgt := 90) (fun c3 => ?_) (fun c3 => ?_)
      · refine n_iconst C dX6_trouble_90 ?_
        have hcc : chk (R9 j) tk (fk k, fp k, fs k) = 1 := chk_a (Or.inr (decide_eq_false (by omega)))
        have htr : trb (R9 j) (tk, acc) (fk k, fp k, fs k) = 1 := by rw [trb_chk (a := (tk, acc)) (by show chk (R9 j) tk (fk k, fp k, fs k) ≠ 0; rw [hcc]; decide)]; exact hcc
        exact n_iret C hr dX6_trouble_91 (⟨by rw [htr]; rfl, rfl⟩)
      · refine n_aload_n C dX6_trouble_78 0 rfl rfl ?_
        refine n_get (k9 := 7) C dX6_trouble_79 (by omega) k53 hX6_trouble_X6 rfl (by decide) kX6_trouble_22 rfl ?_
        refine n_iload_n C dX6_trouble_82 2 rfl rfl ?_
        refine n_iald (j := k) C dX6_trouble_83 (by omega) m2.2.2.1 (by omega) (by omega) (by omega) ?_
        refine n_topI (y := (iI ((fs k).toInt))) ((iI_self (fs k)).symm) ?_
        refine n_sipush C dX6_trouble_84 (by decide) ?_
        refine n_icmp_le C dX6_trouble_87 (by decide) (by omega) (by omega) (by omega) (by omega) (tgt := 92) (fun c4 => ?_) (fun c4 => ?_)
        · have hcv : chk (R9 j) tk (fk k, fp k, fs k) = if (fp k).toInt < (tk : Int) ∨ ((R9 j).length : Int) < (fp k).toInt then 2 else 0 := by rw [hk9]; exact chk_k1 (decide_eq_true (by omega))
          refine n_aload_n C dX6_trouble_92 0 rfl rfl ?_
          refine n_get (k9 := 6) C dX6_trouble_93 (by omega) k53 hX6_trouble_X6 rfl (by decide) kX6_trouble_19 rfl ?_
          refine n_iload_n C dX6_trouble_96 2 rfl rfl ?_
          refine n_iald (j := k) C dX6_trouble_97 (by omega) m2.2.1 (by omega) (by omega) (by omega) ?_
          refine n_topI (y := (iI ((fp k).toInt))) ((iI_self (fp k)).symm) ?_
          refine n_if_lt C dX6_trouble_98 (by decide) (by omega) (by omega) (tgt := 132) (fun c5 => ?_) (fun c5 => ?_)
          · refine n_iconst C dX6_trouble_132 ?_
            have hcc : chk (R9 j) tk (fk k, fp k, fs k) = 2 := by rw [hcv, if_pos (by omega)]
            have htr : trb (R9 j) (tk, acc) (fk k, fp k, fs k) = 2 := by rw [trb_chk (a := (tk, acc)) (by show chk (R9 j) tk (fk k, fp k, fs k) ≠ 0; rw [hcc]; decide)]; exact hcc
            exact n_iret C hr dX6_trouble_133 (⟨by rw [htr]; rfl, rfl⟩)
          · refine n_aload_n C dX6_trouble_101 0 rfl rfl ?_
            refine n_get (k9 := 6) C dX6_trouble_102 (by omega) k53 hX6_trouble_X6 rfl (by decide) kX6_trouble_19 rfl ?_
            refine n_iload_n C dX6_trouble_105 2 rfl rfl ?_
            refine n_iald (j := k) C dX6_trouble_106 (by omega) m2.2.1 (by omega) (by omega) (by omega) ?_
            refine n_topI (y := (iI ((fp k).toInt))) ((iI_self (fp k)).symm) ?_
            refine n_iload C dX6_trouble_107 5 rfl ?_
            refine n_iconst C dX6_trouble_109 ?_
            refine n_isub C dX6_trouble_110 ?_
            refine n_aload_n C dX6_trouble_111 0 rfl rfl ?_
            refine n_get (k9 := 5) C dX6_trouble_112 (by omega) k53 hX6_trouble_X6 rfl (by decide) kX6_trouble_16 rfl ?_
            refine n_iload_n C dX6_trouble_115 2 rfl rfl ?_
            refine n_iald (j := k) C dX6_trouble_116 (by omega) m2.1 (by omega) (by omega) (by omega) ?_
            refine n_topI (y := (iI 1)) (hk9) ?_
            refine n_iadd C dX6_trouble_117 ?_
            refine n_icmp_gt C dX6_trouble_118 (by decide) (by omega) (by omega) (by omega) (by omega) (tgt := 132) (fun c6 => ?_) (fun c6 => ?_)
            · refine n_iconst C dX6_trouble_132 ?_
              have hcc : chk (R9 j) tk (fk k, fp k, fs k) = 2 := by rw [hcv, if_pos (by omega)]
              have htr : trb (R9 j) (tk, acc) (fk k, fp k, fs k) = 2 := by rw [trb_chk (a := (tk, acc)) (by show chk (R9 j) tk (fk k, fp k, fs k) ≠ 0; rw [hcc]; decide)]; exact hcc
              exact n_iret C hr dX6_trouble_133 (⟨by rw [htr]; rfl, rfl⟩)
            · refine n_aload_n C dX6_trouble_121 0 rfl rfl ?_
              refine n_get (k9 := 6) C dX6_trouble_122 (by omega) k53 hX6_trouble_X6 rfl (by decide) kX6_trouble_19 rfl ?_
              refine n_iload_n C dX6_trouble_125 2 rfl rfl ?_
              refine n_iald (j := k) C dX6_trouble_126 (by omega) m2.2.1 (by omega) (by omega) (by omega) ?_
              refine n_topI (y := (iI ((fp k).toInt))) ((iI_self (fp k)).symm) ?_
              refine n_iload C dX6_trouble_127 6 rfl ?_
              refine n_icmp_ge C dX6_trouble_129 (by decide) (by omega) (by omega) (by omega) (by omega) (tgt := 134) (fun c7 => ?_) (fun c7 => ?_)
              · refine n_aload_n C dX6_trouble_134 0 rfl rfl ?_
                refine n_get (k9 := 5) C dX6_trouble_135 (by omega) k53 hX6_trouble_X6 rfl (by decide) kX6_trouble_16 rfl ?_
                refine n_iload_n C dX6_trouble_138 2 rfl rfl ?_
                refine n_iald (j := k) C dX6_trouble_139 (by omega) m2.1 (by omega) (by omega) (by omega) ?_
                refine n_topI (y := (iI 1)) (hk9) ?_
                refine n_if_ne C dX6_trouble_140 (by decide) (by omega) (by omega) (tgt := 170) (fun _ => ?_) (fun c9 => absurd c9 (by omega))
                have hcc : chk (R9 j) tk (fk k, fp k, fs k) = 0 := by rw [hcv, if_neg (by omega)]
                have hpn : plN (fk k, fp k, fs k) = (fp k).toInt.toNat := rfl
                have hin : insN (fk k, fp k, fs k) = 1 := insN_1 hk9
                refine n_iload C dX6_trouble_170 4 rfl ?_
                refine n_aload_n C dX6_trouble_172 0 rfl rfl ?_
                refine n_get (k9 := 6) C dX6_trouble_173 (by omega) k53 hX6_trouble_X6 rfl (by decide) kX6_trouble_19 rfl ?_
                refine n_iload_n C dX6_trouble_176 2 rfl rfl ?_
                refine n_iald (j := k) C dX6_trouble_177 (by omega) m2.2.1 (by omega) (by omega) (by omega) ?_
                refine n_topI (y := (iI ((fp k).toInt))) ((iI_self (fp k)).symm) ?_
                refine n_iadd C dX6_trouble_178 ?_
                refine n_iload_n C dX6_trouble_179 3 rfl rfl ?_
                refine n_isub C dX6_trouble_180 ?_
                refine n_istore (lv' := [(0, .ref (ad 53)), (1, .int (iI (j : Int))), (2, .int (iI (k : Int))), (3, .int (iI (tk : Int))), (4, .int (iI (acc.length : Int))), (5, .int (iI ((R9 j).length : Int))), (6, .int (iI (tk : Int))), (7, .int (iI (((acc.length : Int) + ((fp k).toInt)) - (tk : Int))))]) C dX6_trouble_181 (by decide) rfl ?_
                refine n_iload C dX6_trouble_183 7 rfl ?_
                refine n_aload_n C dX6_trouble_185 0 rfl rfl ?_
                refine n_get (k9 := 5) C dX6_trouble_186 (by omega) k53 hX6_trouble_X6 rfl (by decide) kX6_trouble_16 rfl ?_
                refine n_iload_n C dX6_trouble_189 2 rfl rfl ?_
                refine n_iald (j := k) C dX6_trouble_190 (by omega) m2.1 (by omega) (by omega) (by omega) ?_
                refine n_topI (y := (iI 1)) (hk9) ?_
                refine n_iadd C dX6_trouble_191 ?_
                refine n_bipush C dX6_trouble_192 (by decide) ?_
                refine n_icmp_le C dX6_trouble_194 (by decide) (by omega) (by omega) (by omega) (by omega) (tgt := 201) (fun c9 => ?_) (fun c9 => ?_)
                · refine n_iconst C dX6_trouble_201 ?_
                  have htr : trb (R9 j) (tk, acc) (fk k, fp k, fs k) = 0 := trb_4 (a := (tk, acc)) hcc (by rw [hin, hpn]; exact if_neg (by show ¬ 60 < acc.length + ((fp k).toInt.toNat - tk) + 1; omega))
                  exact n_iret C hr dX6_trouble_202 (⟨by rw [htr]; rfl, rfl⟩)
                · refine n_iconst C dX6_trouble_197 ?_
                  refine n_goto (tgt := 202) C dX6_trouble_198 (by decide) ?_
                  have htr : trb (R9 j) (tk, acc) (fk k, fp k, fs k) = 4 := trb_4 (a := (tk, acc)) hcc (by rw [hin, hpn]; exact if_pos (by show 60 < acc.length + ((fp k).toInt.toNat - tk) + 1; omega))
                  exact n_iret C hr dX6_trouble_202 (⟨by rw [htr]; rfl, rfl⟩)
              · refine n_iconst C dX6_trouble_132 ?_
                have hcc : chk (R9 j) tk (fk k, fp k, fs k) = 2 := by rw [hcv, if_pos (by omega)]
                have htr : trb (R9 j) (tk, acc) (fk k, fp k, fs k) = 2 := by rw [trb_chk (a := (tk, acc)) (by show chk (R9 j) tk (fk k, fp k, fs k) ≠ 0; rw [hcc]; decide)]; exact hcc
                exact n_iret C hr dX6_trouble_133 (⟨by rw [htr]; rfl, rfl⟩)
        · refine n_iconst C dX6_trouble_90 ?_
          have hcc : chk (R9 j) tk (fk k, fp k, fs k) = 1 := chk_a (Or.inr (decide_eq_false (by omega)))
          have htr : trb (R9 j) (tk, acc) (fk k, fp k, fs k) = 1 := by rw [trb_chk (a := (tk, acc)) (by show chk (R9 j) tk (fk k, fp k, fs k) ≠ 0; rw [hcc]; decide)]; exact hcc
          exact n_iret C hr dX6_trouble_91 (⟨by rw [htr]; rfl, rfl⟩)
    · refine n_aload_n C dX6_trouble_50 0 rfl rfl ?_
      refine n_get (k9 := 5) C dX6_trouble_51 (by omega) k53 hX6_trouble_X6 rfl (by decide) kX6_trouble_16 rfl ?_
      refine n_iload_n C dX6_trouble_54 2 rfl rfl ?_
      refine n_iald (j := k) C dX6_trouble_55 (by omega) m2.1 (by omega) (by omega) (by omega) ?_
      refine n_topI (y := (iI ((fk k).toInt))) ((iI_self (fk k)).symm) ?_
      refine n_if_lt C dX6_trouble_56 (by decide) (by omega) (by omega) (tgt := 90) (fun c3 => ?_) (fun c3 => ?_)
      · refine n_iconst C dX6_trouble_90 ?_
        have hcc : chk (R9 j) tk (fk k, fp k, fs k) = 1 := chk_a (Or.inl ⟨hk9, hk8⟩)
        have htr : trb (R9 j) (tk, acc) (fk k, fp k, fs k) = 1 := by rw [trb_chk (a := (tk, acc)) (by show chk (R9 j) tk (fk k, fp k, fs k) ≠ 0; rw [hcc]; decide)]; exact hcc
        exact n_iret C hr dX6_trouble_91 (⟨by rw [htr]; rfl, rfl⟩)
      · refine n_aload_n C dX6_trouble_59 0 rfl rfl ?_
        refine n_get (k9 := 5) C dX6_trouble_60 (by omega) k53 hX6_trouble_X6 rfl (by decide) kX6_trouble_16 rfl ?_
        refine n_iload_n C dX6_trouble_63 2 rfl rfl ?_
        refine n_iald (j := k) C dX6_trouble_64 (by omega) m2.1 (by omega) (by omega) (by omega) ?_
        refine n_topI (y := (iI ((fk k).toInt))) ((iI_self (fk k)).symm) ?_
        refine n_iconst C dX6_trouble_65 ?_
        refine n_icmp_gt C dX6_trouble_66 (by decide) (by omega) (by omega) (by omega) (by omega) (tgt := 90) (fun _ => ?_) (fun c9 => absurd c9 (by omega))
        refine n_iconst C dX6_trouble_90 ?_
        have hcc : chk (R9 j) tk (fk k, fp k, fs k) = 1 := chk_a (Or.inl ⟨hk9, hk8⟩)
        have htr : trb (R9 j) (tk, acc) (fk k, fp k, fs k) = 1 := by rw [trb_chk (a := (tk, acc)) (by show chk (R9 j) tk (fk k, fp k, fs k) ≠ 0; rw [hcc]; decide)]; exact hcc
        exact n_iret C hr dX6_trouble_91 (⟨by rw [htr]; rfl, rfl⟩)

set_option maxHeartbeats 4000000 in
set_option maxRecDepth 100000 in
theorem TX6_wrong (l : Launch) {G : GG} {N : Nat} {ad : Nat → Nat} {ev : Nat → va_E} {lim thr : Int} {cmp : Bool} {nl lsz nr : Nat} {R9 : Nat → List Int32} {fz fy : Nat → Int32} {ops : List Tr} {fk fp fs : Nat → Int32} {j : Nat} (hN : 66 ≤ N) (k53 : ev 53 = mO ad lim thr ops.length cmp nl lsz nr) (m1 : MRows G ev R9 fz fy) (m2 : MOps G ev ops fk fp fs) (hj : j < 3) : Ct l yX6_wrong wsX6_wrong rmX6_wrong [.ref (ad 53), .int (iI (j : Int))] G N ad ev 0 0 (fun v e2 => v = some (.int (iI (wr (R9 j) ops 0 : Nat))) ∧ ev = e2) := by
  obtain ⟨zj, lj, yj⟩ := m1.at (j := j) hj
  have hlo := m2.2.2.2.2
  refine Ct_of (cc := cX6_wrong) (maxL := 6) (ret := some .int) (lv := [(0, .ref (ad 53)), (1, .int (iI (j : Int)))]) (by decide) rfl (Nat.le_of_ble_eq_true rfl) rfl ?_
  intro p E s m args below meth c A C hr hnm
  refine n_iconst C dX6_wrong_0 ?_
  refine n_istore_n (lv' := [(0, .ref (ad 53)), (1, .int (iI (j : Int))), (2, .int (iI 0))]) C dX6_wrong_1 rfl (by decide) rfl ?_
  refine n_iconst C dX6_wrong_2 ?_
  refine n_istore_n (lv' := [(0, .ref (ad 53)), (1, .int (iI (j : Int))), (2, .int (iI 0)), (3, .int (iI 0))]) C dX6_wrong_3 rfl (by decide) rfl ?_
  refine n_iconst C dX6_wrong_4 ?_
  refine n_istore (lv' := [(0, .ref (ad 53)), (1, .int (iI (j : Int))), (2, .int (iI 0)), (3, .int (iI 0)), (4, .int (iI 0))]) C dX6_wrong_5 (by decide) rfl ?_
  have loop : ∀ (n9 : Nat) (k : Nat), ops.length + 1 - k < n9 → (k ≤ ops.length) → (wr (R9 j) ops k = wr (R9 j) ops 0) → (∀ j9 t, j9 < k → ops[j9]? = some t → trb (R9 j) (pst (R9 j) ops j9) t = 0) → V p l E rmX6_wrong s m args below meth c G A 6 (MQ below (Qg G N ad A (fun v e2 => v = some (.int (iI (wr (R9 j) ops 0 : Nat))) ∧ ev = e2)) args s 0 0 A) N ad ev 0 0 7 [(0, .ref (ad 53)), (1, .int (iI (j : Int))), (2, .int (iI ((pst (R9 j) ops k).1 : Int))), (3, .int (iI ((pst (R9 j) ops k).2.length : Int))), (4, .int (iI (k : Int)))] [] := by
    intro n9
    induction n9 with
    | zero =>
      intro k hm9
      exact absurd hm9 (Nat.not_lt_zero _)
    | succ n9 ih =>
      intro k hm9 hk hw hall
      obtain ⟨ha1, ha2⟩ := pst_ok k hk hall
      refine n_iload C dX6_wrong_7 4 rfl ?_
      refine n_aload_n C dX6_wrong_9 0 rfl rfl ?_
      refine n_get (k9 := 4) C dX6_wrong_10 (by omega) k53 hX6_wrong_X6 rfl (by decide) kX6_wrong_65 rfl ?_
      refine n_icmp_ge C dX6_wrong_13 (by decide) (by omega) (by omega) (by omega) (by omega) (tgt := 79) (fun c1 => ?_) (fun c1 => ?_)
      · have hke : k = ops.length := by omega
        rw [wr_end (by omega)] at hw
        refine n_iload_n C dX6_wrong_79 3 rfl rfl ?_
        refine n_aload_n C dX6_wrong_80 0 rfl rfl ?_
        refine n_get (k9 := 2) C dX6_wrong_81 (by omega) k53 hX6_wrong_X6 rfl (by decide) kX6_wrong_7 rfl ?_
        refine n_iload_n C dX6_wrong_84 1 rfl rfl ?_
        refine n_iald (j := j) C dX6_wrong_85 (by omega) m1.1 (by omega) (by omega) (by omega) ?_
        refine n_topI (y := (iI ((R9 j).length : Int))) (zj) ?_
        refine n_iadd C dX6_wrong_86 ?_
        refine n_iload_n C dX6_wrong_87 2 rfl rfl ?_
        refine n_isub C dX6_wrong_88 ?_
        refine n_bipush C dX6_wrong_89 (by decide) ?_
        refine n_icmp_le C dX6_wrong_91 (by decide) (by omega) (by omega) (by omega) (by omega) (tgt := 98) (fun c2 => ?_) (fun c2 => ?_)
        · refine n_iconst C dX6_wrong_98 ?_
          exact n_iret C hr dX6_wrong_99 (⟨by rw [← hw, if_neg (by omega)]; rfl, rfl⟩)
        · refine n_iconst C dX6_wrong_94 ?_
          refine n_goto (tgt := 99) C dX6_wrong_95 (by decide) ?_
          exact n_iret C hr dX6_wrong_99 (⟨by rw [← hw, if_pos (by omega)]; rfl, rfl⟩)
      · obtain ⟨t, ht⟩ := some_of_lt (xs := ops) (j := k) (by omega)
        have hti : t = (fk k, fp k, fs k) := Option.some.inj (ht.symm.trans (m2.2.2.2.1 k (by omega)))
        have htk : 0 < k → ∃ q : Nat, fp (k - 1) = iI (q : Int) ∧ (pst (R9 j) ops k).1 = if fk (k - 1) = iI 0 then q + 1 else q := fun h0 => by
          obtain ⟨k, rfl⟩ : ∃ k9, k = k9 + 1 := ⟨k - 1, by omega⟩
          obtain ⟨t9, ht9⟩ := some_of_lt (xs := ops) (j := k) (by omega)
          have hti9 : t9 = (fk k, fp k, fs k) := Option.some.inj (ht9.symm.trans (m2.2.2.2.1 k (by omega)))
          have hc9 := (trb_0 (hall k t9 (by omega) ht9)).1
          have hp9 := plN_p hc9
          have hs9 := pst_s (xs := R9 j) ht9
          refine ⟨plN t9, ?_, ?_⟩
          · rw [Nat.add_sub_cancel, ← hp9, hti9]
          · rw [Nat.add_sub_cancel, hs9]
            unfold pstep
            have e9 : t9.1 = fk k := by rw [hti9]
            rw [e9]
            split <;> rfl
        have htb : ∀ x, x = trb (R9 j) (pst (R9 j) ops k) t → x ≤ 4 := by
          intro x hx
          rw [hx]
          unfold trb chk
          repeat' split
          all_goals omega
        have htb := htb _ rfl
        refine n_aload_n C dX6_wrong_16 0 rfl rfl ?_
        refine n_iload_n C dX6_wrong_17 1 rfl rfl ?_
        refine n_iload C dX6_wrong_18 4 rfl ?_
        refine n_iload_n C dX6_wrong_20 2 rfl rfl ?_
        refine n_iload_n C dX6_wrong_21 3 rfl rfl ?_
        refine n_callV (rest := []) C dX6_wrong_22 (TX6_trouble l hN k53 m1 m2 hj ht (tk := (pst (R9 j) ops k).1) (acc := (pst (R9 j) ops k).2) (fun h0 => by rw [h0]; rfl) htk ha1 ha2) (cwV 4 C.2.2.2.2.1 gX6_wrong_X6_trouble rfl rfl rfl cdX6_trouble ⟨Nat.le_of_ble_eq_true rfl, Nat.le_of_ble_eq_true rfl⟩) (by omega) k53 rfl rfl rfl (Nat.le_of_ble_eq_true rfl) ⟨Nat.le_of_ble_eq_true rfl, Nat.le_of_ble_eq_true rfl⟩ ?_
        rintro _ _ ⟨rfl, rfl⟩
        refine n_pc (pc2 := 25) rfl (n_st (st2 := [.int (iI (trb (R9 j) (pst (R9 j) ops k) t : Nat))]) rfl ?_)
        refine n_istore (lv' := [(0, .ref (ad 53)), (1, .int (iI (j : Int))), (2, .int (iI ((pst (R9 j) ops k).1 : Int))), (3, .int (iI ((pst (R9 j) ops k).2.length : Int))), (4, .int (iI (k : Int))), (5, .int (iI (trb (R9 j) (pst (R9 j) ops k) t : Nat)))]) C dX6_wrong_25 (by decide) rfl ?_
        refine n_iload C dX6_wrong_27 5 rfl ?_
        refine n_if_le C dX6_wrong_29 (by decide) (by omega) (by omega) (tgt := 35) (fun c2 => ?_) (fun c2 => ?_)
        · have h0 : trb (R9 j) (pst (R9 j) ops k) t = 0 := by omega
          obtain ⟨hc, hr9⟩ := trb_0 h0
          have hp := plN_p hc
          have hkd := insN_k hc
          have hs := pst_s (xs := R9 j) ht
          have hf1 := pstep_fst hc
          obtain ⟨hf2, hf3⟩ := pstep_ok hc
          have htp := (chk_0 hc).2.2.2.1
          have hil := insN_le t
          have hpl := (chk_0 hc).2.2.2.2.1
          have efp : fp k = iI (plN t : Int) := by rw [← hp, hti]
          have efk : fk k = iI (insN t : Int) := by rw [← hkd, hti]
          rw [← hs] at hf1 hf2 hf3
          refine n_iload_n C dX6_wrong_35 3 rfl rfl ?_
          refine n_aload_n C dX6_wrong_36 0 rfl rfl ?_
          refine n_get (k9 := 6) C dX6_wrong_37 (by omega) k53 hX6_wrong_X6 rfl (by decide) kX6_wrong_19 rfl ?_
          refine n_iload C dX6_wrong_40 4 rfl ?_
          refine n_iald (j := k) C dX6_wrong_42 (by omega) m2.2.1 (by omega) (by omega) (by omega) ?_
          refine n_topI (y := (iI (plN t : Int))) (efp) ?_
          refine n_iload_n C dX6_wrong_43 2 rfl rfl ?_
          refine n_isub C dX6_wrong_44 ?_
          refine n_aload_n C dX6_wrong_45 0 rfl rfl ?_
          refine n_get (k9 := 5) C dX6_wrong_46 (by omega) k53 hX6_wrong_X6 rfl (by decide) kX6_wrong_16 rfl ?_
          refine n_iload C dX6_wrong_49 4 rfl ?_
          refine n_iald (j := k) C dX6_wrong_51 (by omega) m2.1 (by omega) (by omega) (by omega) ?_
          refine n_topI (y := (iI (insN t : Int))) (efk) ?_
          refine n_iadd C dX6_wrong_52 ?_
          refine n_iadd C dX6_wrong_53 ?_
          refine n_istore_n (lv' := [(0, .ref (ad 53)), (1, .int (iI (j : Int))), (2, .int (iI ((pst (R9 j) ops k).1 : Int))), (3, .int (iI (((pst (R9 j) ops k).2.length : Int) + (((plN t : Int) - ((pst (R9 j) ops k).1 : Int)) + (insN t : Int))))), (4, .int (iI (k : Int))), (5, .int (iI (trb (R9 j) (pst (R9 j) ops k) t : Nat)))]) C dX6_wrong_54 rfl (by decide) rfl ?_
          refine n_aload_n C dX6_wrong_55 0 rfl rfl ?_
          refine n_get (k9 := 6) C dX6_wrong_56 (by omega) k53 hX6_wrong_X6 rfl (by decide) kX6_wrong_19 rfl ?_
          refine n_iload C dX6_wrong_59 4 rfl ?_
          refine n_iald (j := k) C dX6_wrong_61 (by omega) m2.2.1 (by omega) (by omega) (by omega) ?_
          refine n_topI (y := (iI (plN t : Int))) (efp) ?_
          refine n_iconst C dX6_wrong_62 ?_
          refine n_iadd C dX6_wrong_63 ?_
          refine n_aload_n C dX6_wrong_64 0 rfl rfl ?_
          refine n_get (k9 := 5) C dX6_wrong_65 (by omega) k53 hX6_wrong_X6 rfl (by decide) kX6_wrong_16 rfl ?_
          refine n_iload C dX6_wrong_68 4 rfl ?_
          refine n_iald (j := k) C dX6_wrong_70 (by omega) m2.1 (by omega) (by omega) (by omega) ?_
          refine n_topI (y := (iI (insN t : Int))) (efk) ?_
          refine n_isub C dX6_wrong_71 ?_
          refine n_istore_n (lv' := [(0, .ref (ad 53)), (1, .int (iI (j : Int))), (2, .int (iI (((plN t : Int) + 1) - (insN t : Int)))), (3, .int (iI (((pst (R9 j) ops k).2.length : Int) + (((plN t : Int) - ((pst (R9 j) ops k).1 : Int)) + (insN t : Int))))), (4, .int (iI (k : Int))), (5, .int (iI (trb (R9 j) (pst (R9 j) ops k) t : Nat)))]) C dX6_wrong_72 rfl (by decide) rfl ?_
          refine n_iinc (lv' := [(0, .ref (ad 53)), (1, .int (iI (j : Int))), (2, .int (iI (((plN t : Int) + 1) - (insN t : Int)))), (3, .int (iI (((pst (R9 j) ops k).2.length : Int) + (((plN t : Int) - ((pst (R9 j) ops k).1 : Int)) + (insN t : Int))))), (4, .int (iI ((k : Int) + 1))), (5, .int (iI (trb (R9 j) (pst (R9 j) ops k) t : Nat)))]) C dX6_wrong_73 4 rfl (by decide) rfl ?_
          refine n_goto (tgt := 7) C dX6_wrong_76 (by decide) ?_
          have v2 : ((plN t : Int) + 1) - (insN t : Int) = ((pst (R9 j) ops (k + 1)).1 : Int) := by omega
          have v3 : ((pst (R9 j) ops k).2.length : Int) + (((plN t : Int) - ((pst (R9 j) ops k).1 : Int)) + (insN t : Int)) = ((pst (R9 j) ops (k + 1)).2.length : Int) := by omega
          refine n_sub (lv2 := [(0, .ref (ad 53)), (1, .int (iI (j : Int))), (2, .int (iI (((plN t : Int) + 1) - (insN t : Int)))), (3, .int (iI (((pst (R9 j) ops k).2.length : Int) + (((plN t : Int) - ((pst (R9 j) ops k).1 : Int)) + (insN t : Int))))), (4, .int (iI ((k : Int) + 1)))]) [0, 1, 2, 3, 4] rfl ?_
          refine n_lv (lv2 := [(0, .ref (ad 53)), (1, .int (iI (j : Int))), (2, .int (iI ((pst (R9 j) ops (k + 1)).1 : Int))), (3, .int (iI ((pst (R9 j) ops (k + 1)).2.length : Int))), (4, .int (iI ((k + 1 : Nat) : Int)))]) (by rw [v2, v3]; simp) ?_
          exact ih (k + 1) (by omega) (by omega) (by rw [← wr_ok ht h0]; exact hw) (fun j9 t9 hj9 ht9 => by
            by_cases e : j9 = k
            · subst e
              obtain rfl : t = t9 := Option.some.inj (ht.symm.trans ht9)
              exact h0
            · exact hall j9 t9 (by omega) ht9)
        · refine n_iload C dX6_wrong_32 5 rfl ?_
          exact n_iret C hr dX6_wrong_34 (⟨by rw [← hw, wr_bad ht (by omega)], rfl⟩)
  exact loop _ 0 (Nat.lt_succ_self _) (Nat.zero_le _) rfl (fun j9 t h => absurd h (Nat.not_lt_zero j9))

set_option maxHeartbeats 4000000 in
set_option maxRecDepth 100000 in
theorem TX6_patch (l : Launch) {G : GG} {N : Nat} {ad : Nat → Nat} {ev : Nat → va_E} {lim thr : Int} {R9 : Nat → List Int32} {ops : List Tr} {ls : List Op} {lsz : Nat} {rs9 : List Int32} {z : Int} (hN : 66 ≤ N) (hM : MdlAt G ad ev lim thr R9 ops ls lsz rs9) (hza : -2147483648 ≤ z) (hzb : z < 2147483648) : Ct l yX6_patch wsX6_patch rmX6_patch [.ref (ad 53), .int (iI z)] G N ad ev 0 0 (fun v e2 => (ptE R9 ops z ≠ 0 → v = some (.int (iI 0)) ∧ MdlAt G ad e2 lim (ptE R9 ops z : Nat) R9 ops ls lsz rs9) ∧ (ptE R9 ops z = 0 → v = some (.int (iI ((pres (R9 z.toNat) ops).length : Int))) ∧ MdlAt G ad e2 lim 0 R9 ops ls lsz (pres (R9 z.toNat) ops)) ∧ Fr e2 ev (fun j => 53 ≤ j ∧ j < 66)) := by
  obtain ⟨cmp, fz, fy, fk, fp, fs, mk, mp, fr, fq, w1, w2, fd, hbb, k53, m1, m2, m3, m4, m5⟩ := hM
  obtain ⟨hli1, hli2, hlsz, hcmp⟩ := hbb
  have hlo := m2.2.2.2.2
  refine Ct_of (cc := cX6_patch) (maxL := 5) (ret := some .int) (lv := [(0, .ref (ad 53)), (1, .int (iI z))]) (by decide) rfl (Nat.le_of_ble_eq_true rfl) rfl ?_
  intro p E s m args below meth c A C hr hnm
  refine n_aload_n C dX6_patch_0 0 rfl rfl ?_
  refine n_iload_n C dX6_patch_1 1 rfl rfl ?_
  refine n_callS (rest := [.ref (ad 53)]) C dX6_patch_2 (TX6_isRow l hza hzb) (cwS 1 C.2.2.2.2.1 gX6_patch_X6_isRow rfl rfl rfl cdX6_isRow ⟨Nat.le_of_ble_eq_true rfl, Nat.le_of_ble_eq_true rfl⟩) rfl rfl (Nat.le_of_ble_eq_true rfl) ⟨Nat.le_of_ble_eq_true rfl, Nat.le_of_ble_eq_true rfl⟩ ?_
  rintro _ _ ⟨rfl, rfl⟩
  refine n_pc (pc2 := 5) rfl (n_st (st2 := [.int (bI (isR z)), .ref (ad 53)]) rfl ?_)
  refine n_if_neB C dX6_patch_5 (by decide) (tgt := 12) (fun c1 => ?_) (fun c1 => ?_)
  · have c1w := of_decide_eq_true c1
    obtain ⟨j, rfl⟩ : ∃ j : Nat, z = (j : Int) := ⟨z.toNat, by omega⟩
    obtain ⟨zj, lj, yj⟩ := m1.at (j := j) (by omega)
    have hcv : ptE R9 ops (j : Int) = wr (R9 j) ops 0 := by unfold ptE; rw [c1, Int.toNat_natCast]; rfl
    have htb : wr (R9 j) ops 0 ≤ 4 := wr_le _ _ _ 0 (Nat.le_refl _)
    refine n_aload_n C dX6_patch_12 0 rfl rfl ?_
    refine n_iload_n C dX6_patch_13 1 rfl rfl ?_
    refine n_callV (rest := [.ref (ad 53)]) C dX6_patch_14 (TX6_wrong l hN k53 m1 m2 (by omega)) (cwV 1 C.2.2.2.2.1 gX6_patch_X6_wrong rfl rfl rfl cdX6_wrong ⟨Nat.le_of_ble_eq_true rfl, Nat.le_of_ble_eq_true rfl⟩) (by omega) k53 rfl rfl rfl (Nat.le_of_ble_eq_true rfl) ⟨Nat.le_of_ble_eq_true rfl, Nat.le_of_ble_eq_true rfl⟩ ?_
    rintro _ _ ⟨rfl, rfl⟩
    refine n_pc (pc2 := 17) rfl (n_st (st2 := [.int (iI (wr (R9 j) ops 0 : Nat)), .ref (ad 53)]) rfl ?_)
    refine n_put (k9 := 1) (fs2 := [.int (iI lim), .int (iI (wr (R9 j) ops 0 : Nat)), .ref (ad 54), .ref (ad 55), .int (iI (ops.length : Int)), .ref (ad 56), .ref (ad 57), .ref (ad 58), .int (bI cmp), .int (iI (ls.length : Int)), .int (iI (lsz : Int)), .ref (ad 59), .ref (ad 60), .int (iI (rs9.length : Int)), .ref (ad 61), .ref (ad 62), .ref (ad 63), .ref (ad 64), .ref (ad 65)]) C dX6_patch_17 (by omega) k53 hX6_patch_X6 tyX6_ok nmX6 rfl (by decide) kX6_patch_50 rfl rfl rfl (Nat.le_of_ble_eq_true rfl) rfl (fun e1 hs2 ho3 => ?_)
    have hP4 : Fr e1 _ (fun j => j = 53) := fun j hj => ho3 j hj
    have m1 := m1.fr hP4 (by omega) (by omega)
    have m2 := m2.fr hP4 (by omega) (by omega) (by omega)
    have m3 := m3.fr hP4 (by omega) (by omega)
    have m4 := m4.fr hP4 (by omega)
    have m5 := m5.fr hP4 (by omega) (by omega) (by omega) (by omega)
    refine n_aload_n C dX6_patch_20 0 rfl rfl ?_
    refine n_get (k9 := 1) C dX6_patch_21 (by omega) hs2 hX6_patch_X6 rfl (by decide) kX6_patch_50 rfl ?_
    refine n_if_le C dX6_patch_24 (by decide) (by omega) (by omega) (tgt := 29) (fun c2 => ?_) (fun c2 => ?_)
    · have h0 : wr (R9 j) ops 0 = 0 := by omega
      have hcc : ptE R9 ops (j : Int) = 0 := by rw [hcv, h0]
      have hall := fun j9 t => wr_all (xs := R9 j) (ops := ops) _ 0 (Nat.le_refl _) (Nat.zero_le _) h0 j9 t (Nat.zero_le _)
      have k53 := hs2
      rw [h0] at k53
      refine n_aload_n C dX6_patch_29 0 rfl rfl ?_
      refine n_iconst C dX6_patch_30 ?_
      refine n_put (k9 := 13) (fs2 := [.int (iI lim), .int (iI (((0 : Nat)) : Int)), .ref (ad 54), .ref (ad 55), .int (iI (ops.length : Int)), .ref (ad 56), .ref (ad 57), .ref (ad 58), .int (bI cmp), .int (iI (ls.length : Int)), .int (iI (lsz : Int)), .ref (ad 59), .ref (ad 60), .int (iI 0), .ref (ad 61), .ref (ad 62), .ref (ad 63), .ref (ad 64), .ref (ad 65)]) C dX6_patch_31 (by omega) k53 hX6_patch_X6 tyX6_ok nmX6 rfl (by decide) kX6_patch_90 rfl rfl rfl (Nat.le_of_ble_eq_true rfl) rfl (fun e5 hs6 ho7 => ?_)
      have hP8 : Fr e5 _ (fun j => j = 53) := fun j hj => ho7 j hj
      have m1 := m1.fr hP8 (by omega) (by omega)
      have m2 := m2.fr hP8 (by omega) (by omega) (by omega)
      have m3 := m3.fr hP8 (by omega) (by omega)
      have m4 := m4.fr hP8 (by omega)
      have m5 := m5.fr hP8 (by omega) (by omega) (by omega) (by omega)
      refine n_iconst C dX6_patch_34 ?_
      refine n_istore_n (lv' := [(0, .ref (ad 53)), (1, .int (iI (j : Int))), (2, .int (iI 0))]) C dX6_patch_35 rfl (by decide) rfl ?_
      refine n_iconst C dX6_patch_36 ?_
      refine n_istore_n (lv' := [(0, .ref (ad 53)), (1, .int (iI (j : Int))), (2, .int (iI 0)), (3, .int (iI 0))]) C dX6_patch_37 rfl (by decide) rfl ?_
      have hF0 : Fr e5 ev (fun j => 53 ≤ j ∧ j < 66) := fun j hj => (hP8 j (by omega)).trans (hP4 j (by omega))
      have m4 : MRes G e5 [] fr := ⟨m4.1, fun j hj => absurd hj (Nat.not_lt_zero j), Nat.zero_le _⟩
      have loop : ∀ (n9 : Nat) (i k : Nat) (fr : Nat → Int32) (ex : Nat → va_E), (R9 j).length + 1 - i < n9 → (i ≤ (R9 j).length) → (k ≤ ops.length) → ((pst (R9 j) ops k).1 ≤ i) → (∀ t, ops[k]? = some t → i ≤ plN t) → (ex 53 = mO ad lim 0 ops.length cmp ls.length lsz (((pst (R9 j) ops k).2 ++ sl (R9 j) (pst (R9 j) ops k).1 i).length)) → (MRows G ex R9 fz fy) → (MOps G ex ops fk fp fs) → (MMade G ex ls mk mp) → (MRes G ex ((pst (R9 j) ops k).2 ++ sl (R9 j) (pst (R9 j) ops k).1 i) fr) → (MWrk G ex fq w1 w2 fd) → (Fr ex ev (fun j => 53 ≤ j ∧ j < 66)) → V p l E rmX6_patch s m args below meth c G A 5 (MQ below (Qg G N ad A (fun v e2 => (ptE R9 ops (j : Int) ≠ 0 → v = some (.int (iI 0)) ∧ MdlAt G ad e2 lim (ptE R9 ops (j : Int) : Nat) R9 ops ls lsz rs9) ∧ (ptE R9 ops (j : Int) = 0 → v = some (.int (iI ((pres (R9 (j : Int).toNat) ops).length : Int))) ∧ MdlAt G ad e2 lim 0 R9 ops ls lsz (pres (R9 (j : Int).toNat) ops)) ∧ Fr e2 ev (fun j => 53 ≤ j ∧ j < 66))) args s 0 0 A) N ad ex 0 0 38 [(0, .ref (ad 53)), (1, .int (iI (j : Int))), (2, .int (iI (k : Int))), (3, .int (iI (i : Int)))] [] := by
        intro n9
        induction n9 with
        | zero =>
          intro i k fr ex hm9
          exact absurd hm9 (Nat.not_lt_zero _)
        | succ n9 ih =>
          intro i k fr ex hm9 hi hk htk hnx k53 m1 m2 m3 m4 m5 hF
          refine n_iload_n C dX6_patch_38 3 rfl rfl ?_
          refine n_aload_n C dX6_patch_39 0 rfl rfl ?_
          refine n_get (k9 := 2) C dX6_patch_40 (by omega) k53 hX6_patch_X6 rfl (by decide) kX6_patch_7 rfl ?_
          refine n_iload_n C dX6_patch_43 1 rfl rfl ?_
          refine n_iald (j := j) C dX6_patch_44 (by omega) m1.1 (by omega) (by omega) (by omega) ?_
          refine n_topI (y := (iI ((R9 j).length : Int))) (zj) ?_
          refine n_icmp_gt C dX6_patch_45 (by decide) (by omega) (by omega) (by omega) (by omega) (tgt := 137) (fun c9 => absurd c9 (by omega)) (fun _ => ?_)
          refine n_iconst C dX6_patch_48 ?_
          refine n_istore (lv' := [(0, .ref (ad 53)), (1, .int (iI (j : Int))), (2, .int (iI (k : Int))), (3, .int (iI (i : Int))), (4, .int (iI 0))]) C dX6_patch_49 (by decide) rfl ?_
          have loopi : ∀ (n9 : Nat) (k : Nat) (bb : Bool) (fr : Nat → Int32) (ex : Nat → va_E), ops.length + 1 - k < n9 → (k ≤ ops.length) → ((pst (R9 j) ops k).1 ≤ i + 1) → (bb = decide ((pst (R9 j) ops k).1 = i + 1)) → (∀ t, ops[k]? = some t → i ≤ plN t) → (ex 53 = mO ad lim 0 ops.length cmp ls.length lsz (((pst (R9 j) ops k).2 ++ sl (R9 j) (pst (R9 j) ops k).1 i).length)) → (MRows G ex R9 fz fy) → (MOps G ex ops fk fp fs) → (MMade G ex ls mk mp) → (MRes G ex ((pst (R9 j) ops k).2 ++ sl (R9 j) (pst (R9 j) ops k).1 i) fr) → (MWrk G ex fq w1 w2 fd) → (Fr ex ev (fun j => 53 ≤ j ∧ j < 66)) → V p l E rmX6_patch s m args below meth c G A 5 (MQ below (Qg G N ad A (fun v e2 => (ptE R9 ops (j : Int) ≠ 0 → v = some (.int (iI 0)) ∧ MdlAt G ad e2 lim (ptE R9 ops (j : Int) : Nat) R9 ops ls lsz rs9) ∧ (ptE R9 ops (j : Int) = 0 → v = some (.int (iI ((pres (R9 (j : Int).toNat) ops).length : Int))) ∧ MdlAt G ad e2 lim 0 R9 ops ls lsz (pres (R9 (j : Int).toNat) ops)) ∧ Fr e2 ev (fun j => 53 ≤ j ∧ j < 66))) args s 0 0 A) N ad ex 0 0 51 [(0, .ref (ad 53)), (1, .int (iI (j : Int))), (2, .int (iI (k : Int))), (3, .int (iI (i : Int))), (4, .int (bI bb))] [] := by
            intro n9
            induction n9 with
            | zero =>
              intro k bb fr ex hm9
              exact absurd hm9 (Nat.not_lt_zero _)
            | succ n9 ihi =>
              intro k bb fr ex hm9 hk htk hbb hnx k53 m1 m2 m3 m4 m5 hF
              obtain ⟨ha1, ha2⟩ := pst_ok (xs := R9 j) k hk (fun j9 t _ => hall j9 t)
              have hrl : ((pst (R9 j) ops k).2 ++ sl (R9 j) (pst (R9 j) ops k).1 i).length < 128 := by rw [List.length_append, sl_len (by omega)]; omega
              refine n_iload_n C dX6_patch_51 2 rfl rfl ?_
              refine n_aload_n C dX6_patch_52 0 rfl rfl ?_
              refine n_get (k9 := 4) C dX6_patch_53 (by omega) k53 hX6_patch_X6 rfl (by decide) kX6_patch_65 rfl ?_
              refine n_icmp_ge C dX6_patch_56 (by decide) (by omega) (by omega) (by omega) (by omega) (tgt := 101) (fun c3 => ?_) (fun c3 => ?_)
              · have hn2 : ∀ t, ops[k]? = some t → i + 1 ≤ plN t := (fun t9 ht9 => absurd (List.getElem?_eq_some_iff.mp ht9).1 (by omega))
                refine n_iload_n C dX6_patch_101 3 rfl rfl ?_
                refine n_aload_n C dX6_patch_102 0 rfl rfl ?_
                refine n_get (k9 := 2) C dX6_patch_103 (by omega) k53 hX6_patch_X6 rfl (by decide) kX6_patch_7 rfl ?_
                refine n_iload_n C dX6_patch_106 1 rfl rfl ?_
                refine n_iald (j := j) C dX6_patch_107 (by omega) m1.1 (by omega) (by omega) (by omega) ?_
                refine n_topI (y := (iI ((R9 j).length : Int))) (zj) ?_
                refine n_icmp_ge C dX6_patch_108 (by decide) (by omega) (by omega) (by omega) (by omega) (tgt := 131) (fun c6 => ?_) (fun c6 => ?_)
                · obtain rfl : i = (R9 j).length := by omega
                  have hkl : k = ops.length := by
                    rcases Nat.lt_or_ge k ops.length with h | h
                    · obtain ⟨t9, ht9⟩ := some_of_lt h
                      have h1 := hn2 t9 ht9
                      have h2 := (chk_0 (trb_0 (hall k t9 ht9)).1).2.2.2.2.1
                      have h3 := insN_le t9
                      omega
                    · omega
                  refine n_iinc (lv' := [(0, .ref (ad 53)), (1, .int (iI (j : Int))), (2, .int (iI (k : Int))), (3, .int (iI (((R9 j).length : Int) + 1))), (4, .int (bI bb))]) C dX6_patch_131 3 rfl (by decide) rfl ?_
                  refine n_goto (tgt := 38) C dX6_patch_134 (by decide) ?_
                  refine n_iload_n C dX6_patch_38 3 rfl rfl ?_
                  refine n_aload_n C dX6_patch_39 0 rfl rfl ?_
                  refine n_get (k9 := 2) C dX6_patch_40 (by omega) k53 hX6_patch_X6 rfl (by decide) kX6_patch_7 rfl ?_
                  refine n_iload_n C dX6_patch_43 1 rfl rfl ?_
                  refine n_iald (j := j) C dX6_patch_44 (by omega) m1.1 (by omega) (by omega) (by omega) ?_
                  refine n_topI (y := (iI ((R9 j).length : Int))) (zj) ?_
                  refine n_icmp_gt C dX6_patch_45 (by decide) (by omega) (by omega) (by omega) (by omega) (tgt := 137) (fun _ => ?_) (fun c9 => absurd c9 (by omega))
                  refine n_aload_n C dX6_patch_137 0 rfl rfl ?_
                  refine n_get (k9 := 13) C dX6_patch_138 (by omega) k53 hX6_patch_X6 rfl (by decide) kX6_patch_90 rfl ?_
                  have hpr : ((pst (R9 j) ops k).2 ++ sl (R9 j) (pst (R9 j) ops k).1 (R9 j).length) = pres (R9 j) ops := by rw [hkl]; rfl
                  rw [hpr] at k53 m4
                  exact n_iret C hr dX6_patch_141 (⟨fun h => absurd hcc h, fun _ => ⟨by rw [hpr, Int.toNat_natCast], cmp, _, _, _, _, _, _, _, _, _, _, _, _, ⟨hli1, hli2, hlsz, hcmp⟩, by rw [Int.toNat_natCast]; exact k53, m1, m2, m3, by rw [Int.toNat_natCast]; exact m4, m5⟩, hF⟩)
                · refine n_iload C dX6_patch_111 4 rfl ?_
                  refine n_if_neB C dX6_patch_113 (by decide) (tgt := 131) (fun c7 => ?_) (fun c7 => ?_)
                  · have hd9 : (pst (R9 j) ops k).1 = i + 1 := by rw [hbb] at c7; exact of_decide_eq_true c7
                    have hre : ((pst (R9 j) ops k).2 ++ sl (R9 j) (pst (R9 j) ops k).1 (i + 1)) = ((pst (R9 j) ops k).2 ++ sl (R9 j) (pst (R9 j) ops k).1 i) := by rw [sl_none (by omega), sl_none (by omega)]
                    rw [← hre] at k53 m4
                    refine n_iinc (lv' := [(0, .ref (ad 53)), (1, .int (iI (j : Int))), (2, .int (iI (k : Int))), (3, .int (iI ((i : Int) + 1))), (4, .int (bI bb))]) C dX6_patch_131 3 rfl (by decide) rfl ?_
                    refine n_goto (tgt := 38) C dX6_patch_134 (by decide) ?_
                    refine n_sub (lv2 := [(0, .ref (ad 53)), (1, .int (iI (j : Int))), (2, .int (iI (k : Int))), (3, .int (iI ((i : Int) + 1)))]) [0, 1, 2, 3] rfl ?_
                    refine n_lv (lv2 := [(0, .ref (ad 53)), (1, .int (iI (j : Int))), (2, .int (iI (k : Int))), (3, .int (iI ((i + 1 : Nat) : Int)))]) (by simp) ?_
                    exact ih (i + 1) k fr ex (by omega) (by omega) hk (by omega) hn2 k53 m1 m2 m3 m4 m5 hF
                  · have hd9 : ¬ (pst (R9 j) ops k).1 = i + 1 := by rw [hbb] at c7; exact of_decide_eq_false c7
                    have hg9 := yj i (by omega)
                    refine n_aload_n C dX6_patch_116 0 rfl rfl ?_
                    refine n_aload_n C dX6_patch_117 0 rfl rfl ?_
                    refine n_get (k9 := 3) C dX6_patch_118 (by omega) k53 hX6_patch_X6 rfl (by decide) kX6_patch_13 rfl ?_
                    refine n_bipush C dX6_patch_121 (by decide) ?_
                    refine n_iload_n C dX6_patch_123 1 rfl rfl ?_
                    refine n_imul C dX6_patch_124 ?_
                    refine n_iload_n C dX6_patch_125 3 rfl rfl ?_
                    refine n_iadd C dX6_patch_126 ?_
                    refine n_iald (j := 20 * j + i) C dX6_patch_127 (by omega) m1.2.1 (by omega) (by omega) (by omega) ?_
                    refine n_callV (rest := []) C dX6_patch_128 (TX6_take l hN k53 m4 hrl) (cwV 1 C.2.2.2.2.1 gX6_patch_X6_take rfl rfl rfl cdX6_take ⟨Nat.le_of_ble_eq_true rfl, Nat.le_of_ble_eq_true rfl⟩) (by omega) k53 rfl rfl rfl (Nat.le_of_ble_eq_true rfl) ⟨Nat.le_of_ble_eq_true rfl, Nat.le_of_ble_eq_true rfl⟩ ?_
                    rintro _ e2 ⟨rfl, k53, ⟨fr9, m4⟩, hF9⟩
                    refine n_pc (pc2 := 131) rfl (n_st (st2 := []) rfl ?_)
                    have m1 := m1.fr hF9 (by omega) (by omega)
                    have m2 := m2.fr hF9 (by omega) (by omega) (by omega)
                    have m3 := m3.fr hF9 (by omega) (by omega)
                    have m5 := m5.fr hF9 (by omega) (by omega) (by omega) (by omega)
                    have hre : ((pst (R9 j) ops k).2 ++ sl (R9 j) (pst (R9 j) ops k).1 i) ++ [fy (20 * j + i)] = ((pst (R9 j) ops k).2 ++ sl (R9 j) (pst (R9 j) ops k).1 (i + 1)) := by rw [List.append_assoc, ← sl_succ (by omega) hg9]
                    have hrn : ((pst (R9 j) ops k).2 ++ sl (R9 j) (pst (R9 j) ops k).1 (i + 1)).length = ((pst (R9 j) ops k).2 ++ sl (R9 j) (pst (R9 j) ops k).1 i).length + 1 := by rw [← hre, List.length_append (bs := [fy (20 * j + i)])]; rfl
                    rw [hre] at m4
                    refine n_iinc (lv' := [(0, .ref (ad 53)), (1, .int (iI (j : Int))), (2, .int (iI (k : Int))), (3, .int (iI ((i : Int) + 1))), (4, .int (bI bb))]) C dX6_patch_131 3 rfl (by decide) rfl ?_
                    refine n_goto (tgt := 38) C dX6_patch_134 (by decide) ?_
                    refine n_sub (lv2 := [(0, .ref (ad 53)), (1, .int (iI (j : Int))), (2, .int (iI (k : Int))), (3, .int (iI ((i : Int) + 1)))]) [0, 1, 2, 3] rfl ?_
                    refine n_lv (lv2 := [(0, .ref (ad 53)), (1, .int (iI (j : Int))), (2, .int (iI (k : Int))), (3, .int (iI ((i + 1 : Nat) : Int)))]) (by simp) ?_
                    exact ih (i + 1) k fr9 e2 (by omega) (by omega) hk (by omega) hn2 (by rw [hrn]; exact k53) m1 m2 m3 m4 m5 (fun j9 hj9 => (hF9 j9 (by omega)).trans (hF j9 hj9))
              · obtain ⟨t, ht⟩ := some_of_lt (xs := ops) (j := k) (by omega)
                have hti : t = (fk k, fp k, fs k) := Option.some.inj (ht.symm.trans (m2.2.2.2.1 k (by omega)))
                have hc := (trb_0 (hall k t ht)).1
                have efp : fp k = iI (plN t : Int) := by rw [← plN_p hc, hti]
                have efk : fk k = iI (insN t : Int) := by rw [← insN_k hc, hti]
                have efs : fs k = t.2.2 := by rw [hti]
                obtain ⟨hkd, -, -, htp, hpl, -⟩ := chk_0 hc
                have hil := insN_le t
                have hs := pst_s (xs := R9 j) ht
                have hn0 := hnx t ht
                refine n_aload_n C dX6_patch_59 0 rfl rfl ?_
                refine n_get (k9 := 6) C dX6_patch_60 (by omega) k53 hX6_patch_X6 rfl (by decide) kX6_patch_19 rfl ?_
                refine n_iload_n C dX6_patch_63 2 rfl rfl ?_
                refine n_iald (j := k) C dX6_patch_64 (by omega) m2.2.1 (by omega) (by omega) (by omega) ?_
                refine n_topI (y := (iI (plN t : Int))) (efp) ?_
                refine n_iload_n C dX6_patch_65 3 rfl rfl ?_
                refine n_icmp_ne C dX6_patch_66 (by decide) (by omega) (by omega) (by omega) (by omega) (tgt := 101) (fun c4 => ?_) (fun c4 => ?_)
                · have hn2 : ∀ t, ops[k]? = some t → i + 1 ≤ plN t := (fun t9 ht9 => by
                    obtain rfl : t = t9 := Option.some.inj (ht.symm.trans ht9)
                    omega)
                  refine n_iload_n C dX6_patch_101 3 rfl rfl ?_
                  refine n_aload_n C dX6_patch_102 0 rfl rfl ?_
                  refine n_get (k9 := 2) C dX6_patch_103 (by omega) k53 hX6_patch_X6 rfl (by decide) kX6_patch_7 rfl ?_
                  refine n_iload_n C dX6_patch_106 1 rfl rfl ?_
                  refine n_iald (j := j) C dX6_patch_107 (by omega) m1.1 (by omega) (by omega) (by omega) ?_
                  refine n_topI (y := (iI ((R9 j).length : Int))) (zj) ?_
                  refine n_icmp_ge C dX6_patch_108 (by decide) (by omega) (by omega) (by omega) (by omega) (tgt := 131) (fun c6 => ?_) (fun c6 => ?_)
                  · obtain rfl : i = (R9 j).length := by omega
                    have hkl : k = ops.length := by
                      rcases Nat.lt_or_ge k ops.length with h | h
                      · obtain ⟨t9, ht9⟩ := some_of_lt h
                        have h1 := hn2 t9 ht9
                        have h2 := (chk_0 (trb_0 (hall k t9 ht9)).1).2.2.2.2.1
                        have h3 := insN_le t9
                        omega
                      · omega
                    refine n_iinc (lv' := [(0, .ref (ad 53)), (1, .int (iI (j : Int))), (2, .int (iI (k : Int))), (3, .int (iI (((R9 j).length : Int) + 1))), (4, .int (bI bb))]) C dX6_patch_131 3 rfl (by decide) rfl ?_
                    refine n_goto (tgt := 38) C dX6_patch_134 (by decide) ?_
                    refine n_iload_n C dX6_patch_38 3 rfl rfl ?_
                    refine n_aload_n C dX6_patch_39 0 rfl rfl ?_
                    refine n_get (k9 := 2) C dX6_patch_40 (by omega) k53 hX6_patch_X6 rfl (by decide) kX6_patch_7 rfl ?_
                    refine n_iload_n C dX6_patch_43 1 rfl rfl ?_
                    refine n_iald (j := j) C dX6_patch_44 (by omega) m1.1 (by omega) (by omega) (by omega) ?_
                    refine n_topI (y := (iI ((R9 j).length : Int))) (zj) ?_
                    refine n_icmp_gt C dX6_patch_45 (by decide) (by omega) (by omega) (by omega) (by omega) (tgt := 137) (fun _ => ?_) (fun c9 => absurd c9 (by omega))
                    refine n_aload_n C dX6_patch_137 0 rfl rfl ?_
                    refine n_get (k9 := 13) C dX6_patch_138 (by omega) k53 hX6_patch_X6 rfl (by decide) kX6_patch_90 rfl ?_
                    have hpr : ((pst (R9 j) ops k).2 ++ sl (R9 j) (pst (R9 j) ops k).1 (R9 j).length) = pres (R9 j) ops := by rw [hkl]; rfl
                    rw [hpr] at k53 m4
                    exact n_iret C hr dX6_patch_141 (⟨fun h => absurd hcc h, fun _ => ⟨by rw [hpr, Int.toNat_natCast], cmp, _, _, _, _, _, _, _, _, _, _, _, _, ⟨hli1, hli2, hlsz, hcmp⟩, by rw [Int.toNat_natCast]; exact k53, m1, m2, m3, by rw [Int.toNat_natCast]; exact m4, m5⟩, hF⟩)
                  · refine n_iload C dX6_patch_111 4 rfl ?_
                    refine n_if_neB C dX6_patch_113 (by decide) (tgt := 131) (fun c7 => ?_) (fun c7 => ?_)
                    · have hd9 : (pst (R9 j) ops k).1 = i + 1 := by rw [hbb] at c7; exact of_decide_eq_true c7
                      have hre : ((pst (R9 j) ops k).2 ++ sl (R9 j) (pst (R9 j) ops k).1 (i + 1)) = ((pst (R9 j) ops k).2 ++ sl (R9 j) (pst (R9 j) ops k).1 i) := by rw [sl_none (by omega), sl_none (by omega)]
                      rw [← hre] at k53 m4
                      refine n_iinc (lv' := [(0, .ref (ad 53)), (1, .int (iI (j : Int))), (2, .int (iI (k : Int))), (3, .int (iI ((i : Int) + 1))), (4, .int (bI bb))]) C dX6_patch_131 3 rfl (by decide) rfl ?_
                      refine n_goto (tgt := 38) C dX6_patch_134 (by decide) ?_
                      refine n_sub (lv2 := [(0, .ref (ad 53)), (1, .int (iI (j : Int))), (2, .int (iI (k : Int))), (3, .int (iI ((i : Int) + 1)))]) [0, 1, 2, 3] rfl ?_
                      refine n_lv (lv2 := [(0, .ref (ad 53)), (1, .int (iI (j : Int))), (2, .int (iI (k : Int))), (3, .int (iI ((i + 1 : Nat) : Int)))]) (by simp) ?_
                      exact ih (i + 1) k fr ex (by omega) (by omega) hk (by omega) hn2 k53 m1 m2 m3 m4 m5 hF
                    · have hd9 : ¬ (pst (R9 j) ops k).1 = i + 1 := by rw [hbb] at c7; exact of_decide_eq_false c7
                      have hg9 := yj i (by omega)
                      refine n_aload_n C dX6_patch_116 0 rfl rfl ?_
                      refine n_aload_n C dX6_patch_117 0 rfl rfl ?_
                      refine n_get (k9 := 3) C dX6_patch_118 (by omega) k53 hX6_patch_X6 rfl (by decide) kX6_patch_13 rfl ?_
                      refine n_bipush C dX6_patch_121 (by decide) ?_
                      refine n_iload_n C dX6_patch_123 1 rfl rfl ?_
                      refine n_imul C dX6_patch_124 ?_
                      refine n_iload_n C dX6_patch_125 3 rfl rfl ?_
                      refine n_iadd C dX6_patch_126 ?_
                      refine n_iald (j := 20 * j + i) C dX6_patch_127 (by omega) m1.2.1 (by omega) (by omega) (by omega) ?_
                      refine n_callV (rest := []) C dX6_patch_128 (TX6_take l hN k53 m4 hrl) (cwV 1 C.2.2.2.2.1 gX6_patch_X6_take rfl rfl rfl cdX6_take ⟨Nat.le_of_ble_eq_true rfl, Nat.le_of_ble_eq_true rfl⟩) (by omega) k53 rfl rfl rfl (Nat.le_of_ble_eq_true rfl) ⟨Nat.le_of_ble_eq_true rfl, Nat.le_of_ble_eq_true rfl⟩ ?_
                      rintro _ e2 ⟨rfl, k53, ⟨fr9, m4⟩, hF9⟩
                      refine n_pc (pc2 := 131) rfl (n_st (st2 := []) rfl ?_)
                      have m1 := m1.fr hF9 (by omega) (by omega)
                      have m2 := m2.fr hF9 (by omega) (by omega) (by omega)
                      have m3 := m3.fr hF9 (by omega) (by omega)
                      have m5 := m5.fr hF9 (by omega) (by omega) (by omega) (by omega)
                      have hre : ((pst (R9 j) ops k).2 ++ sl (R9 j) (pst (R9 j) ops k).1 i) ++ [fy (20 * j + i)] = ((pst (R9 j) ops k).2 ++ sl (R9 j) (pst (R9 j) ops k).1 (i + 1)) := by rw [List.append_assoc, ← sl_succ (by omega) hg9]
                      have hrn : ((pst (R9 j) ops k).2 ++ sl (R9 j) (pst (R9 j) ops k).1 (i + 1)).length = ((pst (R9 j) ops k).2 ++ sl (R9 j) (pst (R9 j) ops k).1 i).length + 1 := by rw [← hre, List.length_append (bs := [fy (20 * j + i)])]; rfl
                      rw [hre] at m4
                      refine n_iinc (lv' := [(0, .ref (ad 53)), (1, .int (iI (j : Int))), (2, .int (iI (k : Int))), (3, .int (iI ((i : Int) + 1))), (4, .int (bI bb))]) C dX6_patch_131 3 rfl (by decide) rfl ?_
                      refine n_goto (tgt := 38) C dX6_patch_134 (by decide) ?_
                      refine n_sub (lv2 := [(0, .ref (ad 53)), (1, .int (iI (j : Int))), (2, .int (iI (k : Int))), (3, .int (iI ((i : Int) + 1)))]) [0, 1, 2, 3] rfl ?_
                      refine n_lv (lv2 := [(0, .ref (ad 53)), (1, .int (iI (j : Int))), (2, .int (iI (k : Int))), (3, .int (iI ((i + 1 : Nat) : Int)))]) (by simp) ?_
                      exact ih (i + 1) k fr9 e2 (by omega) (by omega) hk (by omega) hn2 (by rw [hrn]; exact k53) m1 m2 m3 m4 m5 (fun j9 hj9 => (hF9 j9 (by omega)).trans (hF j9 hj9))
                · have hpi : plN t = i := by omega
                  refine n_aload_n C dX6_patch_69 0 rfl rfl ?_
                  refine n_get (k9 := 5) C dX6_patch_70 (by omega) k53 hX6_patch_X6 rfl (by decide) kX6_patch_16 rfl ?_
                  refine n_iload_n C dX6_patch_73 2 rfl rfl ?_
                  refine n_iald (j := k) C dX6_patch_74 (by omega) m2.1 (by omega) (by omega) (by omega) ?_
                  refine n_topI (y := (iI (insN t : Int))) (efk) ?_
                  refine n_iconst C dX6_patch_75 ?_
                  refine n_icmp_ne C dX6_patch_76 (by decide) (by omega) (by omega) (by omega) (by omega) (tgt := 92) (fun c5 => ?_) (fun c5 => ?_)
                  · have hk0 : t.1 = iI 0 := hkd.resolve_right (fun h => by have := insN_1 h; omega)
                    have hs9 : pst (R9 j) ops (k + 1) = (i + 1, (pst (R9 j) ops k).2 ++ sl (R9 j) (pst (R9 j) ops k).1 i) := by rw [hs, pstep_0 hk0, hpi]
                    have hre : ((pst (R9 j) ops (k + 1)).2 ++ sl (R9 j) (pst (R9 j) ops (k + 1)).1 i) = ((pst (R9 j) ops k).2 ++ sl (R9 j) (pst (R9 j) ops k).1 i) := by rw [hs9]; show _ ++ _ ++ sl (R9 j) (i + 1) i = _; rw [sl_none (a := i + 1) (b := i) (by omega), List.append_nil]
                    rw [← hre] at k53 m4
                    refine n_iconst C dX6_patch_92 ?_
                    refine n_istore (lv' := [(0, .ref (ad 53)), (1, .int (iI (j : Int))), (2, .int (iI (k : Int))), (3, .int (iI (i : Int))), (4, .int (iI 1))]) C dX6_patch_93 (by decide) rfl ?_
                    refine n_lv (lv2 := [(0, .ref (ad 53)), (1, .int (iI (j : Int))), (2, .int (iI (k : Int))), (3, .int (iI (i : Int))), (4, .int (bI true))]) rfl ?_
                    refine n_iinc (lv' := [(0, .ref (ad 53)), (1, .int (iI (j : Int))), (2, .int (iI ((k : Int) + 1))), (3, .int (iI (i : Int))), (4, .int (bI true))]) C dX6_patch_95 2 rfl (by decide) rfl ?_
                    refine n_goto (tgt := 51) C dX6_patch_98 (by decide) ?_
                    refine n_lv (lv2 := [(0, .ref (ad 53)), (1, .int (iI (j : Int))), (2, .int (iI ((k + 1 : Nat) : Int))), (3, .int (iI (i : Int))), (4, .int (bI true))]) (by simp) ?_
                    exact ihi (k + 1) true fr ex (by omega) (by omega) (by rw [hs9]; exact Nat.le_refl _) (by rw [hs9, decide_eq_true rfl]) (fun t9 ht9 => by
                      have h1 := (chk_0 (trb_0 (hall (k + 1) t9 ht9)).1).2.2.2.1
                      rw [hs9] at h1
                      have h2 : i ≤ (i + 1, (pst (R9 j) ops k).2 ++ sl (R9 j) (pst (R9 j) ops k).1 i).1 := by omega
                      exact Nat.le_trans h2 h1) k53 m1 m2 m3 m4 m5 hF
                  · have hk1 : t.1 = iI 1 := hkd.resolve_left (fun h => by have := insN_0 h; omega)
                    have hs9 : pst (R9 j) ops (k + 1) = (i, (pst (R9 j) ops k).2 ++ sl (R9 j) (pst (R9 j) ops k).1 i ++ [fs k]) := by rw [hs, pstep_1 hk1, hpi, efs]
                    refine n_aload_n C dX6_patch_79 0 rfl rfl ?_
                    refine n_aload_n C dX6_patch_80 0 rfl rfl ?_
                    refine n_get (k9 := 7) C dX6_patch_81 (by omega) k53 hX6_patch_X6 rfl (by decide) kX6_patch_22 rfl ?_
                    refine n_iload_n C dX6_patch_84 2 rfl rfl ?_
                    refine n_iald (j := k) C dX6_patch_85 (by omega) m2.2.2.1 (by omega) (by omega) (by omega) ?_
                    refine n_callV (rest := []) C dX6_patch_86 (TX6_take l hN k53 m4 hrl) (cwV 1 C.2.2.2.2.1 gX6_patch_X6_take rfl rfl rfl cdX6_take ⟨Nat.le_of_ble_eq_true rfl, Nat.le_of_ble_eq_true rfl⟩) (by omega) k53 rfl rfl rfl (Nat.le_of_ble_eq_true rfl) ⟨Nat.le_of_ble_eq_true rfl, Nat.le_of_ble_eq_true rfl⟩ ?_
                    rintro _ e2 ⟨rfl, k53, ⟨fr9, m4⟩, hF9⟩
                    refine n_pc (pc2 := 89) rfl (n_st (st2 := []) rfl ?_)
                    have m1 := m1.fr hF9 (by omega) (by omega)
                    have m2 := m2.fr hF9 (by omega) (by omega) (by omega)
                    have m3 := m3.fr hF9 (by omega) (by omega)
                    have m5 := m5.fr hF9 (by omega) (by omega) (by omega) (by omega)
                    have hre : ((pst (R9 j) ops (k + 1)).2 ++ sl (R9 j) (pst (R9 j) ops (k + 1)).1 i) = ((pst (R9 j) ops k).2 ++ sl (R9 j) (pst (R9 j) ops k).1 i) ++ [fs k] := by rw [hs9]; show _ ++ sl (R9 j) i i = _; rw [sl_none (Nat.le_refl _), List.append_nil]
                    have hrn : ((pst (R9 j) ops (k + 1)).2 ++ sl (R9 j) (pst (R9 j) ops (k + 1)).1 i).length = ((pst (R9 j) ops k).2 ++ sl (R9 j) (pst (R9 j) ops k).1 i).length + 1 := by rw [hre, List.length_append (bs := [fs k])]; rfl
                    rw [← hre] at m4
                    refine n_goto (tgt := 95) C dX6_patch_89 (by decide) ?_
                    refine n_iinc (lv' := [(0, .ref (ad 53)), (1, .int (iI (j : Int))), (2, .int (iI ((k : Int) + 1))), (3, .int (iI (i : Int))), (4, .int (bI bb))]) C dX6_patch_95 2 rfl (by decide) rfl ?_
                    refine n_goto (tgt := 51) C dX6_patch_98 (by decide) ?_
                    refine n_lv (lv2 := [(0, .ref (ad 53)), (1, .int (iI (j : Int))), (2, .int (iI ((k + 1 : Nat) : Int))), (3, .int (iI (i : Int))), (4, .int (bI bb))]) (by simp) ?_
                    exact ihi (k + 1) bb fr9 e2 (by omega) (by omega) (by rw [hs9]; exact Nat.le_succ _) (by rw [hbb, hs9, decide_eq_false (by omega), decide_eq_false (by show ¬ i = i + 1; omega)]) (fun t9 ht9 => by
                      have h1 := (chk_0 (trb_0 (hall (k + 1) t9 ht9)).1).2.2.2.1
                      rw [hs9] at h1
                      have h2 : i ≤ (i, (pst (R9 j) ops k).2 ++ sl (R9 j) (pst (R9 j) ops k).1 i ++ [fs k]).1 := by omega
                      exact Nat.le_trans h2 h1) (by rw [hrn]; exact k53) m1 m2 m3 m4 m5 (fun j9 hj9 => (hF9 j9 (by omega)).trans (hF j9 hj9))
          refine n_lv (lv2 := [(0, .ref (ad 53)), (1, .int (iI (j : Int))), (2, .int (iI (k : Int))), (3, .int (iI (i : Int))), (4, .int (bI false))]) rfl ?_
          exact loopi _ k false fr ex (Nat.lt_succ_self _) hk (by omega) (by rw [decide_eq_false (by omega)]) hnx k53 m1 m2 m3 m4 m5 hF
      exact loop _ 0 0 fr e5 (Nat.lt_succ_self _) (Nat.zero_le _) (Nat.zero_le _) (Nat.zero_le _) (fun _ _ => Nat.zero_le _) (by have k9 := hs6; exact k9) m1 m2 m3 m4 m5 hF0
    · have hcc : ptE R9 ops (j : Int) ≠ 0 := by rw [hcv]; omega
      refine n_iconst C dX6_patch_27 ?_
      exact n_iret C hr dX6_patch_28 (⟨fun _ => ⟨rfl, by rw [hcv]; exact ⟨cmp, _, _, _, _, _, _, _, _, _, _, _, _, ⟨hli1, hli2, hlsz, hcmp⟩, hs2, m1, m2, m3, m4, m5⟩⟩, fun h => absurd h hcc, fun j hj => hP4 j (by omega)⟩)
  · have hcc : ptE R9 ops z = 1 := by unfold ptE; rw [c1]; rfl
    refine n_iconst C dX6_patch_8 ?_
    refine n_goto (tgt := 17) C dX6_patch_9 (by decide) ?_
    refine n_put (k9 := 1) (fs2 := [.int (iI lim), .int (iI 1), .ref (ad 54), .ref (ad 55), .int (iI (ops.length : Int)), .ref (ad 56), .ref (ad 57), .ref (ad 58), .int (bI cmp), .int (iI (ls.length : Int)), .int (iI (lsz : Int)), .ref (ad 59), .ref (ad 60), .int (iI (rs9.length : Int)), .ref (ad 61), .ref (ad 62), .ref (ad 63), .ref (ad 64), .ref (ad 65)]) C dX6_patch_17 (by omega) k53 hX6_patch_X6 tyX6_ok nmX6 rfl (by decide) kX6_patch_50 rfl rfl rfl (Nat.le_of_ble_eq_true rfl) rfl (fun e9 hs10 ho11 => ?_)
    have hP12 : Fr e9 _ (fun j => j = 53) := fun j hj => ho11 j hj
    have m1 := m1.fr hP12 (by omega) (by omega)
    have m2 := m2.fr hP12 (by omega) (by omega) (by omega)
    have m3 := m3.fr hP12 (by omega) (by omega)
    have m4 := m4.fr hP12 (by omega)
    have m5 := m5.fr hP12 (by omega) (by omega) (by omega) (by omega)
    refine n_aload_n C dX6_patch_20 0 rfl rfl ?_
    refine n_get (k9 := 1) C dX6_patch_21 (by omega) hs10 hX6_patch_X6 rfl (by decide) kX6_patch_50 rfl ?_
    refine n_if_le C dX6_patch_24 (by decide) (by omega) (by omega) (tgt := 29) (fun c9 => absurd c9 (by omega)) (fun _ => ?_)
    refine n_iconst C dX6_patch_27 ?_
    exact n_iret C hr dX6_patch_28 (⟨fun _ => ⟨rfl, by rw [hcc]; exact ⟨cmp, _, _, _, _, _, _, _, _, _, _, _, _, ⟨hli1, hli2, hlsz, hcmp⟩, hs10, m1, m2, m3, m4, m5⟩⟩, fun h => absurd h (by rw [hcc]; decide), fun j hj => hP12 j (by omega)⟩)
