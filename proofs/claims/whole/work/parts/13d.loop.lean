theorem and15 (x : Int32) : ∃ j : Nat, j < 16 ∧ x &&& iI 15 = iI (j : Int) := by
  obtain ⟨j, h1, h2⟩ := pk_andE x (m := iI 15) 4 (by decide +kernel)
  exact ⟨j, h1, h2.trans (iI_nI j)⟩
theorem n_end {p : Program} {l : Launch} {E : Env} {s : State} {m : MethodId} {below : List Frame} {meth : Method} {c : Code} {G : GG} {A : Nat → Prop} {N b : Nat} {ad : Nat → Nat} {ev : Nat → va_E} {cells slots pc : Nat} {lv : List (Nat × Value)} {Ts : List Cond} (C : Cx p s m #[Value.ref b] meth c G A 9 code RL Ts) (hr : meth.sig.returnType = ret) (hA : ∀ q, A q → s.heap.size ≤ q) (hd : decode code pc = .ok (.ireturn, 1)) (h1 : cells ≤ 601024) (h2 : slots ≤ 7293000) : V p l E room_1 s m #[Value.ref b] below meth c G A 9 (lw_Z below #[Value.ref b] s) N ad ev cells slots pc lv [.int (iI 1)] :=
  fun H locs ls hP hD hS hl => W.widen h1 h2 (va_forget (fun q hq => hA _ (hS.2.2 q hq)) (lw_ret C.1 C.2.1 hr C.2.2.2.2.2.2.2 hd))

set_option maxHeartbeats 8000000 in
set_option maxRecDepth 100000 in
theorem law_loop {p : Program} (l : Launch) {E : Env} {s : State} {m : MethodId} {below : List Frame} {meth : Method} {c : Code} {G : GG} {A : Nat → Prop} {b L : Nat} {xs : Nat → Int32} {ad : Nat → Nat} (C : Cx p s m #[Value.ref b] meth c G A 9 code RL wsL_law) (hlt : l.stackTraces = false) (hr : meth.sig.returnType = ret) (hX : XB A s s.heap) (hSx : Sx A b L xs s) (hL : L ≤ 2049) (hA : ∀ q, A q → s.heap.size ≤ q) : ∀ (n9 : Nat) (i : Nat) (lim thr : Int) (R9 : Nat → List Int32) (ops : List Tr) (ls : List Op) (lsz : Nat) (rs9 : List Int32) (f : Nat → Int64) (ev : Nat → va_E), L + 6 - i < n9 → 1 ≤ i → i ≤ L + 1 → DeskAt G ad ev lim R9 ops ls lsz rs9 → MdlAt G ad ev lim thr R9 ops ls lsz rs9 → ev 66 = .inl (G.2.2.2.2, 1, .inr (.inl f)) → V p l E room_1 s m #[Value.ref b] below meth c G A 9 (lw_Z below #[Value.ref b] s) 67 ad ev (75 + i) (2225 + 6 * i) 33 [(0, .ref b), (1, .ref (ad 0)), (2, .ref (ad 53)), (3, .ref (ad 66)), (4, .int (iI (i : Int)))] [] := by
  intro n9
  induction n9 with
  | zero =>
    intro i lim thr R9 ops ls lsz rs9 f ev hm9
    exact absurd hm9 (Nat.not_lt_zero _)
  | succ n9 ih =>
    intro i lim thr R9 ops ls lsz rs9 f ev hm9 hi1 hi2 hD hM k66
    obtain ⟨fs0, k0⟩ := hD.obj
    obtain ⟨fs53, k53⟩ := hM.obj
    have hlen := hD.len
    have hcl : 75 + i + 0 ≤ room_1.cells := by show 75 + i + 0 ≤ 601024; omega
    have hsl : 2225 + 6 * i + 0 ≤ room_1.slots := by show 2225 + 6 * i + 0 ≤ 7293000; omega
    have hcl1 : 75 + i + 1 ≤ room_1.cells := by show 75 + i + 1 ≤ 601024; omega
    have hsl6 : 2225 + 6 * i + 6 ≤ room_1.slots := by show 2225 + 6 * i + 6 ≤ 7293000; omega
    refine n_iload C dL_law_33 4 rfl ?_
    refine n_aload_n C dL_law_35 0 rfl rfl ?_
    refine n_slen C hSx dL_law_36 ?_
    refine n_iconst C dL_law_37 ?_
    refine n_isub C dL_law_38 ?_
    refine n_icmp_gt C dL_law_39 (by decide) (by omega) (by omega) (by omega) (by omega) (tgt := 669) (fun c1 => ?_) (fun c1 => ?_)
    · refine n_iconst C dL_law_669 ?_
      exact n_end C hr hA dL_law_670 (by omega) (by omega)
    · obtain ⟨a1, ha1, ha1a, ha1b⟩ := iI_of (xs (i + 1))
      obtain ⟨a2, ha2, ha2a, ha2b⟩ := iI_of (xs (i + 2))
      obtain ⟨a3, ha3, ha3a, ha3b⟩ := iI_of (xs (i + 3))
      refine n_aload_n C dL_law_42 0 rfl rfl ?_
      refine n_iload C dL_law_43 4 rfl ?_
      refine n_sld (j := i) C hSx dL_law_45 (by omega) (by omega) (by omega) ?_
      refine n_bipush C dL_law_46 (by decide) ?_
      refine n_iand C dL_law_48 ?_
      obtain ⟨j, hj, hje⟩ := and15 (xs i)
      refine n_topI (y := (iI (j : Int))) (hje) ?_
      rcases (show j = 0 ∨ j = 1 ∨ j = 2 ∨ j = 3 ∨ j = 4 ∨ j = 5 ∨ j = 6 ∨ j = 7 ∨ j = 8 ∨ j = 9 ∨ j = 10 ∨ j = 11 ∨ j = 12 ∨ j = 13 ∨ j = 14 ∨ j = 15 by omega) with rfl | rfl | rfl | rfl | rfl | rfl | rfl | rfl | rfl | rfl | rfl | rfl | rfl | rfl | rfl | rfl
      · refine n_tswIn (off := 75) (tgt := 124) C dL_law_49 (by decide) (by decide) (by decide) (by decide) (by decide) (by decide) ?_
        obtain ⟨y2, hy2, hya, hyb⟩ := iI_of (xs (i + 2)).toInt16.toInt32
        refine n_aload_n C dL_law_124 1 rfl rfl ?_
        refine n_aload_n C dL_law_125 0 rfl rfl ?_
        refine n_iload C dL_law_126 4 rfl ?_
        refine n_iconst C dL_law_128 ?_
        refine n_iadd C dL_law_129 ?_
        refine n_sld (j := i + 1) C hSx dL_law_130 (by omega) (by omega) (by omega) ?_
        refine n_topI (y := (iI a1)) (ha1) ?_
        refine n_aload_n C dL_law_131 0 rfl rfl ?_
        refine n_iload C dL_law_132 4 rfl ?_
        refine n_iconst C dL_law_134 ?_
        refine n_iadd C dL_law_135 ?_
        refine n_sld (j := i + 2) C hSx dL_law_136 (by omega) (by omega) (by omega) ?_
        refine n_i2sR C dL_law_137 ?_
        refine n_topI (y := (iI y2)) (hy2) ?_
        refine n_callV (rest := []) C dL_law_138 (TX5_feed l (by omega) hD ha1a ha1b hya hyb) (cwV 2 C.2.2.2.2.1 gL_law_X5_feed rfl rfl rfl cdX5_feed ⟨Nat.le_of_ble_eq_true rfl, Nat.le_of_ble_eq_true rfl⟩) (by omega) k0 rfl rfl rfl (Nat.le_of_ble_eq_true rfl) ⟨hcl, hsl⟩ ?_
        rintro _ e1 ⟨rfl, hD, hF1⟩
        refine n_pc (pc2 := 141) rfl (n_st (st2 := [.int (bI (fdB R9 a1 y2))]) rfl ?_)
        have hM := hM.fr hF1 (fun j h1 h2 => by omega)
        have k66 := (hF1 66 (by omega)).trans k66
        have k53 := (hF1 53 (by omega)).trans k53
        refine n_aload_n C dL_law_141 2 rfl rfl ?_
        refine n_aload_n C dL_law_142 0 rfl rfl ?_
        refine n_iload C dL_law_143 4 rfl ?_
        refine n_iconst C dL_law_145 ?_
        refine n_iadd C dL_law_146 ?_
        refine n_sld (j := i + 1) C hSx dL_law_147 (by omega) (by omega) (by omega) ?_
        refine n_topI (y := (iI a1)) (ha1) ?_
        refine n_aload_n C dL_law_148 0 rfl rfl ?_
        refine n_iload C dL_law_149 4 rfl ?_
        refine n_iconst C dL_law_151 ?_
        refine n_iadd C dL_law_152 ?_
        refine n_sld (j := i + 2) C hSx dL_law_153 (by omega) (by omega) (by omega) ?_
        refine n_i2sR C dL_law_154 ?_
        refine n_topI (y := (iI y2)) (hy2) ?_
        refine n_callV (rest := [.int (bI (fdB R9 a1 y2))]) C dL_law_155 (TX6_feed l (by omega) hM ha1a ha1b hya hyb) (cwV 2 C.2.2.2.2.1 gL_law_X6_feed rfl rfl rfl cdX6_feed ⟨Nat.le_of_ble_eq_true rfl, Nat.le_of_ble_eq_true rfl⟩) (by omega) k53 rfl rfl rfl (Nat.le_of_ble_eq_true rfl) ⟨hcl, hsl⟩ ?_
        rintro _ e2 ⟨rfl, hM, hF2⟩
        refine n_pc (pc2 := 158) rfl (n_st (st2 := [.int (bI (fdB R9 a1 y2)), .int (bI (fdB R9 a1 y2))]) rfl ?_)
        have hD := hD.fr hF2 (fun j hj => by omega)
        have k66 := (hF2 66 (by omega)).trans k66
        refine n_icmp_eqR C dL_law_158 (by decide) (tgt := 663) (fun _ => ?_) (fun c9 => absurd c9 (fun h9 => h9 (rfl)))
        refine n_iinc (lv' := [(0, .ref b), (1, .ref (ad 0)), (2, .ref (ad 53)), (3, .ref (ad 66)), (4, .int (iI ((i : Int) + 4)))]) C dL_law_663 4 rfl (by decide) rfl ?_
        refine n_goto (tgt := 33) C dL_law_666 (by decide) ?_
        refine n_sub (lv2 := [(0, .ref b), (1, .ref (ad 0)), (2, .ref (ad 53)), (3, .ref (ad 66)), (4, .int (iI ((i : Int) + 4)))]) [0, 1, 2, 3, 4] rfl ?_
        refine n_lv (lv2 := [(0, .ref b), (1, .ref (ad 0)), (2, .ref (ad 53)), (3, .ref (ad 66)), (4, .int (iI ((i + 4 : Nat) : Int)))]) (by simp) ?_
        refine n_widen (c2 := 75 + (i + 4)) (s2 := 2225 + 6 * (i + 4)) (by omega) (by omega) ?_
        exact ih (i + 4) _ _ _ _ _ _ _ f e2 (by omega) (by omega) (by omega) hD hM k66
      · refine n_tswIn (off := 114) (tgt := 163) C dL_law_49 (by decide) (by decide) (by decide) (by decide) (by decide) (by decide) ?_
        refine n_aload_n C dL_law_163 1 rfl rfl ?_
        refine n_aload_n C dL_law_164 0 rfl rfl ?_
        refine n_iload C dL_law_165 4 rfl ?_
        refine n_iconst C dL_law_167 ?_
        refine n_iadd C dL_law_168 ?_
        refine n_sld (j := i + 1) C hSx dL_law_169 (by omega) (by omega) (by omega) ?_
        refine n_topI (y := (iI a1)) (ha1) ?_
        refine n_callV (rest := []) C dL_law_170 (TX5_clear l (by omega) hD ha1a ha1b) (cwV 1 C.2.2.2.2.1 gL_law_X5_clear rfl rfl rfl cdX5_clear ⟨Nat.le_of_ble_eq_true rfl, Nat.le_of_ble_eq_true rfl⟩) (by omega) k0 rfl rfl rfl (Nat.le_of_ble_eq_true rfl) ⟨hcl, hsl⟩ ?_
        rintro _ e1 ⟨rfl, hD, hF1⟩
        refine n_pc (pc2 := 173) rfl (n_st (st2 := [.int (bI (isR a1))]) rfl ?_)
        have hM := hM.fr hF1 (fun j h1 h2 => by omega)
        have k66 := (hF1 66 (by omega)).trans k66
        have k53 := (hF1 53 (by omega)).trans k53
        refine n_aload_n C dL_law_173 2 rfl rfl ?_
        refine n_aload_n C dL_law_174 0 rfl rfl ?_
        refine n_iload C dL_law_175 4 rfl ?_
        refine n_iconst C dL_law_177 ?_
        refine n_iadd C dL_law_178 ?_
        refine n_sld (j := i + 1) C hSx dL_law_179 (by omega) (by omega) (by omega) ?_
        refine n_topI (y := (iI a1)) (ha1) ?_
        refine n_callV (rest := [.int (bI (isR a1))]) C dL_law_180 (TX6_clear l (by omega) hM ha1a ha1b) (cwV 1 C.2.2.2.2.1 gL_law_X6_clear rfl rfl rfl cdX6_clear ⟨Nat.le_of_ble_eq_true rfl, Nat.le_of_ble_eq_true rfl⟩) (by omega) k53 rfl rfl rfl (Nat.le_of_ble_eq_true rfl) ⟨hcl, hsl⟩ ?_
        rintro _ e2 ⟨rfl, hM, hF2⟩
        refine n_pc (pc2 := 183) rfl (n_st (st2 := [.int (bI (isR a1)), .int (bI (isR a1))]) rfl ?_)
        have hD := hD.fr hF2 (fun j hj => by omega)
        have k66 := (hF2 66 (by omega)).trans k66
        refine n_icmp_eqR C dL_law_183 (by decide) (tgt := 663) (fun _ => ?_) (fun c9 => absurd c9 (fun h9 => h9 (rfl)))
        refine n_iinc (lv' := [(0, .ref b), (1, .ref (ad 0)), (2, .ref (ad 53)), (3, .ref (ad 66)), (4, .int (iI ((i : Int) + 4)))]) C dL_law_663 4 rfl (by decide) rfl ?_
        refine n_goto (tgt := 33) C dL_law_666 (by decide) ?_
        refine n_sub (lv2 := [(0, .ref b), (1, .ref (ad 0)), (2, .ref (ad 53)), (3, .ref (ad 66)), (4, .int (iI ((i : Int) + 4)))]) [0, 1, 2, 3, 4] rfl ?_
        refine n_lv (lv2 := [(0, .ref b), (1, .ref (ad 0)), (2, .ref (ad 53)), (3, .ref (ad 66)), (4, .int (iI ((i + 4 : Nat) : Int)))]) (by simp) ?_
        refine n_widen (c2 := 75 + (i + 4)) (s2 := 2225 + 6 * (i + 4)) (by omega) (by omega) ?_
        exact ih (i + 4) _ _ _ _ _ _ _ f e2 (by omega) (by omega) (by omega) hD hM k66
      · refine n_tswIn (off := 139) (tgt := 188) C dL_law_49 (by decide) (by decide) (by decide) (by decide) (by decide) (by decide) ?_
        refine n_aload_n C dL_law_188 1 rfl rfl ?_
        refine n_aload_n C dL_law_189 0 rfl rfl ?_
        refine n_iload C dL_law_190 4 rfl ?_
        refine n_iconst C dL_law_192 ?_
        refine n_iadd C dL_law_193 ?_
        refine n_sld (j := i + 1) C hSx dL_law_194 (by omega) (by omega) (by omega) ?_
        refine n_topI (y := (iI a1)) (ha1) ?_
        refine n_callV (rest := []) C dL_law_195 (TX5_size l (by omega) hD ha1a ha1b) (cwV 1 C.2.2.2.2.1 gL_law_X5_size rfl rfl rfl cdX5_size ⟨Nat.le_of_ble_eq_true rfl, Nat.le_of_ble_eq_true rfl⟩) (by omega) k0 rfl rfl rfl (Nat.le_of_ble_eq_true rfl) ⟨hcl, hsl⟩ ?_
        rintro _ _ ⟨rfl, rfl⟩
        refine n_pc (pc2 := 198) rfl (n_st (st2 := [.int (iI (szS R9 a1))]) rfl ?_)
        refine n_aload_n C dL_law_198 2 rfl rfl ?_
        refine n_aload_n C dL_law_199 0 rfl rfl ?_
        refine n_iload C dL_law_200 4 rfl ?_
        refine n_iconst C dL_law_202 ?_
        refine n_iadd C dL_law_203 ?_
        refine n_sld (j := i + 1) C hSx dL_law_204 (by omega) (by omega) (by omega) ?_
        refine n_topI (y := (iI a1)) (ha1) ?_
        refine n_callV (rest := [.int (iI (szS R9 a1))]) C dL_law_205 (TX6_size l (by omega) hM ha1a ha1b) (cwV 1 C.2.2.2.2.1 gL_law_X6_size rfl rfl rfl cdX6_size ⟨Nat.le_of_ble_eq_true rfl, Nat.le_of_ble_eq_true rfl⟩) (by omega) k53 rfl rfl rfl (Nat.le_of_ble_eq_true rfl) ⟨hcl, hsl⟩ ?_
        rintro _ e2 ⟨rfl, hM, hF2⟩
        refine n_pc (pc2 := 208) rfl (n_st (st2 := [.int (iI (szS R9 a1)), .int (iI (szS R9 a1))]) rfl ?_)
        have hD := hD.fr hF2 (fun j hj => by omega)
        have k66 := (hF2 66 (by omega)).trans k66
        refine n_icmp_eqR C dL_law_208 (by decide) (tgt := 663) (fun _ => ?_) (fun c9 => absurd c9 (fun h9 => h9 (rfl)))
        refine n_iinc (lv' := [(0, .ref b), (1, .ref (ad 0)), (2, .ref (ad 53)), (3, .ref (ad 66)), (4, .int (iI ((i : Int) + 4)))]) C dL_law_663 4 rfl (by decide) rfl ?_
        refine n_goto (tgt := 33) C dL_law_666 (by decide) ?_
        refine n_sub (lv2 := [(0, .ref b), (1, .ref (ad 0)), (2, .ref (ad 53)), (3, .ref (ad 66)), (4, .int (iI ((i : Int) + 4)))]) [0, 1, 2, 3, 4] rfl ?_
        refine n_lv (lv2 := [(0, .ref b), (1, .ref (ad 0)), (2, .ref (ad 53)), (3, .ref (ad 66)), (4, .int (iI ((i + 4 : Nat) : Int)))]) (by simp) ?_
        refine n_widen (c2 := 75 + (i + 4)) (s2 := 2225 + 6 * (i + 4)) (by omega) (by omega) ?_
        exact ih (i + 4) _ _ _ _ _ _ _ f e2 (by omega) (by omega) (by omega) hD hM k66
      · refine n_tswIn (off := 164) (tgt := 213) C dL_law_49 (by decide) (by decide) (by decide) (by decide) (by decide) (by decide) ?_
        refine n_aload_n C dL_law_213 1 rfl rfl ?_
        refine n_aload_n C dL_law_214 0 rfl rfl ?_
        refine n_iload C dL_law_215 4 rfl ?_
        refine n_iconst C dL_law_217 ?_
        refine n_iadd C dL_law_218 ?_
        refine n_sld (j := i + 1) C hSx dL_law_219 (by omega) (by omega) (by omega) ?_
        refine n_topI (y := (iI a1)) (ha1) ?_
        refine n_aload_n C dL_law_220 0 rfl rfl ?_
        refine n_iload C dL_law_221 4 rfl ?_
        refine n_iconst C dL_law_223 ?_
        refine n_iadd C dL_law_224 ?_
        refine n_sld (j := i + 2) C hSx dL_law_225 (by omega) (by omega) (by omega) ?_
        refine n_topI (y := (iI a2)) (ha2) ?_
        refine n_callV (rest := []) C dL_law_226 (TX5_symbol l (by omega) hD ha1a ha1b ha2a ha2b) (cwV 2 C.2.2.2.2.1 gL_law_X5_symbol rfl rfl rfl cdX5_symbol ⟨Nat.le_of_ble_eq_true rfl, Nat.le_of_ble_eq_true rfl⟩) (by omega) k0 rfl rfl rfl (Nat.le_of_ble_eq_true rfl) ⟨hcl, hsl⟩ ?_
        rintro _ _ ⟨rfl, rfl⟩
        refine n_pc (pc2 := 229) rfl (n_st (st2 := [.int (syS R9 a1 a2)]) rfl ?_)
        refine n_aload_n C dL_law_229 2 rfl rfl ?_
        refine n_aload_n C dL_law_230 0 rfl rfl ?_
        refine n_iload C dL_law_231 4 rfl ?_
        refine n_iconst C dL_law_233 ?_
        refine n_iadd C dL_law_234 ?_
        refine n_sld (j := i + 1) C hSx dL_law_235 (by omega) (by omega) (by omega) ?_
        refine n_topI (y := (iI a1)) (ha1) ?_
        refine n_aload_n C dL_law_236 0 rfl rfl ?_
        refine n_iload C dL_law_237 4 rfl ?_
        refine n_iconst C dL_law_239 ?_
        refine n_iadd C dL_law_240 ?_
        refine n_sld (j := i + 2) C hSx dL_law_241 (by omega) (by omega) (by omega) ?_
        refine n_topI (y := (iI a2)) (ha2) ?_
        refine n_callV (rest := [.int (syS R9 a1 a2)]) C dL_law_242 (TX6_symbol l (by omega) hM ha1a ha1b ha2a ha2b) (cwV 2 C.2.2.2.2.1 gL_law_X6_symbol rfl rfl rfl cdX6_symbol ⟨Nat.le_of_ble_eq_true rfl, Nat.le_of_ble_eq_true rfl⟩) (by omega) k53 rfl rfl rfl (Nat.le_of_ble_eq_true rfl) ⟨hcl, hsl⟩ ?_
        rintro _ e2 ⟨rfl, hM, hF2⟩
        refine n_pc (pc2 := 245) rfl (n_st (st2 := [.int (syS R9 a1 a2), .int (syS R9 a1 a2)]) rfl ?_)
        have hD := hD.fr hF2 (fun j hj => by omega)
        have k66 := (hF2 66 (by omega)).trans k66
        refine n_icmp_eqR C dL_law_245 (by decide) (tgt := 663) (fun _ => ?_) (fun c9 => absurd c9 (fun h9 => h9 (rfl)))
        refine n_iinc (lv' := [(0, .ref b), (1, .ref (ad 0)), (2, .ref (ad 53)), (3, .ref (ad 66)), (4, .int (iI ((i : Int) + 4)))]) C dL_law_663 4 rfl (by decide) rfl ?_
        refine n_goto (tgt := 33) C dL_law_666 (by decide) ?_
        refine n_sub (lv2 := [(0, .ref b), (1, .ref (ad 0)), (2, .ref (ad 53)), (3, .ref (ad 66)), (4, .int (iI ((i : Int) + 4)))]) [0, 1, 2, 3, 4] rfl ?_
        refine n_lv (lv2 := [(0, .ref b), (1, .ref (ad 0)), (2, .ref (ad 53)), (3, .ref (ad 66)), (4, .int (iI ((i + 4 : Nat) : Int)))]) (by simp) ?_
        refine n_widen (c2 := 75 + (i + 4)) (s2 := 2225 + 6 * (i + 4)) (by omega) (by omega) ?_
        exact ih (i + 4) _ _ _ _ _ _ _ f e2 (by omega) (by omega) (by omega) hD hM k66
      · refine n_tswIn (off := 201) (tgt := 250) C dL_law_49 (by decide) (by decide) (by decide) (by decide) (by decide) (by decide) ?_
        refine n_aload_n C dL_law_250 1 rfl rfl ?_
        refine n_aload_n C dL_law_251 0 rfl rfl ?_
        refine n_iload C dL_law_252 4 rfl ?_
        refine n_iconst C dL_law_254 ?_
        refine n_iadd C dL_law_255 ?_
        refine n_sld (j := i + 1) C hSx dL_law_256 (by omega) (by omega) (by omega) ?_
        refine n_topI (y := (iI a1)) (ha1) ?_
        refine n_aload_n C dL_law_257 0 rfl rfl ?_
        refine n_iload C dL_law_258 4 rfl ?_
        refine n_iconst C dL_law_260 ?_
        refine n_iadd C dL_law_261 ?_
        refine n_sld (j := i + 2) C hSx dL_law_262 (by omega) (by omega) (by omega) ?_
        refine n_topI (y := (iI a2)) (ha2) ?_
        refine n_aload_n C dL_law_263 3 rfl rfl ?_
        refine n_callSWX (rest := []) C hX dL_law_264 (TL_diff l hlt (by omega) hD k66 ha1a ha1b ha2a ha2b) (vx_cwSW 4 C.2.2.2.2.1 gL_law_L_diff rfl rfl rfl cdL_diff.2 ⟨(Nat.le_of_ble_eq_true rfl), (Nat.le_of_ble_eq_true rfl)⟩) rfl rfl (Nat.le_of_ble_eq_true rfl) ⟨hcl1, hsl6⟩ ?_
        rintro _ e1 ⟨rfl, hno, hok, hF1⟩
        refine n_pc (pc2 := 267) rfl (n_st (st2 := [.int (iI (dfE R9 lim a1 a2 : Nat))]) rfl ?_)
        have hM := hM.fr hF1 (fun j h1 h2 => by omega)
        have k53 := (hF1 53 (by omega)).trans k53
        have hEl : dfE R9 lim a1 a2 ≤ 4 := by have := dfE_le R9 lim a1 a2; omega
        refine n_istore (lv' := [(0, .ref b), (1, .ref (ad 0)), (2, .ref (ad 53)), (3, .ref (ad 66)), (4, .int (iI (i : Int))), (5, .int (iI (dfE R9 lim a1 a2 : Nat)))]) C dL_law_267 (by decide) rfl ?_
        refine n_aload_n C dL_law_269 2 rfl rfl ?_
        refine n_aload_n C dL_law_270 0 rfl rfl ?_
        refine n_iload C dL_law_271 4 rfl ?_
        refine n_iconst C dL_law_273 ?_
        refine n_iadd C dL_law_274 ?_
        refine n_sld (j := i + 1) C hSx dL_law_275 (by omega) (by omega) (by omega) ?_
        refine n_topI (y := (iI a1)) (ha1) ?_
        refine n_aload_n C dL_law_276 0 rfl rfl ?_
        refine n_iload C dL_law_277 4 rfl ?_
        refine n_iconst C dL_law_279 ?_
        refine n_iadd C dL_law_280 ?_
        refine n_sld (j := i + 2) C hSx dL_law_281 (by omega) (by omega) (by omega) ?_
        refine n_topI (y := (iI a2)) (ha2) ?_
        by_cases hE : dfE R9 lim a1 a2 = 0
        · obtain ⟨hD, f1, hf1, k66⟩ := hok hE
          refine n_callV (rest := []) C dL_law_282 (TX6_diff l (by omega) hM ha1a ha1b ha2a ha2b) (cwV 2 C.2.2.2.2.1 gL_law_X6_diff rfl rfl rfl cdX6_diff ⟨Nat.le_of_ble_eq_true rfl, Nat.le_of_ble_eq_true rfl⟩) (by omega) k53 rfl rfl rfl (Nat.le_of_ble_eq_true rfl) ⟨by show 75 + i + 1 + 0 ≤ 601024; omega, by show 2225 + 6 * i + 6 + 0 ≤ 7293000; omega⟩ ?_
          rintro _ e2 ⟨hmn, hmo, hF2⟩
          obtain ⟨rfl, hM⟩ := hmo hE
          refine n_pc (pc2 := 285) rfl (n_st (st2 := [.int (iI ((dfS R9 a1 a2).length : Int))]) rfl ?_)
          have hD := hD.fr hF2 (fun j hj => by omega)
          have k66 := (hF2 66 (by omega)).trans k66
          obtain ⟨fs53, k53⟩ := hM.obj
          refine n_istore (lv' := [(0, .ref b), (1, .ref (ad 0)), (2, .ref (ad 53)), (3, .ref (ad 66)), (4, .int (iI (i : Int))), (5, .int (iI (dfE R9 lim a1 a2 : Nat))), (6, .int (iI ((dfS R9 a1 a2).length : Int)))]) C dL_law_285 (by decide) rfl ?_
          refine n_aload_n C dL_law_287 2 rfl rfl ?_
          refine n_callV (rest := []) C dL_law_288 (TX6_thrown l (by omega) hM) (cwV 0 C.2.2.2.2.1 gL_law_X6_thrown rfl rfl rfl cdX6_thrown ⟨Nat.le_of_ble_eq_true rfl, Nat.le_of_ble_eq_true rfl⟩) (by omega) k53 rfl rfl rfl (Nat.le_of_ble_eq_true rfl) ⟨by show 75 + i + 1 + 0 + 0 ≤ 601024; omega, by show 2225 + 6 * i + 6 + 0 + 0 ≤ 7293000; omega⟩ ?_
          rintro _ _ ⟨rfl, rfl⟩
          refine n_pc (pc2 := 291) rfl (n_st (st2 := [.int (iI 0)]) rfl ?_)
          refine n_iload C dL_law_291 5 rfl ?_
          refine n_icmp_eqR C dL_law_293 (by decide) (tgt := 298) (fun _ => ?_) (fun c9 => absurd c9 (fun h9 => h9 (by rw [hE]; rfl)))
          refine n_iload C dL_law_298 5 rfl ?_
          refine n_if_ne C dL_law_300 (by decide) (by omega) (by omega) (tgt := 315) (fun c9 => absurd c9 (by omega)) (fun _ => ?_)
          refine n_aload_n C dL_law_303 3 rfl rfl ?_
          refine n_iconst C dL_law_304 ?_
          refine n_lald (j := 0) C dL_law_305 (by omega) k66 rfl (by omega) (by omega) ?_
          refine n_iload C dL_law_306 6 rfl ?_
          refine n_i2l C dL_law_308 ?_
          rw [hf1]
          refine n_lcmp C dL_law_309 ?_
          refine n_if_eqR C dL_law_310 (by decide) (tgt := 315) (fun _ => ?_) (fun c9 => absurd c9 (fun h9 => h9 (lg_self _)))
          refine n_goto (tgt := 663) C dL_law_315 (by decide) ?_
          refine n_iinc (lv' := [(0, .ref b), (1, .ref (ad 0)), (2, .ref (ad 53)), (3, .ref (ad 66)), (4, .int (iI ((i : Int) + 4))), (5, .int (iI (dfE R9 lim a1 a2 : Nat))), (6, .int (iI ((dfS R9 a1 a2).length : Int)))]) C dL_law_663 4 rfl (by decide) rfl ?_
          refine n_goto (tgt := 33) C dL_law_666 (by decide) ?_
          refine n_sub (lv2 := [(0, .ref b), (1, .ref (ad 0)), (2, .ref (ad 53)), (3, .ref (ad 66)), (4, .int (iI ((i : Int) + 4)))]) [0, 1, 2, 3, 4] rfl ?_
          refine n_lv (lv2 := [(0, .ref b), (1, .ref (ad 0)), (2, .ref (ad 53)), (3, .ref (ad 66)), (4, .int (iI ((i + 4 : Nat) : Int)))]) (by simp) ?_
          refine n_widen (c2 := 75 + (i + 4)) (s2 := 2225 + 6 * (i + 4)) (by omega) (by omega) ?_
          exact ih (i + 4) _ _ _ _ _ _ _ f1 e2 (by omega) (by omega) (by omega) hD hM k66
        · obtain ⟨hD, f1, k66⟩ := hno hE
          refine n_callV (rest := []) C dL_law_282 (TX6_diff l (by omega) hM ha1a ha1b ha2a ha2b) (cwV 2 C.2.2.2.2.1 gL_law_X6_diff rfl rfl rfl cdX6_diff ⟨Nat.le_of_ble_eq_true rfl, Nat.le_of_ble_eq_true rfl⟩) (by omega) k53 rfl rfl rfl (Nat.le_of_ble_eq_true rfl) ⟨by show 75 + i + 1 + 0 ≤ 601024; omega, by show 2225 + 6 * i + 6 + 0 ≤ 7293000; omega⟩ ?_
          rintro _ e2 ⟨hmn, hmo, hF2⟩
          obtain ⟨rfl, hM⟩ := hmn hE
          refine n_pc (pc2 := 285) rfl (n_st (st2 := [.int (iI 0)]) rfl ?_)
          have hD := hD.fr hF2 (fun j hj => by omega)
          have k66 := (hF2 66 (by omega)).trans k66
          obtain ⟨fs53, k53⟩ := hM.obj
          refine n_istore (lv' := [(0, .ref b), (1, .ref (ad 0)), (2, .ref (ad 53)), (3, .ref (ad 66)), (4, .int (iI (i : Int))), (5, .int (iI (dfE R9 lim a1 a2 : Nat))), (6, .int (iI 0))]) C dL_law_285 (by decide) rfl ?_
          refine n_aload_n C dL_law_287 2 rfl rfl ?_
          refine n_callV (rest := []) C dL_law_288 (TX6_thrown l (by omega) hM) (cwV 0 C.2.2.2.2.1 gL_law_X6_thrown rfl rfl rfl cdX6_thrown ⟨Nat.le_of_ble_eq_true rfl, Nat.le_of_ble_eq_true rfl⟩) (by omega) k53 rfl rfl rfl (Nat.le_of_ble_eq_true rfl) ⟨by show 75 + i + 1 + 0 + 0 ≤ 601024; omega, by show 2225 + 6 * i + 6 + 0 + 0 ≤ 7293000; omega⟩ ?_
          rintro _ _ ⟨rfl, rfl⟩
          refine n_pc (pc2 := 291) rfl (n_st (st2 := [.int (iI (dfE R9 lim a1 a2 : Nat))]) rfl ?_)
          refine n_iload C dL_law_291 5 rfl ?_
          refine n_icmp_eqR C dL_law_293 (by decide) (tgt := 298) (fun _ => ?_) (fun c9 => absurd c9 (fun h9 => h9 (rfl)))
          refine n_iload C dL_law_298 5 rfl ?_
          refine n_if_ne C dL_law_300 (by decide) (by omega) (by omega) (tgt := 315) (fun _ => ?_) (fun c9 => absurd c9 (by omega))
          refine n_goto (tgt := 663) C dL_law_315 (by decide) ?_
          refine n_iinc (lv' := [(0, .ref b), (1, .ref (ad 0)), (2, .ref (ad 53)), (3, .ref (ad 66)), (4, .int (iI ((i : Int) + 4))), (5, .int (iI (dfE R9 lim a1 a2 : Nat))), (6, .int (iI 0))]) C dL_law_663 4 rfl (by decide) rfl ?_
          refine n_goto (tgt := 33) C dL_law_666 (by decide) ?_
          refine n_sub (lv2 := [(0, .ref b), (1, .ref (ad 0)), (2, .ref (ad 53)), (3, .ref (ad 66)), (4, .int (iI ((i : Int) + 4)))]) [0, 1, 2, 3, 4] rfl ?_
          refine n_lv (lv2 := [(0, .ref b), (1, .ref (ad 0)), (2, .ref (ad 53)), (3, .ref (ad 66)), (4, .int (iI ((i + 4 : Nat) : Int)))]) (by simp) ?_
          refine n_widen (c2 := 75 + (i + 4)) (s2 := 2225 + 6 * (i + 4)) (by omega) (by omega) ?_
          exact ih (i + 4) _ _ _ _ _ _ _ f1 e2 (by omega) (by omega) (by omega) hD hM k66
      · refine n_tswIn (off := 269) (tgt := 318) C dL_law_49 (by decide) (by decide) (by decide) (by decide) (by decide) (by decide) ?_
        refine n_aload_n C dL_law_318 1 rfl rfl ?_
        refine n_aload_n C dL_law_319 0 rfl rfl ?_
        refine n_iload C dL_law_320 4 rfl ?_
        refine n_iconst C dL_law_322 ?_
        refine n_iadd C dL_law_323 ?_
        refine n_sld (j := i + 1) C hSx dL_law_324 (by omega) (by omega) (by omega) ?_
        refine n_topI (y := (iI a1)) (ha1) ?_
        refine n_aload_n C dL_law_325 0 rfl rfl ?_
        refine n_iload C dL_law_326 4 rfl ?_
        refine n_iconst C dL_law_328 ?_
        refine n_iadd C dL_law_329 ?_
        refine n_sld (j := i + 2) C hSx dL_law_330 (by omega) (by omega) (by omega) ?_
        refine n_topI (y := (iI a2)) (ha2) ?_
        refine n_callV (rest := []) C dL_law_331 (TX5_operation l (by omega) hD ha1a ha1b ha2a ha2b) (cwV 2 C.2.2.2.2.1 gL_law_X5_operation rfl rfl rfl cdX5_operation ⟨Nat.le_of_ble_eq_true rfl, Nat.le_of_ble_eq_true rfl⟩) (by omega) k0 rfl rfl rfl (Nat.le_of_ble_eq_true rfl) ⟨hcl, hsl⟩ ?_
        rintro _ _ ⟨rfl, rfl⟩
        refine n_pc (pc2 := 334) rfl (n_st (st2 := [.int (opS ops a1 a2)]) rfl ?_)
        refine n_aload_n C dL_law_334 2 rfl rfl ?_
        refine n_aload_n C dL_law_335 0 rfl rfl ?_
        refine n_iload C dL_law_336 4 rfl ?_
        refine n_iconst C dL_law_338 ?_
        refine n_iadd C dL_law_339 ?_
        refine n_sld (j := i + 1) C hSx dL_law_340 (by omega) (by omega) (by omega) ?_
        refine n_topI (y := (iI a1)) (ha1) ?_
        refine n_aload_n C dL_law_341 0 rfl rfl ?_
        refine n_iload C dL_law_342 4 rfl ?_
        refine n_iconst C dL_law_344 ?_
        refine n_iadd C dL_law_345 ?_
        refine n_sld (j := i + 2) C hSx dL_law_346 (by omega) (by omega) (by omega) ?_
        refine n_topI (y := (iI a2)) (ha2) ?_
        refine n_callV (rest := [.int (opS ops a1 a2)]) C dL_law_347 (TX6_operation l (by omega) hM ha1a ha1b ha2a ha2b) (cwV 2 C.2.2.2.2.1 gL_law_X6_operation rfl rfl rfl cdX6_operation ⟨Nat.le_of_ble_eq_true rfl, Nat.le_of_ble_eq_true rfl⟩) (by omega) k53 rfl rfl rfl (Nat.le_of_ble_eq_true rfl) ⟨hcl, hsl⟩ ?_
        rintro _ e2 ⟨rfl, hM, hF2⟩
        refine n_pc (pc2 := 350) rfl (n_st (st2 := [.int (opS ops a1 a2), .int (opS ops a1 a2)]) rfl ?_)
        have hD := hD.fr hF2 (fun j hj => by omega)
        have k66 := (hF2 66 (by omega)).trans k66
        refine n_icmp_eqR C dL_law_350 (by decide) (tgt := 663) (fun _ => ?_) (fun c9 => absurd c9 (fun h9 => h9 (rfl)))
        refine n_iinc (lv' := [(0, .ref b), (1, .ref (ad 0)), (2, .ref (ad 53)), (3, .ref (ad 66)), (4, .int (iI ((i : Int) + 4)))]) C dL_law_663 4 rfl (by decide) rfl ?_
        refine n_goto (tgt := 33) C dL_law_666 (by decide) ?_
        refine n_sub (lv2 := [(0, .ref b), (1, .ref (ad 0)), (2, .ref (ad 53)), (3, .ref (ad 66)), (4, .int (iI ((i : Int) + 4)))]) [0, 1, 2, 3, 4] rfl ?_
        refine n_lv (lv2 := [(0, .ref b), (1, .ref (ad 0)), (2, .ref (ad 53)), (3, .ref (ad 66)), (4, .int (iI ((i + 4 : Nat) : Int)))]) (by simp) ?_
        refine n_widen (c2 := 75 + (i + 4)) (s2 := 2225 + 6 * (i + 4)) (by omega) (by omega) ?_
        exact ih (i + 4) _ _ _ _ _ _ _ f e2 (by omega) (by omega) (by omega) hD hM k66
      · refine n_tswIn (off := 306) (tgt := 355) C dL_law_49 (by decide) (by decide) (by decide) (by decide) (by decide) (by decide) ?_
        refine n_aload_n C dL_law_355 1 rfl rfl ?_
        refine n_callV (rest := []) C dL_law_356 (TX5_forget l (by omega) hD ) (cwV 0 C.2.2.2.2.1 gL_law_X5_forget rfl rfl rfl cdX5_forget ⟨Nat.le_of_ble_eq_true rfl, Nat.le_of_ble_eq_true rfl⟩) (by omega) k0 rfl rfl rfl (Nat.le_of_ble_eq_true rfl) ⟨hcl, hsl⟩ ?_
        rintro _ e1 ⟨rfl, hD, hF1⟩
        refine n_pc (pc2 := 359) rfl (n_st (st2 := []) rfl ?_)
        have hM := hM.fr hF1 (fun j h1 h2 => by omega)
        have k66 := (hF1 66 (by omega)).trans k66
        have k53 := (hF1 53 (by omega)).trans k53
        refine n_aload_n C dL_law_359 2 rfl rfl ?_
        refine n_callV (rest := []) C dL_law_360 (TX6_forget l (by omega) hM ) (cwV 0 C.2.2.2.2.1 gL_law_X6_forget rfl rfl rfl cdX6_forget ⟨Nat.le_of_ble_eq_true rfl, Nat.le_of_ble_eq_true rfl⟩) (by omega) k53 rfl rfl rfl (Nat.le_of_ble_eq_true rfl) ⟨hcl, hsl⟩ ?_
        rintro _ e2 ⟨rfl, hM, hF2⟩
        refine n_pc (pc2 := 363) rfl (n_st (st2 := []) rfl ?_)
        have hD := hD.fr hF2 (fun j hj => by omega)
        have k66 := (hF2 66 (by omega)).trans k66
        refine n_goto (tgt := 663) C dL_law_363 (by decide) ?_
        refine n_iinc (lv' := [(0, .ref b), (1, .ref (ad 0)), (2, .ref (ad 53)), (3, .ref (ad 66)), (4, .int (iI ((i : Int) + 4)))]) C dL_law_663 4 rfl (by decide) rfl ?_
        refine n_goto (tgt := 33) C dL_law_666 (by decide) ?_
        refine n_sub (lv2 := [(0, .ref b), (1, .ref (ad 0)), (2, .ref (ad 53)), (3, .ref (ad 66)), (4, .int (iI ((i : Int) + 4)))]) [0, 1, 2, 3, 4] rfl ?_
        refine n_lv (lv2 := [(0, .ref b), (1, .ref (ad 0)), (2, .ref (ad 53)), (3, .ref (ad 66)), (4, .int (iI ((i + 4 : Nat) : Int)))]) (by simp) ?_
        refine n_widen (c2 := 75 + (i + 4)) (s2 := 2225 + 6 * (i + 4)) (by omega) (by omega) ?_
        exact ih (i + 4) _ _ _ _ _ _ _ f e2 (by omega) (by omega) (by omega) hD hM k66
      · refine n_tswIn (off := 317) (tgt := 366) C dL_law_49 (by decide) (by decide) (by decide) (by decide) (by decide) (by decide) ?_
        refine n_aload_n C dL_law_366 1 rfl rfl ?_
        refine n_aload_n C dL_law_367 0 rfl rfl ?_
        refine n_iload C dL_law_368 4 rfl ?_
        refine n_iconst C dL_law_370 ?_
        refine n_iadd C dL_law_371 ?_
        refine n_sld (j := i + 1) C hSx dL_law_372 (by omega) (by omega) (by omega) ?_
        refine n_aload_n C dL_law_373 0 rfl rfl ?_
        refine n_iload C dL_law_374 4 rfl ?_
        refine n_iconst C dL_law_376 ?_
        refine n_iadd C dL_law_377 ?_
        refine n_sld (j := i + 2) C hSx dL_law_378 (by omega) (by omega) (by omega) ?_
        refine n_aload_n C dL_law_379 0 rfl rfl ?_
        refine n_iload C dL_law_380 4 rfl ?_
        refine n_iconst C dL_law_382 ?_
        refine n_iadd C dL_law_383 ?_
        refine n_sld (j := i + 3) C hSx dL_law_384 (by omega) (by omega) (by omega) ?_
        refine n_callV (rest := []) C dL_law_385 (TX5_load l (by omega) hD ) (cwV 3 C.2.2.2.2.1 gL_law_X5_load rfl rfl rfl cdX5_load ⟨Nat.le_of_ble_eq_true rfl, Nat.le_of_ble_eq_true rfl⟩) (by omega) k0 rfl rfl rfl (Nat.le_of_ble_eq_true rfl) ⟨hcl, hsl⟩ ?_
        rintro _ e1 ⟨rfl, hD, hF1⟩
        refine n_pc (pc2 := 388) rfl (n_st (st2 := [.int (bI (decide (ops.length < 60)))]) rfl ?_)
        have hM := hM.fr hF1 (fun j h1 h2 => by omega)
        have k66 := (hF1 66 (by omega)).trans k66
        have k53 := (hF1 53 (by omega)).trans k53
        refine n_aload_n C dL_law_388 2 rfl rfl ?_
        refine n_aload_n C dL_law_389 0 rfl rfl ?_
        refine n_iload C dL_law_390 4 rfl ?_
        refine n_iconst C dL_law_392 ?_
        refine n_iadd C dL_law_393 ?_
        refine n_sld (j := i + 1) C hSx dL_law_394 (by omega) (by omega) (by omega) ?_
        refine n_aload_n C dL_law_395 0 rfl rfl ?_
        refine n_iload C dL_law_396 4 rfl ?_
        refine n_iconst C dL_law_398 ?_
        refine n_iadd C dL_law_399 ?_
        refine n_sld (j := i + 2) C hSx dL_law_400 (by omega) (by omega) (by omega) ?_
        refine n_aload_n C dL_law_401 0 rfl rfl ?_
        refine n_iload C dL_law_402 4 rfl ?_
        refine n_iconst C dL_law_404 ?_
        refine n_iadd C dL_law_405 ?_
        refine n_sld (j := i + 3) C hSx dL_law_406 (by omega) (by omega) (by omega) ?_
        refine n_callV (rest := [.int (bI (decide (ops.length < 60)))]) C dL_law_407 (TX6_load l (by omega) hM ) (cwV 3 C.2.2.2.2.1 gL_law_X6_load rfl rfl rfl cdX6_load ⟨Nat.le_of_ble_eq_true rfl, Nat.le_of_ble_eq_true rfl⟩) (by omega) k53 rfl rfl rfl (Nat.le_of_ble_eq_true rfl) ⟨hcl, hsl⟩ ?_
        rintro _ e2 ⟨rfl, hM, hF2⟩
        refine n_pc (pc2 := 410) rfl (n_st (st2 := [.int (bI (decide (ops.length < 60))), .int (bI (decide (ops.length < 60)))]) rfl ?_)
        have hD := hD.fr hF2 (fun j hj => by omega)
        have k66 := (hF2 66 (by omega)).trans k66
        refine n_icmp_eqR C dL_law_410 (by decide) (tgt := 663) (fun _ => ?_) (fun c9 => absurd c9 (fun h9 => h9 (rfl)))
        refine n_iinc (lv' := [(0, .ref b), (1, .ref (ad 0)), (2, .ref (ad 53)), (3, .ref (ad 66)), (4, .int (iI ((i : Int) + 4)))]) C dL_law_663 4 rfl (by decide) rfl ?_
        refine n_goto (tgt := 33) C dL_law_666 (by decide) ?_
        refine n_sub (lv2 := [(0, .ref b), (1, .ref (ad 0)), (2, .ref (ad 53)), (3, .ref (ad 66)), (4, .int (iI ((i : Int) + 4)))]) [0, 1, 2, 3, 4] rfl ?_
        refine n_lv (lv2 := [(0, .ref b), (1, .ref (ad 0)), (2, .ref (ad 53)), (3, .ref (ad 66)), (4, .int (iI ((i + 4 : Nat) : Int)))]) (by simp) ?_
        refine n_widen (c2 := 75 + (i + 4)) (s2 := 2225 + 6 * (i + 4)) (by omega) (by omega) ?_
        exact ih (i + 4) _ _ _ _ _ _ _ f e2 (by omega) (by omega) (by omega) hD hM k66
      · refine n_tswIn (off := 366) (tgt := 415) C dL_law_49 (by decide) (by decide) (by decide) (by decide) (by decide) (by decide) ?_
        refine n_aload_n C dL_law_415 1 rfl rfl ?_
        refine n_aload_n C dL_law_416 0 rfl rfl ?_
        refine n_iload C dL_law_417 4 rfl ?_
        refine n_iconst C dL_law_419 ?_
        refine n_iadd C dL_law_420 ?_
        refine n_sld (j := i + 1) C hSx dL_law_421 (by omega) (by omega) (by omega) ?_
        refine n_topI (y := (iI a1)) (ha1) ?_
        refine n_aload_n C dL_law_422 3 rfl rfl ?_
        refine n_callSWX (rest := []) C hX dL_law_423 (TL_patch l hlt (by omega) hD k66 ha1a ha1b) (vx_cwSW 3 C.2.2.2.2.1 gL_law_L_patch rfl rfl rfl cdL_patch.2 ⟨(Nat.le_of_ble_eq_true rfl), (Nat.le_of_ble_eq_true rfl)⟩) rfl rfl (Nat.le_of_ble_eq_true rfl) ⟨hcl1, hsl6⟩ ?_
        rintro _ e1 ⟨rfl, hno, hok, hF1⟩
        refine n_pc (pc2 := 426) rfl (n_st (st2 := [.int (iI (ptE R9 ops a1 : Nat))]) rfl ?_)
        have hM := hM.fr hF1 (fun j h1 h2 => by omega)
        have k53 := (hF1 53 (by omega)).trans k53
        have hEl : ptE R9 ops a1 ≤ 4 := by have := ptE_le R9 ops a1; omega
        refine n_istore (lv' := [(0, .ref b), (1, .ref (ad 0)), (2, .ref (ad 53)), (3, .ref (ad 66)), (4, .int (iI (i : Int))), (5, .int (iI (ptE R9 ops a1 : Nat)))]) C dL_law_426 (by decide) rfl ?_
        refine n_aload_n C dL_law_428 2 rfl rfl ?_
        refine n_aload_n C dL_law_429 0 rfl rfl ?_
        refine n_iload C dL_law_430 4 rfl ?_
        refine n_iconst C dL_law_432 ?_
        refine n_iadd C dL_law_433 ?_
        refine n_sld (j := i + 1) C hSx dL_law_434 (by omega) (by omega) (by omega) ?_
        refine n_topI (y := (iI a1)) (ha1) ?_
        by_cases hE : ptE R9 ops a1 = 0
        · obtain ⟨hD, f1, hf1, k66⟩ := hok hE
          refine n_callV (rest := []) C dL_law_435 (TX6_patch l (by omega) hM ha1a ha1b) (cwV 1 C.2.2.2.2.1 gL_law_X6_patch rfl rfl rfl cdX6_patch ⟨Nat.le_of_ble_eq_true rfl, Nat.le_of_ble_eq_true rfl⟩) (by omega) k53 rfl rfl rfl (Nat.le_of_ble_eq_true rfl) ⟨by show 75 + i + 1 + 0 ≤ 601024; omega, by show 2225 + 6 * i + 6 + 0 ≤ 7293000; omega⟩ ?_
          rintro _ e2 ⟨hmn, hmo, hF2⟩
          obtain ⟨rfl, hM⟩ := hmo hE
          refine n_pc (pc2 := 438) rfl (n_st (st2 := [.int (iI ((pres (R9 a1.toNat) ops).length : Int))]) rfl ?_)
          have hD := hD.fr hF2 (fun j hj => by omega)
          have k66 := (hF2 66 (by omega)).trans k66
          obtain ⟨fs53, k53⟩ := hM.obj
          refine n_istore (lv' := [(0, .ref b), (1, .ref (ad 0)), (2, .ref (ad 53)), (3, .ref (ad 66)), (4, .int (iI (i : Int))), (5, .int (iI (ptE R9 ops a1 : Nat))), (6, .int (iI ((pres (R9 a1.toNat) ops).length : Int)))]) C dL_law_438 (by decide) rfl ?_
          refine n_aload_n C dL_law_440 2 rfl rfl ?_
          refine n_callV (rest := []) C dL_law_441 (TX6_thrown l (by omega) hM) (cwV 0 C.2.2.2.2.1 gL_law_X6_thrown rfl rfl rfl cdX6_thrown ⟨Nat.le_of_ble_eq_true rfl, Nat.le_of_ble_eq_true rfl⟩) (by omega) k53 rfl rfl rfl (Nat.le_of_ble_eq_true rfl) ⟨by show 75 + i + 1 + 0 + 0 ≤ 601024; omega, by show 2225 + 6 * i + 6 + 0 + 0 ≤ 7293000; omega⟩ ?_
          rintro _ _ ⟨rfl, rfl⟩
          refine n_pc (pc2 := 444) rfl (n_st (st2 := [.int (iI 0)]) rfl ?_)
          refine n_iload C dL_law_444 5 rfl ?_
          refine n_icmp_eqR C dL_law_446 (by decide) (tgt := 451) (fun _ => ?_) (fun c9 => absurd c9 (fun h9 => h9 (by rw [hE]; rfl)))
          refine n_iload C dL_law_451 5 rfl ?_
          refine n_if_ne C dL_law_453 (by decide) (by omega) (by omega) (tgt := 468) (fun c9 => absurd c9 (by omega)) (fun _ => ?_)
          refine n_aload_n C dL_law_456 3 rfl rfl ?_
          refine n_iconst C dL_law_457 ?_
          refine n_lald (j := 0) C dL_law_458 (by omega) k66 rfl (by omega) (by omega) ?_
          refine n_iload C dL_law_459 6 rfl ?_
          refine n_i2l C dL_law_461 ?_
          rw [hf1]
          refine n_lcmp C dL_law_462 ?_
          refine n_if_eqR C dL_law_463 (by decide) (tgt := 468) (fun _ => ?_) (fun c9 => absurd c9 (fun h9 => h9 (lg_self _)))
          refine n_goto (tgt := 663) C dL_law_468 (by decide) ?_
          refine n_iinc (lv' := [(0, .ref b), (1, .ref (ad 0)), (2, .ref (ad 53)), (3, .ref (ad 66)), (4, .int (iI ((i : Int) + 4))), (5, .int (iI (ptE R9 ops a1 : Nat))), (6, .int (iI ((pres (R9 a1.toNat) ops).length : Int)))]) C dL_law_663 4 rfl (by decide) rfl ?_
          refine n_goto (tgt := 33) C dL_law_666 (by decide) ?_
          refine n_sub (lv2 := [(0, .ref b), (1, .ref (ad 0)), (2, .ref (ad 53)), (3, .ref (ad 66)), (4, .int (iI ((i : Int) + 4)))]) [0, 1, 2, 3, 4] rfl ?_
          refine n_lv (lv2 := [(0, .ref b), (1, .ref (ad 0)), (2, .ref (ad 53)), (3, .ref (ad 66)), (4, .int (iI ((i + 4 : Nat) : Int)))]) (by simp) ?_
          refine n_widen (c2 := 75 + (i + 4)) (s2 := 2225 + 6 * (i + 4)) (by omega) (by omega) ?_
          exact ih (i + 4) _ _ _ _ _ _ _ f1 e2 (by omega) (by omega) (by omega) hD hM k66
        · obtain ⟨hD, f1, k66⟩ := hno hE
          refine n_callV (rest := []) C dL_law_435 (TX6_patch l (by omega) hM ha1a ha1b) (cwV 1 C.2.2.2.2.1 gL_law_X6_patch rfl rfl rfl cdX6_patch ⟨Nat.le_of_ble_eq_true rfl, Nat.le_of_ble_eq_true rfl⟩) (by omega) k53 rfl rfl rfl (Nat.le_of_ble_eq_true rfl) ⟨by show 75 + i + 1 + 0 ≤ 601024; omega, by show 2225 + 6 * i + 6 + 0 ≤ 7293000; omega⟩ ?_
          rintro _ e2 ⟨hmn, hmo, hF2⟩
          obtain ⟨rfl, hM⟩ := hmn hE
          refine n_pc (pc2 := 438) rfl (n_st (st2 := [.int (iI 0)]) rfl ?_)
          have hD := hD.fr hF2 (fun j hj => by omega)
          have k66 := (hF2 66 (by omega)).trans k66
          obtain ⟨fs53, k53⟩ := hM.obj
          refine n_istore (lv' := [(0, .ref b), (1, .ref (ad 0)), (2, .ref (ad 53)), (3, .ref (ad 66)), (4, .int (iI (i : Int))), (5, .int (iI (ptE R9 ops a1 : Nat))), (6, .int (iI 0))]) C dL_law_438 (by decide) rfl ?_
          refine n_aload_n C dL_law_440 2 rfl rfl ?_
          refine n_callV (rest := []) C dL_law_441 (TX6_thrown l (by omega) hM) (cwV 0 C.2.2.2.2.1 gL_law_X6_thrown rfl rfl rfl cdX6_thrown ⟨Nat.le_of_ble_eq_true rfl, Nat.le_of_ble_eq_true rfl⟩) (by omega) k53 rfl rfl rfl (Nat.le_of_ble_eq_true rfl) ⟨by show 75 + i + 1 + 0 + 0 ≤ 601024; omega, by show 2225 + 6 * i + 6 + 0 + 0 ≤ 7293000; omega⟩ ?_
          rintro _ _ ⟨rfl, rfl⟩
          refine n_pc (pc2 := 444) rfl (n_st (st2 := [.int (iI (ptE R9 ops a1 : Nat))]) rfl ?_)
          refine n_iload C dL_law_444 5 rfl ?_
          refine n_icmp_eqR C dL_law_446 (by decide) (tgt := 451) (fun _ => ?_) (fun c9 => absurd c9 (fun h9 => h9 (rfl)))
          refine n_iload C dL_law_451 5 rfl ?_
          refine n_if_ne C dL_law_453 (by decide) (by omega) (by omega) (tgt := 468) (fun _ => ?_) (fun c9 => absurd c9 (by omega))
          refine n_goto (tgt := 663) C dL_law_468 (by decide) ?_
          refine n_iinc (lv' := [(0, .ref b), (1, .ref (ad 0)), (2, .ref (ad 53)), (3, .ref (ad 66)), (4, .int (iI ((i : Int) + 4))), (5, .int (iI (ptE R9 ops a1 : Nat))), (6, .int (iI 0))]) C dL_law_663 4 rfl (by decide) rfl ?_
          refine n_goto (tgt := 33) C dL_law_666 (by decide) ?_
          refine n_sub (lv2 := [(0, .ref b), (1, .ref (ad 0)), (2, .ref (ad 53)), (3, .ref (ad 66)), (4, .int (iI ((i : Int) + 4)))]) [0, 1, 2, 3, 4] rfl ?_
          refine n_lv (lv2 := [(0, .ref b), (1, .ref (ad 0)), (2, .ref (ad 53)), (3, .ref (ad 66)), (4, .int (iI ((i + 4 : Nat) : Int)))]) (by simp) ?_
          refine n_widen (c2 := 75 + (i + 4)) (s2 := 2225 + 6 * (i + 4)) (by omega) (by omega) ?_
          exact ih (i + 4) _ _ _ _ _ _ _ f1 e2 (by omega) (by omega) (by omega) hD hM k66
      · refine n_tswIn (off := 422) (tgt := 471) C dL_law_49 (by decide) (by decide) (by decide) (by decide) (by decide) (by decide) ?_
        refine n_aload_n C dL_law_471 1 rfl rfl ?_
        refine n_callV (rest := []) C dL_law_472 (TX5_merge l (by omega) hD ) (cwV 0 C.2.2.2.2.1 gL_law_X5_merge rfl rfl rfl cdX5_merge ⟨Nat.le_of_ble_eq_true rfl, Nat.le_of_ble_eq_true rfl⟩) (by omega) k0 rfl rfl rfl (Nat.le_of_ble_eq_true rfl) ⟨hcl, hsl⟩ ?_
        rintro _ e1 ⟨rfl, hD, hF1⟩
        refine n_pc (pc2 := 475) rfl (n_st (st2 := [.int (iI ((mrg (R9 0) (R9 1) (R9 2)).2 : Int))]) rfl ?_)
        have hM := hM.fr hF1 (fun j h1 h2 => by omega)
        have k66 := (hF1 66 (by omega)).trans k66
        have k53 := (hF1 53 (by omega)).trans k53
        refine n_aload_n C dL_law_475 2 rfl rfl ?_
        refine n_callV (rest := [.int (iI ((mrg (R9 0) (R9 1) (R9 2)).2 : Int))]) C dL_law_476 (TX6_merge l (by omega) hM ) (cwV 0 C.2.2.2.2.1 gL_law_X6_merge rfl rfl rfl cdX6_merge ⟨Nat.le_of_ble_eq_true rfl, Nat.le_of_ble_eq_true rfl⟩) (by omega) k53 rfl rfl rfl (Nat.le_of_ble_eq_true rfl) ⟨hcl, hsl⟩ ?_
        rintro _ e2 ⟨rfl, hM, hF2⟩
        refine n_pc (pc2 := 479) rfl (n_st (st2 := [.int (iI ((mrg (R9 0) (R9 1) (R9 2)).2 : Int)), .int (iI ((mrg (R9 0) (R9 1) (R9 2)).2 : Int))]) rfl ?_)
        have hD := hD.fr hF2 (fun j hj => by omega)
        have k66 := (hF2 66 (by omega)).trans k66
        refine n_icmp_eqR C dL_law_479 (by decide) (tgt := 663) (fun _ => ?_) (fun c9 => absurd c9 (fun h9 => h9 (rfl)))
        refine n_iinc (lv' := [(0, .ref b), (1, .ref (ad 0)), (2, .ref (ad 53)), (3, .ref (ad 66)), (4, .int (iI ((i : Int) + 4)))]) C dL_law_663 4 rfl (by decide) rfl ?_
        refine n_goto (tgt := 33) C dL_law_666 (by decide) ?_
        refine n_sub (lv2 := [(0, .ref b), (1, .ref (ad 0)), (2, .ref (ad 53)), (3, .ref (ad 66)), (4, .int (iI ((i : Int) + 4)))]) [0, 1, 2, 3, 4] rfl ?_
        refine n_lv (lv2 := [(0, .ref b), (1, .ref (ad 0)), (2, .ref (ad 53)), (3, .ref (ad 66)), (4, .int (iI ((i + 4 : Nat) : Int)))]) (by simp) ?_
        refine n_widen (c2 := 75 + (i + 4)) (s2 := 2225 + 6 * (i + 4)) (by omega) (by omega) ?_
        exact ih (i + 4) _ _ _ _ _ _ _ f e2 (by omega) (by omega) (by omega) hD hM k66
      · refine n_tswIn (off := 435) (tgt := 484) C dL_law_49 (by decide) (by decide) (by decide) (by decide) (by decide) (by decide) ?_
        refine n_aload_n C dL_law_484 1 rfl rfl ?_
        refine n_aload_n C dL_law_485 0 rfl rfl ?_
        refine n_iload C dL_law_486 4 rfl ?_
        refine n_iconst C dL_law_488 ?_
        refine n_iadd C dL_law_489 ?_
        refine n_sld (j := i + 1) C hSx dL_law_490 (by omega) (by omega) (by omega) ?_
        refine n_topI (y := (iI a1)) (ha1) ?_
        refine n_callV (rest := []) C dL_law_491 (TX5_result l (by omega) hD ha1a ha1b) (cwV 1 C.2.2.2.2.1 gL_law_X5_result rfl rfl rfl cdX5_result ⟨Nat.le_of_ble_eq_true rfl, Nat.le_of_ble_eq_true rfl⟩) (by omega) k0 rfl rfl rfl (Nat.le_of_ble_eq_true rfl) ⟨hcl, hsl⟩ ?_
        rintro _ _ ⟨rfl, rfl⟩
        refine n_pc (pc2 := 494) rfl (n_st (st2 := [.int (atD rs9 a1 (iI (-40)))]) rfl ?_)
        refine n_aload_n C dL_law_494 2 rfl rfl ?_
        refine n_aload_n C dL_law_495 0 rfl rfl ?_
        refine n_iload C dL_law_496 4 rfl ?_
        refine n_iconst C dL_law_498 ?_
        refine n_iadd C dL_law_499 ?_
        refine n_sld (j := i + 1) C hSx dL_law_500 (by omega) (by omega) (by omega) ?_
        refine n_topI (y := (iI a1)) (ha1) ?_
        refine n_callV (rest := [.int (atD rs9 a1 (iI (-40)))]) C dL_law_501 (TX6_result l (by omega) hM ha1a ha1b) (cwV 1 C.2.2.2.2.1 gL_law_X6_result rfl rfl rfl cdX6_result ⟨Nat.le_of_ble_eq_true rfl, Nat.le_of_ble_eq_true rfl⟩) (by omega) k53 rfl rfl rfl (Nat.le_of_ble_eq_true rfl) ⟨hcl, hsl⟩ ?_
        rintro _ e2 ⟨rfl, hM, hF2⟩
        refine n_pc (pc2 := 504) rfl (n_st (st2 := [.int (atD rs9 a1 (iI (-40))), .int (atD rs9 a1 (iI (-40)))]) rfl ?_)
        have hD := hD.fr hF2 (fun j hj => by omega)
        have k66 := (hF2 66 (by omega)).trans k66
        refine n_icmp_eqR C dL_law_504 (by decide) (tgt := 663) (fun _ => ?_) (fun c9 => absurd c9 (fun h9 => h9 (rfl)))
        refine n_iinc (lv' := [(0, .ref b), (1, .ref (ad 0)), (2, .ref (ad 53)), (3, .ref (ad 66)), (4, .int (iI ((i : Int) + 4)))]) C dL_law_663 4 rfl (by decide) rfl ?_
        refine n_goto (tgt := 33) C dL_law_666 (by decide) ?_
        refine n_sub (lv2 := [(0, .ref b), (1, .ref (ad 0)), (2, .ref (ad 53)), (3, .ref (ad 66)), (4, .int (iI ((i : Int) + 4)))]) [0, 1, 2, 3, 4] rfl ?_
        refine n_lv (lv2 := [(0, .ref b), (1, .ref (ad 0)), (2, .ref (ad 53)), (3, .ref (ad 66)), (4, .int (iI ((i + 4 : Nat) : Int)))]) (by simp) ?_
        refine n_widen (c2 := 75 + (i + 4)) (s2 := 2225 + 6 * (i + 4)) (by omega) (by omega) ?_
        exact ih (i + 4) _ _ _ _ _ _ _ f e2 (by omega) (by omega) (by omega) hD hM k66
      · refine n_tswIn (off := 460) (tgt := 509) C dL_law_49 (by decide) (by decide) (by decide) (by decide) (by decide) (by decide) ?_
        refine n_aload_n C dL_law_509 1 rfl rfl ?_
        refine n_callV (rest := []) C dL_law_510 (TX5_results l (by omega) hD ) (cwV 0 C.2.2.2.2.1 gL_law_X5_results rfl rfl rfl cdX5_results ⟨Nat.le_of_ble_eq_true rfl, Nat.le_of_ble_eq_true rfl⟩) (by omega) k0 rfl rfl rfl (Nat.le_of_ble_eq_true rfl) ⟨hcl, hsl⟩ ?_
        rintro _ _ ⟨rfl, rfl⟩
        refine n_pc (pc2 := 513) rfl (n_st (st2 := [.int (iI (rs9.length : Int))]) rfl ?_)
        refine n_aload_n C dL_law_513 2 rfl rfl ?_
        refine n_callV (rest := [.int (iI (rs9.length : Int))]) C dL_law_514 (TX6_results l (by omega) hM ) (cwV 0 C.2.2.2.2.1 gL_law_X6_results rfl rfl rfl cdX6_results ⟨Nat.le_of_ble_eq_true rfl, Nat.le_of_ble_eq_true rfl⟩) (by omega) k53 rfl rfl rfl (Nat.le_of_ble_eq_true rfl) ⟨hcl, hsl⟩ ?_
        rintro _ e2 ⟨rfl, hM, hF2⟩
        refine n_pc (pc2 := 517) rfl (n_st (st2 := [.int (iI (rs9.length : Int)), .int (iI (rs9.length : Int))]) rfl ?_)
        have hD := hD.fr hF2 (fun j hj => by omega)
        have k66 := (hF2 66 (by omega)).trans k66
        refine n_icmp_eqR C dL_law_517 (by decide) (tgt := 663) (fun _ => ?_) (fun c9 => absurd c9 (fun h9 => h9 (rfl)))
        refine n_iinc (lv' := [(0, .ref b), (1, .ref (ad 0)), (2, .ref (ad 53)), (3, .ref (ad 66)), (4, .int (iI ((i : Int) + 4)))]) C dL_law_663 4 rfl (by decide) rfl ?_
        refine n_goto (tgt := 33) C dL_law_666 (by decide) ?_
        refine n_sub (lv2 := [(0, .ref b), (1, .ref (ad 0)), (2, .ref (ad 53)), (3, .ref (ad 66)), (4, .int (iI ((i : Int) + 4)))]) [0, 1, 2, 3, 4] rfl ?_
        refine n_lv (lv2 := [(0, .ref b), (1, .ref (ad 0)), (2, .ref (ad 53)), (3, .ref (ad 66)), (4, .int (iI ((i + 4 : Nat) : Int)))]) (by simp) ?_
        refine n_widen (c2 := 75 + (i + 4)) (s2 := 2225 + 6 * (i + 4)) (by omega) (by omega) ?_
        exact ih (i + 4) _ _ _ _ _ _ _ f e2 (by omega) (by omega) (by omega) hD hM k66
      · refine n_tswIn (off := 473) (tgt := 522) C dL_law_49 (by decide) (by decide) (by decide) (by decide) (by decide) (by decide) ?_
        refine n_aload_n C dL_law_522 1 rfl rfl ?_
        refine n_aload_n C dL_law_523 0 rfl rfl ?_
        refine n_iload C dL_law_524 4 rfl ?_
        refine n_iconst C dL_law_526 ?_
        refine n_iadd C dL_law_527 ?_
        refine n_sld (j := i + 1) C hSx dL_law_528 (by omega) (by omega) (by omega) ?_
        refine n_topI (y := (iI a1)) (ha1) ?_
        refine n_callV (rest := []) C dL_law_529 (TX5_hunks l (by omega) hD ha1a ha1b) (cwV 1 C.2.2.2.2.1 gL_law_X5_hunks rfl rfl rfl cdX5_hunks ⟨Nat.le_of_ble_eq_true rfl, Nat.le_of_ble_eq_true rfl⟩) (by omega) k0 rfl rfl rfl (Nat.le_of_ble_eq_true rfl) ⟨hcl, hsl⟩ ?_
        rintro _ _ ⟨rfl, rfl⟩
        refine n_pc (pc2 := 532) rfl (n_st (st2 := [.int (iI (hkN ls a1 : Int))]) rfl ?_)
        refine n_aload_n C dL_law_532 2 rfl rfl ?_
        refine n_aload_n C dL_law_533 0 rfl rfl ?_
        refine n_iload C dL_law_534 4 rfl ?_
        refine n_iconst C dL_law_536 ?_
        refine n_iadd C dL_law_537 ?_
        refine n_sld (j := i + 1) C hSx dL_law_538 (by omega) (by omega) (by omega) ?_
        refine n_topI (y := (iI a1)) (ha1) ?_
        refine n_callV (rest := [.int (iI (hkN ls a1 : Int))]) C dL_law_539 (TX6_hunks l (by omega) hM ha1a ha1b) (cwV 1 C.2.2.2.2.1 gL_law_X6_hunks rfl rfl rfl cdX6_hunks ⟨Nat.le_of_ble_eq_true rfl, Nat.le_of_ble_eq_true rfl⟩) (by omega) k53 rfl rfl rfl (Nat.le_of_ble_eq_true rfl) ⟨hcl, hsl⟩ ?_
        rintro _ e2 ⟨rfl, hM, hF2⟩
        refine n_pc (pc2 := 542) rfl (n_st (st2 := [.int (iI (hkN ls a1 : Int)), .int (iI (hkN ls a1 : Int))]) rfl ?_)
        have hD := hD.fr hF2 (fun j hj => by omega)
        have k66 := (hF2 66 (by omega)).trans k66
        refine n_icmp_eqR C dL_law_542 (by decide) (tgt := 663) (fun _ => ?_) (fun c9 => absurd c9 (fun h9 => h9 (rfl)))
        refine n_iinc (lv' := [(0, .ref b), (1, .ref (ad 0)), (2, .ref (ad 53)), (3, .ref (ad 66)), (4, .int (iI ((i : Int) + 4)))]) C dL_law_663 4 rfl (by decide) rfl ?_
        refine n_goto (tgt := 33) C dL_law_666 (by decide) ?_
        refine n_sub (lv2 := [(0, .ref b), (1, .ref (ad 0)), (2, .ref (ad 53)), (3, .ref (ad 66)), (4, .int (iI ((i : Int) + 4)))]) [0, 1, 2, 3, 4] rfl ?_
        refine n_lv (lv2 := [(0, .ref b), (1, .ref (ad 0)), (2, .ref (ad 53)), (3, .ref (ad 66)), (4, .int (iI ((i + 4 : Nat) : Int)))]) (by simp) ?_
        refine n_widen (c2 := 75 + (i + 4)) (s2 := 2225 + 6 * (i + 4)) (by omega) (by omega) ?_
        exact ih (i + 4) _ _ _ _ _ _ _ f e2 (by omega) (by omega) (by omega) hD hM k66
      · refine n_tswIn (off := 498) (tgt := 547) C dL_law_49 (by decide) (by decide) (by decide) (by decide) (by decide) (by decide) ?_
        refine n_aload_n C dL_law_547 1 rfl rfl ?_
        refine n_aload_n C dL_law_548 0 rfl rfl ?_
        refine n_iload C dL_law_549 4 rfl ?_
        refine n_iconst C dL_law_551 ?_
        refine n_iadd C dL_law_552 ?_
        refine n_sld (j := i + 1) C hSx dL_law_553 (by omega) (by omega) (by omega) ?_
        refine n_topI (y := (iI a1)) (ha1) ?_
        refine n_aload_n C dL_law_554 0 rfl rfl ?_
        refine n_iload C dL_law_555 4 rfl ?_
        refine n_iconst C dL_law_557 ?_
        refine n_iadd C dL_law_558 ?_
        refine n_sld (j := i + 2) C hSx dL_law_559 (by omega) (by omega) (by omega) ?_
        refine n_topI (y := (iI a2)) (ha2) ?_
        refine n_aload_n C dL_law_560 0 rfl rfl ?_
        refine n_iload C dL_law_561 4 rfl ?_
        refine n_iconst C dL_law_563 ?_
        refine n_iadd C dL_law_564 ?_
        refine n_sld (j := i + 3) C hSx dL_law_565 (by omega) (by omega) (by omega) ?_
        refine n_topI (y := (iI a3)) (ha3) ?_
        refine n_callV (rest := []) C dL_law_566 (TX5_hunk l (by omega) hD ha1a ha1b ha2a ha2b ha3a ha3b) (cwV 3 C.2.2.2.2.1 gL_law_X5_hunk rfl rfl rfl cdX5_hunk ⟨Nat.le_of_ble_eq_true rfl, Nat.le_of_ble_eq_true rfl⟩) (by omega) k0 rfl rfl rfl (Nat.le_of_ble_eq_true rfl) ⟨hcl, hsl⟩ ?_
        rintro _ _ ⟨⟨v9, rfl, hv1, hv2⟩, rfl⟩
        refine n_pc (pc2 := 569) rfl (n_st (st2 := [.int (iI v9)]) rfl ?_)
        obtain ⟨r, r2, hH, hu⟩ : ∃ r r2 : Nat, (0 ≤ a2 → a2 < (hkN ls a1 : Int) → HunkIs ls a1 a2.toNat r r2) ∧ v9 = hkU ls lsz a1 a2 a3 r r2 := by
          by_cases h : 0 ≤ a2 ∧ a2 < (hkN ls a1 : Int)
          · obtain ⟨r, r2, h1, h2⟩ := hv2 h
            exact ⟨r, r2, fun _ _ => h1, by unfold hkU; rw [if_pos h]; exact h2⟩
          · exact ⟨0, 0, fun h1 h2 => absurd ⟨h1, h2⟩ h, by unfold hkU; rw [if_neg h]; exact hv1 (by omega)⟩
        clear hv1 hv2
        refine n_aload_n C dL_law_569 2 rfl rfl ?_
        refine n_aload_n C dL_law_570 0 rfl rfl ?_
        refine n_iload C dL_law_571 4 rfl ?_
        refine n_iconst C dL_law_573 ?_
        refine n_iadd C dL_law_574 ?_
        refine n_sld (j := i + 1) C hSx dL_law_575 (by omega) (by omega) (by omega) ?_
        refine n_topI (y := (iI a1)) (ha1) ?_
        refine n_aload_n C dL_law_576 0 rfl rfl ?_
        refine n_iload C dL_law_577 4 rfl ?_
        refine n_iconst C dL_law_579 ?_
        refine n_iadd C dL_law_580 ?_
        refine n_sld (j := i + 2) C hSx dL_law_581 (by omega) (by omega) (by omega) ?_
        refine n_topI (y := (iI a2)) (ha2) ?_
        refine n_aload_n C dL_law_582 0 rfl rfl ?_
        refine n_iload C dL_law_583 4 rfl ?_
        refine n_iconst C dL_law_585 ?_
        refine n_iadd C dL_law_586 ?_
        refine n_sld (j := i + 3) C hSx dL_law_587 (by omega) (by omega) (by omega) ?_
        refine n_topI (y := (iI a3)) (ha3) ?_
        refine n_callV (rest := [.int (iI v9)]) C dL_law_588 (TX6_hunk l (by omega) hM ha1a ha1b ha2a ha2b ha3a ha3b hH) (cwV 3 C.2.2.2.2.1 gL_law_X6_hunk rfl rfl rfl cdX6_hunk ⟨Nat.le_of_ble_eq_true rfl, Nat.le_of_ble_eq_true rfl⟩) (by omega) k53 rfl rfl rfl (Nat.le_of_ble_eq_true rfl) ⟨hcl, hsl⟩ ?_
        rintro _ e2 ⟨rfl, hM, hF2⟩
        refine n_pc (pc2 := 591) rfl (n_st (st2 := [.int (iI (hkU ls lsz a1 a2 a3 r r2)), .int (iI v9)]) rfl ?_)
        have hD := hD.fr hF2 (fun j hj => by omega)
        have k66 := (hF2 66 (by omega)).trans k66
        refine n_icmp_eqR C dL_law_591 (by decide) (tgt := 663) (fun _ => ?_) (fun c9 => absurd c9 (fun h9 => h9 (by rw [hu])))
        refine n_iinc (lv' := [(0, .ref b), (1, .ref (ad 0)), (2, .ref (ad 53)), (3, .ref (ad 66)), (4, .int (iI ((i : Int) + 4)))]) C dL_law_663 4 rfl (by decide) rfl ?_
        refine n_goto (tgt := 33) C dL_law_666 (by decide) ?_
        refine n_sub (lv2 := [(0, .ref b), (1, .ref (ad 0)), (2, .ref (ad 53)), (3, .ref (ad 66)), (4, .int (iI ((i : Int) + 4)))]) [0, 1, 2, 3, 4] rfl ?_
        refine n_lv (lv2 := [(0, .ref b), (1, .ref (ad 0)), (2, .ref (ad 53)), (3, .ref (ad 66)), (4, .int (iI ((i + 4 : Nat) : Int)))]) (by simp) ?_
        refine n_widen (c2 := 75 + (i + 4)) (s2 := 2225 + 6 * (i + 4)) (by omega) (by omega) ?_
        exact ih (i + 4) _ _ _ _ _ _ _ f e2 (by omega) (by omega) (by omega) hD hM k66
      · refine n_tswIn (off := 547) (tgt := 596) C dL_law_49 (by decide) (by decide) (by decide) (by decide) (by decide) (by decide) ?_
        refine n_aload_n C dL_law_596 1 rfl rfl ?_
        refine n_aload_n C dL_law_597 0 rfl rfl ?_
        refine n_iload C dL_law_598 4 rfl ?_
        refine n_iconst C dL_law_600 ?_
        refine n_iadd C dL_law_601 ?_
        refine n_sld (j := i + 1) C hSx dL_law_602 (by omega) (by omega) (by omega) ?_
        refine n_topI (y := (iI a1)) (ha1) ?_
        refine n_aload_n C dL_law_603 0 rfl rfl ?_
        refine n_iload C dL_law_604 4 rfl ?_
        refine n_iconst C dL_law_606 ?_
        refine n_iadd C dL_law_607 ?_
        refine n_sld (j := i + 2) C hSx dL_law_608 (by omega) (by omega) (by omega) ?_
        refine n_topI (y := (iI a2)) (ha2) ?_
        refine n_callV (rest := []) C dL_law_609 (TX5_alike l (by omega) hD ha1a ha1b ha2a ha2b) (cwV 2 C.2.2.2.2.1 gL_law_X5_alike rfl rfl rfl cdX5_alike ⟨Nat.le_of_ble_eq_true rfl, Nat.le_of_ble_eq_true rfl⟩) (by omega) k0 rfl rfl rfl (Nat.le_of_ble_eq_true rfl) ⟨hcl, hsl⟩ ?_
        rintro _ e1 ⟨rfl, hD, hF1⟩
        refine n_pc (pc2 := 612) rfl (n_st (st2 := [.float (alS R9 a1 a2)]) rfl ?_)
        have hM := hM.fr hF1 (fun j h1 h2 => by omega)
        have k66 := (hF1 66 (by omega)).trans k66
        have k53 := (hF1 53 (by omega)).trans k53
        refine n_f2d C dL_law_612 (alS_d hlen a1 a2) ?_
        refine n_dstore (lv' := [(5, .double (FP.f2d (alS R9 a1 a2))), (0, .ref b), (1, .ref (ad 0)), (2, .ref (ad 53)), (3, .ref (ad 66)), (4, .int (iI (i : Int)))]) C dL_law_613 (by decide) rfl ?_
        refine n_sub (lv2 := [(0, .ref b), (1, .ref (ad 0)), (2, .ref (ad 53)), (3, .ref (ad 66)), (4, .int (iI (i : Int))), (5, .double (FP.f2d (alS R9 a1 a2)))]) [1, 2, 3, 4, 5, 0] rfl ?_
        refine n_aload_n C dL_law_615 2 rfl rfl ?_
        refine n_aload_n C dL_law_616 0 rfl rfl ?_
        refine n_iload C dL_law_617 4 rfl ?_
        refine n_iconst C dL_law_619 ?_
        refine n_iadd C dL_law_620 ?_
        refine n_sld (j := i + 1) C hSx dL_law_621 (by omega) (by omega) (by omega) ?_
        refine n_topI (y := (iI a1)) (ha1) ?_
        refine n_aload_n C dL_law_622 0 rfl rfl ?_
        refine n_iload C dL_law_623 4 rfl ?_
        refine n_iconst C dL_law_625 ?_
        refine n_iadd C dL_law_626 ?_
        refine n_sld (j := i + 2) C hSx dL_law_627 (by omega) (by omega) (by omega) ?_
        refine n_topI (y := (iI a2)) (ha2) ?_
        refine n_callV (rest := []) C dL_law_628 (TX6_alike l (by omega) hM ha1a ha1b ha2a ha2b) (cwV 2 C.2.2.2.2.1 gL_law_X6_alike rfl rfl rfl cdX6_alike ⟨Nat.le_of_ble_eq_true rfl, Nat.le_of_ble_eq_true rfl⟩) (by omega) k53 rfl rfl rfl (Nat.le_of_ble_eq_true rfl) ⟨hcl, hsl⟩ ?_
        rintro _ e2 ⟨rfl, hM, hF2⟩
        refine n_pc (pc2 := 631) rfl (n_st (st2 := [.float (alS R9 a1 a2)]) rfl ?_)
        have hD := hD.fr hF2 (fun j hj => by omega)
        have k66 := (hF2 66 (by omega)).trans k66
        refine n_f2d C dL_law_631 (alS_d hlen a1 a2) ?_
        refine n_dstore (lv' := [(7, .double (FP.f2d (alS R9 a1 a2))), (0, .ref b), (1, .ref (ad 0)), (2, .ref (ad 53)), (3, .ref (ad 66)), (4, .int (iI (i : Int))), (5, .double (FP.f2d (alS R9 a1 a2)))]) C dL_law_632 (by decide) rfl ?_
        refine n_sub (lv2 := [(0, .ref b), (1, .ref (ad 0)), (2, .ref (ad 53)), (3, .ref (ad 66)), (4, .int (iI (i : Int))), (5, .double (FP.f2d (alS R9 a1 a2))), (7, .double (FP.f2d (alS R9 a1 a2)))]) [1, 2, 3, 4, 5, 6, 0] rfl ?_
        refine n_dload C dL_law_634 5 rfl ?_
        refine n_dload C dL_law_636 6 rfl ?_
        refine n_dcmp C dL_law_638 ?_
        refine n_if_eqR C dL_law_639 (by decide) (tgt := 660) (fun c2 => ?_) (fun c2 => ?_)
        · refine n_goto (tgt := 663) C dL_law_660 (by decide) ?_
          refine n_iinc (lv' := [(0, .ref b), (1, .ref (ad 0)), (2, .ref (ad 53)), (3, .ref (ad 66)), (4, .int (iI ((i : Int) + 4))), (5, .double (FP.f2d (alS R9 a1 a2))), (7, .double (FP.f2d (alS R9 a1 a2)))]) C dL_law_663 4 rfl (by decide) rfl ?_
          refine n_goto (tgt := 33) C dL_law_666 (by decide) ?_
          refine n_sub (lv2 := [(0, .ref b), (1, .ref (ad 0)), (2, .ref (ad 53)), (3, .ref (ad 66)), (4, .int (iI ((i : Int) + 4)))]) [0, 1, 2, 3, 4] rfl ?_
          refine n_lv (lv2 := [(0, .ref b), (1, .ref (ad 0)), (2, .ref (ad 53)), (3, .ref (ad 66)), (4, .int (iI ((i + 4 : Nat) : Int)))]) (by simp) ?_
          refine n_widen (c2 := 75 + (i + 4)) (s2 := 2225 + 6 * (i + 4)) (by omega) (by omega) ?_
          exact ih (i + 4) _ _ _ _ _ _ _ f e2 (by omega) (by omega) (by omega) hD hM k66
        · refine n_dload C dL_law_642 5 rfl ?_
          refine n_dload C dL_law_644 5 rfl ?_
          refine n_dcmp C dL_law_646 ?_
          refine n_if_eqR C dL_law_647 (by decide) (tgt := 658) (fun c9 => absurd c9 (c2)) (fun _ => ?_)
          refine n_dload C dL_law_650 6 rfl ?_
          refine n_dload C dL_law_652 6 rfl ?_
          refine n_dcmp C dL_law_654 ?_
          refine n_if_neR C dL_law_655 (by decide) (tgt := 660) (fun _ => ?_) (fun c9 => absurd c9 (c2))
          refine n_goto (tgt := 663) C dL_law_660 (by decide) ?_
          refine n_iinc (lv' := [(0, .ref b), (1, .ref (ad 0)), (2, .ref (ad 53)), (3, .ref (ad 66)), (4, .int (iI ((i : Int) + 4))), (5, .double (FP.f2d (alS R9 a1 a2))), (7, .double (FP.f2d (alS R9 a1 a2)))]) C dL_law_663 4 rfl (by decide) rfl ?_
          refine n_goto (tgt := 33) C dL_law_666 (by decide) ?_
          refine n_sub (lv2 := [(0, .ref b), (1, .ref (ad 0)), (2, .ref (ad 53)), (3, .ref (ad 66)), (4, .int (iI ((i : Int) + 4)))]) [0, 1, 2, 3, 4] rfl ?_
          refine n_lv (lv2 := [(0, .ref b), (1, .ref (ad 0)), (2, .ref (ad 53)), (3, .ref (ad 66)), (4, .int (iI ((i + 4 : Nat) : Int)))]) (by simp) ?_
          refine n_widen (c2 := 75 + (i + 4)) (s2 := 2225 + 6 * (i + 4)) (by omega) (by omega) ?_
          exact ih (i + 4) _ _ _ _ _ _ _ f e2 (by omega) (by omega) (by omega) hD hM k66
      · refine n_tswOut (tgt := 663) C dL_law_49 (by omega) (by omega) (by omega) (by decide) ?_
        refine n_iinc (lv' := [(0, .ref b), (1, .ref (ad 0)), (2, .ref (ad 53)), (3, .ref (ad 66)), (4, .int (iI ((i : Int) + 4)))]) C dL_law_663 4 rfl (by decide) rfl ?_
        refine n_goto (tgt := 33) C dL_law_666 (by decide) ?_
        refine n_sub (lv2 := [(0, .ref b), (1, .ref (ad 0)), (2, .ref (ad 53)), (3, .ref (ad 66)), (4, .int (iI ((i : Int) + 4)))]) [0, 1, 2, 3, 4] rfl ?_
        refine n_lv (lv2 := [(0, .ref b), (1, .ref (ad 0)), (2, .ref (ad 53)), (3, .ref (ad 66)), (4, .int (iI ((i + 4 : Nat) : Int)))]) (by simp) ?_
        refine n_widen (c2 := 75 + (i + 4)) (s2 := 2225 + 6 * (i + 4)) (by omega) (by omega) ?_
        exact ih (i + 4) _ _ _ _ _ _ _ f ev (by omega) (by omega) (by omega) hD hM k66
