/-! constructors -/
section Alloc2
variable {p : Program} {l : Launch} {E : Env} {R : Room} {s : State} {m : MethodId} {args : Array Value} {below : List Frame} {meth : Method} {c : Code} {G : GG} {A : Nat → Prop} {nL : Nat} {Q : State → Prop} {N : Nat} {ad : Nat → Nat} {ev : Nat → va_E} {cells slots pc : Nat} {lv lv' : List (Nat × Value)} {st : List Value} {cc : ByteArray} {own : String} {Ts : List Cond}
theorem n_nm {N2 c2 s2 : Nat} (h1 : N = N2) (h2 : cells = c2) (h3 : slots = s2) (k : V p l E R s m args below meth c G A nL Q N2 ad ev c2 s2 pc lv st) : V p l E R s m args below meth c G A nL Q N ad ev cells slots pc lv st := by subst h1; subst h2; subst h3; exact k
theorem n_rf {i q : Nat} (h : ad i = q) (k : V p l E R s m args below meth c G A nL Q N ad ev cells slots pc lv (.ref (ad i) :: st)) : V p l E R s m args below meth c G A nL Q N ad ev cells slots pc lv (.ref q :: st) := by subst h; exact k
theorem n_rf1 {i q : Nat} {v : Value} (h : ad i = q) (k : V p l E R s m args below meth c G A nL Q N ad ev cells slots pc lv (v :: .ref (ad i) :: st)) : V p l E R s m args below meth c G A nL Q N ad ev cells slots pc lv (v :: .ref q :: st) := by subst h; exact k
theorem n_rf2 {i q : Nat} {v w : Value} (h : ad i = q) (k : V p l E R s m args below meth c G A nL Q N ad ev cells slots pc lv (v :: w :: .ref (ad i) :: st)) : V p l E R s m args below meth c G A nL Q N ad ev cells slots pc lv (v :: w :: .ref q :: st) := by subst h; exact k
end Alloc2
theorem RowAt.mv {G : GG} {ad ad2 : Nat → Nat} {ev e2 : Nat → va_E} {i : Nat} {xs : List Int32} {cap : Nat} (h : RowAt G ad ev i xs cap) (ha : ad2 (i + 1) = ad (i + 1)) (h0 : e2 i = ev i) (h1 : e2 (i + 1) = ev (i + 1)) : RowAt G ad2 e2 i xs cap := by
  obtain ⟨f, a, b, c⟩ := h
  exact ⟨f, by rw [h0, a, ha], by rw [h1, b], c⟩
theorem ScrAt.mv {G : GG} {ad ad2 : Nat → Nat} {ev e2 : Nat → va_E} {i : Nat} {ops : List Tr} (h : ScrAt G ad ev i ops) (ha : ∀ j, i < j → j < i + 4 → ad2 j = ad j) (he : ∀ j, i ≤ j → j < i + 4 → e2 j = ev j) : ScrAt G ad2 e2 i ops := by
  obtain ⟨fk, fp, fs, a, b, c, d, e⟩ := h
  exact ⟨fk, fp, fs, by rw [he i (by omega) (by omega), a, ha (i + 1) (by omega) (by omega), ha (i + 2) (by omega) (by omega), ha (i + 3) (by omega) (by omega)], by rw [he _ (by omega) (by omega), b], by rw [he _ (by omega) (by omega), c], by rw [he _ (by omega) (by omega), d], e⟩
abbrev rmX2_init (cap : Nat) : Room := { frames := 1, cells := 1, slots := cap, locals := 24 }
abbrev rmX3_init : Room := { frames := 1, cells := 3, slots := 180, locals := 24 }
abbrev rmX4_init : Room := { frames := 1, cells := 0, slots := 0, locals := 24 }
abbrev rmX0_init : Room := { frames := 2, cells := 24, slots := 464, locals := 45 }
abbrev rmX1_init : Room := { frames := 2, cells := 7, slots := 53, locals := 45 }
abbrev rmX5_init : Room := { frames := 3, cells := 52, slots := 1215, locals := 68 }
abbrev rmX6_init : Room := { frames := 1, cells := 12, slots := 976, locals := 24 }

set_option maxHeartbeats 4000000 in
set_option maxRecDepth 100000 in
theorem TX2_init (l : Launch) {G : GG} {ad : Nat → Nat} {ev : Nat → va_E} {i cap q : Nat} (hq : ad i = q) (he : ev i = .inr (2, [.null, .int (iI 0)])) (hcap : cap ≤ 1000) : Ca l yX2_init wsX2_init (rmX2_init cap) [.ref q, .int (iI (cap : Int))] G (i + 1) (i + 2) ad ev 1 cap (fun ad2 e2 => RowAt G ad2 e2 i [] cap ∧ ∀ j, j < i → e2 j = ev j) := by
  refine Ca_of (cc := cX2_init) (maxL := 2) (ret := none) (lv := [(0, .ref q), (1, .int (iI (cap : Int)))]) (by decide) rfl (Nat.le_of_ble_eq_true rfl) rfl ?_
  intro p E s m args below meth c A C hr hnm hX
  have hG00 : Gr (i + 1) ad ad := fun j hj => rfl
  have hE00 : ∀ j, j < i + 1 → j ≠ i → ev j = ev j := fun j hj h1 => rfl
  refine n_aload_n C dX2_init_0 0 rfl rfl ?_
  refine n_objI C dX2_init_1 (List.mem_of_getElem? (i := 1) rfl) (List.mem_of_getElem? (i := 2) rfl) (List.mem_of_getElem? (i := 3) rfl) (Nat.le_of_ble_eq_true rfl) (Nat.le_of_ble_eq_true rfl) ?_
  refine n_st (st2 := []) rfl ?_
  refine n_aload_n C dX2_init_4 0 rfl rfl ?_
  refine n_iload_n C dX2_init_5 1 rfl rfl ?_
  refine n_newI (n := cap) C dX2_init_6 (List.mem_of_getElem? (i := 4) rfl) (by omega) (Nat.le_of_ble_eq_true rfl) (by show 0 + cap ≤ cap; omega) (fun ad1 e2 hg3 hE4 hn5 => ?_)
  refine n_nm (N2 := i + 2) (c2 := 1) (s2 := cap) rfl rfl (by omega) ?_
  have hq := (hg3 i (by omega)).trans hq
  have qh6 := (hE4 i (by omega)).trans he
  have hG00 : Gr (i + 1) ad ad1 := fun j hj => (hg3 j (by omega)).trans (hG00 j hj)
  have hE00 : ∀ j, j < i + 1 → j ≠ i → e2 j = ev j := fun j hj h1 => (hE4 j (by omega)).trans (hE00 j hj h1)
  have hGv7 : Gr (i + 2) ad1 ad1 := fun j hj => rfl
  have hEv7 : ∀ j, j < i + 2 → j ≠ i → e2 j = e2 j := fun j hj h1 => rfl
  refine n_st (st2 := [.ref (ad1 (i + 1)), .ref q]) rfl ?_
  refine n_rf1 hq ?_
  refine n_putF (k9 := 0) (fs2 := [.ref (ad1 (i + 1)), .int (iI 0)]) C dX2_init_8 (by omega) qh6 hX2_init_X2 tyX2_ok nmX2 rfl (by decide) kX2_init_9 rfl hnm rfl rfl rfl (Nat.le_of_ble_eq_true rfl) rfl (fun e8 hs9 ho10 => ?_)
  have hE00 : ∀ j, j < i + 1 → j ≠ i → e8 j = ev j := fun j hj h1 => (ho10 j (by omega)).trans (hE00 j hj h1)
  have hEv7 : ∀ j, j < i + 2 → j ≠ i → e8 j = e2 j := fun j hj h1 => (ho10 j (by omega)).trans (hEv7 j hj h1)
  refine n_aload_n C dX2_init_11 0 rfl rfl ?_
  refine n_iconst C dX2_init_12 ?_
  refine n_rf1 hq ?_
  refine n_put (k9 := 1) (fs2 := [.ref (ad1 (i + 1)), .int (iI 0)]) C dX2_init_13 (by omega) hs9 hX2_init_X2 tyX2_ok nmX2 rfl (by decide) kX2_init_15 rfl rfl rfl (Nat.le_of_ble_eq_true rfl) rfl (fun e11 hs12 ho13 => ?_)
  have hE00 : ∀ j, j < i + 1 → j ≠ i → e11 j = ev j := fun j hj h1 => (ho13 j (by omega)).trans (hE00 j hj h1)
  have hEv7 : ∀ j, j < i + 2 → j ≠ i → e11 j = e2 j := fun j hj h1 => (ho13 j (by omega)).trans (hEv7 j hj h1)
  exact n_vretA C hr dX2_init_16 hG00 (⟨⟨fun _ => 0, hs12.trans (by rfl), (hEv7 (i + 1) (by omega) (by omega)).trans hn5, fun j hj => absurd hj (Nat.not_lt_zero j), Nat.zero_le _, hcap⟩, fun j hj => hE00 j (by omega) (by omega)⟩)

set_option maxHeartbeats 4000000 in
set_option maxRecDepth 100000 in
theorem TX3_init (l : Launch) {G : GG} {ad : Nat → Nat} {ev : Nat → va_E} {i q : Nat} (hq : ad i = q) (he : ev i = .inr (3, [.null, .null, .null, .int (iI 0)])) : Ca l yX3_init wsX3_init rmX3_init [.ref q] G (i + 1) (i + 4) ad ev 3 180 (fun ad2 e2 => ScrAt G ad2 e2 i [] ∧ ∀ j, j < i → e2 j = ev j) := by
  refine Ca_of (cc := cX3_init) (maxL := 1) (ret := none) (lv := [(0, .ref q)]) (by decide) rfl (Nat.le_of_ble_eq_true rfl) rfl ?_
  intro p E s m args below meth c A C hr hnm hX
  have hG00 : Gr (i + 1) ad ad := fun j hj => rfl
  have hE00 : ∀ j, j < i + 1 → j ≠ i → ev j = ev j := fun j hj h1 => rfl
  refine n_aload_n C dX3_init_0 0 rfl rfl ?_
  refine n_objI C dX3_init_1 (List.mem_of_getElem? (i := 1) rfl) (List.mem_of_getElem? (i := 2) rfl) (List.mem_of_getElem? (i := 3) rfl) (Nat.le_of_ble_eq_true rfl) (Nat.le_of_ble_eq_true rfl) ?_
  refine n_st (st2 := []) rfl ?_
  refine n_aload_n C dX3_init_4 0 rfl rfl ?_
  refine n_bipush C dX3_init_5 (by decide) ?_
  refine n_newI (n := 60) C dX3_init_7 (List.mem_of_getElem? (i := 4) rfl) (Nat.le_of_ble_eq_true rfl) (Nat.le_of_ble_eq_true rfl) (Nat.le_of_ble_eq_true rfl) (fun ad1 e2 hg3 hE4 hn5 => ?_)
  refine n_nm (N2 := i + 2) (c2 := 1) (s2 := 60) rfl rfl rfl ?_
  have hq := (hg3 i (by omega)).trans hq
  have qh6 := (hE4 i (by omega)).trans he
  have hG00 : Gr (i + 1) ad ad1 := fun j hj => (hg3 j (by omega)).trans (hG00 j hj)
  have hE00 : ∀ j, j < i + 1 → j ≠ i → e2 j = ev j := fun j hj h1 => (hE4 j (by omega)).trans (hE00 j hj h1)
  have hGv7 : Gr (i + 2) ad1 ad1 := fun j hj => rfl
  have hEv7 : ∀ j, j < i + 2 → j ≠ i → e2 j = e2 j := fun j hj h1 => rfl
  refine n_st (st2 := [.ref (ad1 (i + 1)), .ref q]) rfl ?_
  refine n_rf1 hq ?_
  refine n_putF (k9 := 0) (fs2 := [.ref (ad1 (i + 1)), .null, .null, .int (iI 0)]) C dX3_init_9 (by omega) qh6 hX3_init_X3 tyX3_ok nmX3 rfl (by decide) kX3_init_9 rfl hnm rfl rfl rfl (Nat.le_of_ble_eq_true rfl) rfl (fun e8 hs9 ho10 => ?_)
  have hE00 : ∀ j, j < i + 1 → j ≠ i → e8 j = ev j := fun j hj h1 => (ho10 j (by omega)).trans (hE00 j hj h1)
  have hEv7 : ∀ j, j < i + 2 → j ≠ i → e8 j = e2 j := fun j hj h1 => (ho10 j (by omega)).trans (hEv7 j hj h1)
  refine n_aload_n C dX3_init_12 0 rfl rfl ?_
  refine n_bipush C dX3_init_13 (by decide) ?_
  refine n_newI (n := 60) C dX3_init_15 (List.mem_of_getElem? (i := 4) rfl) (Nat.le_of_ble_eq_true rfl) (Nat.le_of_ble_eq_true rfl) (Nat.le_of_ble_eq_true rfl) (fun ad11 e12 hg13 hE14 hn15 => ?_)
  refine n_nm (N2 := i + 3) (c2 := 2) (s2 := 120) rfl rfl rfl ?_
  have hq := (hg13 i (by omega)).trans hq
  have qh16 := (hE14 i (by omega)).trans hs9
  have hG00 : Gr (i + 1) ad ad11 := fun j hj => (hg13 j (by omega)).trans (hG00 j hj)
  have hE00 : ∀ j, j < i + 1 → j ≠ i → e12 j = ev j := fun j hj h1 => (hE14 j (by omega)).trans (hE00 j hj h1)
  have hGv7 : Gr (i + 2) ad1 ad11 := fun j hj => (hg13 j (by omega)).trans (hGv7 j hj)
  have hEv7 : ∀ j, j < i + 2 → j ≠ i → e12 j = e2 j := fun j hj h1 => (hE14 j (by omega)).trans (hEv7 j hj h1)
  have hGv17 : Gr (i + 3) ad11 ad11 := fun j hj => rfl
  have hEv17 : ∀ j, j < i + 3 → j ≠ i → e12 j = e12 j := fun j hj h1 => rfl
  refine n_st (st2 := [.ref (ad11 (i + 2)), .ref q]) rfl ?_
  refine n_rf1 hq ?_
  refine n_putF (k9 := 1) (fs2 := [.ref (ad1 (i + 1)), .ref (ad11 (i + 2)), .null, .int (iI 0)]) C dX3_init_17 (by omega) qh16 hX3_init_X3 tyX3_ok nmX3 rfl (by decide) kX3_init_15 rfl hnm rfl rfl rfl (Nat.le_of_ble_eq_true rfl) rfl (fun e18 hs19 ho20 => ?_)
  have hE00 : ∀ j, j < i + 1 → j ≠ i → e18 j = ev j := fun j hj h1 => (ho20 j (by omega)).trans (hE00 j hj h1)
  have hEv7 : ∀ j, j < i + 2 → j ≠ i → e18 j = e2 j := fun j hj h1 => (ho20 j (by omega)).trans (hEv7 j hj h1)
  have hEv17 : ∀ j, j < i + 3 → j ≠ i → e18 j = e12 j := fun j hj h1 => (ho20 j (by omega)).trans (hEv17 j hj h1)
  refine n_aload_n C dX3_init_20 0 rfl rfl ?_
  refine n_bipush C dX3_init_21 (by decide) ?_
  refine n_newI (n := 60) C dX3_init_23 (List.mem_of_getElem? (i := 4) rfl) (Nat.le_of_ble_eq_true rfl) (Nat.le_of_ble_eq_true rfl) (Nat.le_of_ble_eq_true rfl) (fun ad21 e22 hg23 hE24 hn25 => ?_)
  refine n_nm (N2 := i + 4) (c2 := 3) (s2 := 180) rfl rfl rfl ?_
  have hq := (hg23 i (by omega)).trans hq
  have qh26 := (hE24 i (by omega)).trans hs19
  have hG00 : Gr (i + 1) ad ad21 := fun j hj => (hg23 j (by omega)).trans (hG00 j hj)
  have hE00 : ∀ j, j < i + 1 → j ≠ i → e22 j = ev j := fun j hj h1 => (hE24 j (by omega)).trans (hE00 j hj h1)
  have hGv7 : Gr (i + 2) ad1 ad21 := fun j hj => (hg23 j (by omega)).trans (hGv7 j hj)
  have hEv7 : ∀ j, j < i + 2 → j ≠ i → e22 j = e2 j := fun j hj h1 => (hE24 j (by omega)).trans (hEv7 j hj h1)
  have hGv17 : Gr (i + 3) ad11 ad21 := fun j hj => (hg23 j (by omega)).trans (hGv17 j hj)
  have hEv17 : ∀ j, j < i + 3 → j ≠ i → e22 j = e12 j := fun j hj h1 => (hE24 j (by omega)).trans (hEv17 j hj h1)
  have hGv27 : Gr (i + 4) ad21 ad21 := fun j hj => rfl
  have hEv27 : ∀ j, j < i + 4 → j ≠ i → e22 j = e22 j := fun j hj h1 => rfl
  refine n_st (st2 := [.ref (ad21 (i + 3)), .ref q]) rfl ?_
  refine n_rf1 hq ?_
  refine n_putF (k9 := 2) (fs2 := [.ref (ad1 (i + 1)), .ref (ad11 (i + 2)), .ref (ad21 (i + 3)), .int (iI 0)]) C dX3_init_25 (by omega) qh26 hX3_init_X3 tyX3_ok nmX3 rfl (by decide) kX3_init_18 rfl hnm rfl rfl rfl (Nat.le_of_ble_eq_true rfl) rfl (fun e28 hs29 ho30 => ?_)
  have hE00 : ∀ j, j < i + 1 → j ≠ i → e28 j = ev j := fun j hj h1 => (ho30 j (by omega)).trans (hE00 j hj h1)
  have hEv7 : ∀ j, j < i + 2 → j ≠ i → e28 j = e2 j := fun j hj h1 => (ho30 j (by omega)).trans (hEv7 j hj h1)
  have hEv17 : ∀ j, j < i + 3 → j ≠ i → e28 j = e12 j := fun j hj h1 => (ho30 j (by omega)).trans (hEv17 j hj h1)
  have hEv27 : ∀ j, j < i + 4 → j ≠ i → e28 j = e22 j := fun j hj h1 => (ho30 j (by omega)).trans (hEv27 j hj h1)
  refine n_aload_n C dX3_init_28 0 rfl rfl ?_
  refine n_iconst C dX3_init_29 ?_
  refine n_rf1 hq ?_
  refine n_put (k9 := 3) (fs2 := [.ref (ad1 (i + 1)), .ref (ad11 (i + 2)), .ref (ad21 (i + 3)), .int (iI 0)]) C dX3_init_30 (by omega) hs29 hX3_init_X3 tyX3_ok nmX3 rfl (by decide) kX3_init_21 rfl rfl rfl (Nat.le_of_ble_eq_true rfl) rfl (fun e31 hs32 ho33 => ?_)
  have hE00 : ∀ j, j < i + 1 → j ≠ i → e31 j = ev j := fun j hj h1 => (ho33 j (by omega)).trans (hE00 j hj h1)
  have hEv7 : ∀ j, j < i + 2 → j ≠ i → e31 j = e2 j := fun j hj h1 => (ho33 j (by omega)).trans (hEv7 j hj h1)
  have hEv17 : ∀ j, j < i + 3 → j ≠ i → e31 j = e12 j := fun j hj h1 => (ho33 j (by omega)).trans (hEv17 j hj h1)
  have hEv27 : ∀ j, j < i + 4 → j ≠ i → e31 j = e22 j := fun j hj h1 => (ho33 j (by omega)).trans (hEv27 j hj h1)
  exact n_vretA C hr dX3_init_33 hG00 (⟨⟨fun _ => 0, fun _ => 0, fun _ => 0, hs32.trans (by rw [hGv7 (i + 1) (by omega), hGv17 (i + 2) (by omega)]; rfl), (hEv7 (i + 1) (by omega) (by omega)).trans hn5, (hEv17 (i + 2) (by omega) (by omega)).trans hn15, (hEv27 (i + 3) (by omega) (by omega)).trans hn25, fun j hj => absurd hj (Nat.not_lt_zero j), Nat.zero_le _⟩, fun j hj => hE00 j (by omega) (by omega)⟩)

set_option maxHeartbeats 4000000 in
set_option maxRecDepth 100000 in
theorem TX4_init (l : Launch) {G : GG} {ad : Nat → Nat} {ev : Nat → va_E} {i q r : Nat} (hq : ad i = q) (he : ev i = .inr (4, [.null, .int (iI 0), .int (iI 0)])) : Ca l yX4_init wsX4_init rmX4_init [.ref q, .ref r] G (i + 1) (i + 1) ad ev 0 0 (fun ad2 e2 => e2 i = .inr (4, [.ref r, .int (iI 0), .int (iI 0)]) ∧ ∀ j, j < i → e2 j = ev j) := by
  refine Ca_of (cc := cX4_init) (maxL := 2) (ret := none) (lv := [(0, .ref q), (1, .ref r)]) (by decide) rfl (Nat.le_of_ble_eq_true rfl) rfl ?_
  intro p E s m args below meth c A C hr hnm hX
  have hG00 : Gr (i + 1) ad ad := fun j hj => rfl
  have hE00 : ∀ j, j < i + 1 → j ≠ i → ev j = ev j := fun j hj h1 => rfl
  refine n_aload_n C dX4_init_0 0 rfl rfl ?_
  refine n_objI C dX4_init_1 (List.mem_of_getElem? (i := 1) rfl) (List.mem_of_getElem? (i := 2) rfl) (List.mem_of_getElem? (i := 3) rfl) (Nat.le_of_ble_eq_true rfl) (Nat.le_of_ble_eq_true rfl) ?_
  refine n_st (st2 := []) rfl ?_
  refine n_aload_n C dX4_init_4 0 rfl rfl ?_
  refine n_aload_n C dX4_init_5 1 rfl rfl ?_
  refine n_rf1 hq ?_
  refine n_putF (k9 := 0) (fs2 := [.ref r, .int (iI 0), .int (iI 0)]) C dX4_init_6 (by omega) he hX4_init_X4 tyX4_ok nmX4 rfl (by decide) kX4_init_9 rfl hnm rfl rfl rfl (Nat.le_of_ble_eq_true rfl) rfl (fun e1 hs2 ho3 => ?_)
  have hE00 : ∀ j, j < i + 1 → j ≠ i → e1 j = ev j := fun j hj h1 => (ho3 j (by omega)).trans (hE00 j hj h1)
  refine n_aload_n C dX4_init_9 0 rfl rfl ?_
  refine n_iconst C dX4_init_10 ?_
  refine n_rf1 hq ?_
  refine n_put (k9 := 1) (fs2 := [.ref r, .int (iI 0), .int (iI 0)]) C dX4_init_11 (by omega) hs2 hX4_init_X4 tyX4_ok nmX4 rfl (by decide) kX4_init_15 rfl rfl rfl (Nat.le_of_ble_eq_true rfl) rfl (fun e4 hs5 ho6 => ?_)
  have hE00 : ∀ j, j < i + 1 → j ≠ i → e4 j = ev j := fun j hj h1 => (ho6 j (by omega)).trans (hE00 j hj h1)
  refine n_aload_n C dX4_init_14 0 rfl rfl ?_
  refine n_iconst C dX4_init_15 ?_
  refine n_rf1 hq ?_
  refine n_put (k9 := 2) (fs2 := [.ref r, .int (iI 0), .int (iI 0)]) C dX4_init_16 (by omega) hs5 hX4_init_X4 tyX4_ok nmX4 rfl (by decide) kX4_init_19 rfl rfl rfl (Nat.le_of_ble_eq_true rfl) rfl (fun e7 hs8 ho9 => ?_)
  have hE00 : ∀ j, j < i + 1 → j ≠ i → e7 j = ev j := fun j hj h1 => (ho9 j (by omega)).trans (hE00 j hj h1)
  exact n_vretA C hr dX4_init_19 hG00 (⟨hs8, fun j hj => hE00 j (by omega) (by omega)⟩)

set_option maxHeartbeats 4000000 in
set_option maxRecDepth 100000 in
theorem TX0_init (l : Launch) {G : GG} {ad : Nat → Nat} {ev : Nat → va_E} {q : Nat} (hq : ad 16 = q) (he : ev 16 = .inr (0, [.null, .null, .null])) : Ca l yX0_init wsX0_init rmX0_init [.ref q] G (17) (41) ad ev 24 464 (fun ad2 e2 => CmpAt G ad2 e2 39 39 (fun _ _ => 0) ∧ ∀ j, j < 16 → e2 j = ev j) := by
  refine Ca_of (cc := cX0_init) (maxL := 1) (ret := none) (lv := [(0, .ref q)]) (by decide) rfl (Nat.le_of_ble_eq_true rfl) rfl ?_
  intro p E s m args below meth c A C hr hnm hX
  have hG00 : Gr (17) ad ad := fun j hj => rfl
  have hE00 : ∀ j, j < 17 → j ≠ 16 → ev j = ev j := fun j hj h1 => rfl
  refine n_aload_n C dX0_init_0 0 rfl rfl ?_
  refine n_objI C dX0_init_1 (List.mem_of_getElem? (i := 1) rfl) (List.mem_of_getElem? (i := 2) rfl) (List.mem_of_getElem? (i := 3) rfl) (Nat.le_of_ble_eq_true rfl) (Nat.le_of_ble_eq_true rfl) ?_
  refine n_st (st2 := []) rfl ?_
  refine n_aload_n C dX0_init_4 0 rfl rfl ?_
  refine n_bipush C dX0_init_5 (by decide) ?_
  refine n_bipush C dX0_init_7 (by decide) ?_
  refine n_mna C hX dX0_init_9 (List.mem_of_getElem? (i := 4) rfl) (List.mem_of_getElem? (i := 5) rfl) (Nat.le_of_ble_eq_true rfl) (Nat.le_of_ble_eq_true rfl) (fun ad1 e2 hg3 hE4 hn5 hi6 => ?_)
  refine n_nm (N2 := 39) (c2 := 22) (s2 := 462) rfl rfl rfl ?_
  have hq := (hg3 16 (by omega)).trans hq
  have qh7 := (hE4 16 (by omega)).trans he
  have hG00 : Gr 17 ad ad1 := fun j hj => (hg3 j (by omega)).trans (hG00 j hj)
  have hE00 : ∀ j, j < 17 → j ≠ 16 → e2 j = ev j := fun j hj h1 => (hE4 j (by omega)).trans (hE00 j hj h1)
  have hGv8 : Gr 39 ad1 ad1 := fun j hj => rfl
  have hEv8 : ∀ j, j < 39 → j ≠ 16 → e2 j = e2 j := fun j hj h1 => rfl
  refine n_st (st2 := [.ref (ad1 17), .ref q]) rfl ?_
  refine n_rf1 hq ?_
  refine n_putF (k9 := 0) (fs2 := [.ref (ad1 17), .null, .null]) C dX0_init_13 (by omega) qh7 hX0_init_X0 tyX0_ok nmX0 rfl (by decide) kX0_init_11 rfl hnm rfl rfl rfl (Nat.le_of_ble_eq_true rfl) rfl (fun e9 hs10 ho11 => ?_)
  have hE00 : ∀ j, j < 17 → j ≠ 16 → e9 j = ev j := fun j hj h1 => (ho11 j (by omega)).trans (hE00 j hj h1)
  have hEv8 : ∀ j, j < 39 → j ≠ 16 → e9 j = e2 j := fun j hj h1 => (ho11 j (by omega)).trans (hEv8 j hj h1)
  refine n_aload_n C dX0_init_16 0 rfl rfl ?_
  refine n_new (ci := 2) (fs := [.null, .int (iI 0)]) C dX0_init_17 hX0_init_X2 tyX2_ok (List.mem_of_getElem? (i := 7) rfl) (List.mem_of_getElem? (i := 8) rfl) (List.mem_of_getElem? (i := 9) rfl) rfl (by intro j hj; rcases (show j = 0 ∨ j = 1 by omega) with rfl | rfl <;> rfl) (Nat.le_of_ble_eq_true rfl) (Nat.le_of_ble_eq_true rfl) (fun ad12 e13 hg14 hE15 hn16 => ?_)
  refine n_nm (N2 := 40) (c2 := 23) (s2 := 464) rfl rfl rfl ?_
  have hq := (hg14 16 (by omega)).trans hq
  have qh17 := (hE15 16 (by omega)).trans hs10
  have hG00 : Gr 17 ad ad12 := fun j hj => (hg14 j (by omega)).trans (hG00 j hj)
  have hE00 : ∀ j, j < 17 → j ≠ 16 → e13 j = ev j := fun j hj h1 => (hE15 j (by omega)).trans (hE00 j hj h1)
  have hGv8 : Gr 39 ad1 ad12 := fun j hj => (hg14 j (by omega)).trans (hGv8 j hj)
  have hEv8 : ∀ j, j < 39 → j ≠ 16 → e13 j = e2 j := fun j hj h1 => (hE15 j (by omega)).trans (hEv8 j hj h1)
  refine n_st (st2 := [.ref (ad12 39), .ref q]) rfl ?_
  refine n_dup C dX0_init_20 rfl ?_
  refine n_iconst C dX0_init_21 ?_
  refine n_st (st2 := [.int (iI ((0 : Nat) : Int)), .ref (ad12 39), .ref (ad12 39), .ref q]) rfl ?_
  refine n_callI (As := [.int (iI ((0 : Nat) : Int))]) (rest := [.ref (ad12 39), .ref q]) C hX dX0_init_22 (TX2_init l (i := 39) (cap := 0) rfl hn16 (by omega)) (cwI 1 C.2.2.2.2.1 gX0_init_X2_init rfl rfl rfl (C.2.2.2.2.1 _ (List.mem_of_getElem? (i := 9) rfl)) (C.2.2.2.2.1 _ (List.mem_of_getElem? (i := 12) rfl)) (C.2.2.2.2.1 _ (List.mem_of_getElem? (i := 13) rfl)) rfl cdX2_init.2 ⟨(Nat.le_of_ble_eq_true rfl), (Nat.le_of_ble_eq_true rfl)⟩) rfl rfl (Nat.le_of_ble_eq_true rfl) ⟨(Nat.le_of_ble_eq_true rfl), (Nat.le_of_ble_eq_true rfl)⟩ ?_
  rintro ad18 e19 hg20 ⟨hrw, hE21⟩
  refine n_pc (pc2 := 25) rfl ?_
  refine n_nm (N2 := 41) (c2 := 24) (s2 := 464) rfl rfl rfl ?_
  have hq := (hg20 16 (by omega)).trans hq
  have qh22 := (hE21 16 (by omega)).trans qh17
  have hG00 : Gr 17 ad ad18 := fun j hj => (hg20 j (by omega)).trans (hG00 j hj)
  have hE00 : ∀ j, j < 17 → j ≠ 16 → e19 j = ev j := fun j hj h1 => (hE21 j (by omega)).trans (hE00 j hj h1)
  have hGv8 : Gr 39 ad1 ad18 := fun j hj => (hg20 j (by omega)).trans (hGv8 j hj)
  have hEv8 : ∀ j, j < 39 → j ≠ 16 → e19 j = e2 j := fun j hj h1 => (hE21 j (by omega)).trans (hEv8 j hj h1)
  refine n_st (st2 := [.ref (ad18 39), .ref q]) (by rw [hg20 39 (by omega)]) ?_
  have hGv23 : Gr 41 ad18 ad18 := fun j hj => rfl
  have hEv23 : ∀ j, j < 41 → j ≠ 16 → e19 j = e19 j := fun j hj h1 => rfl
  refine n_rf1 hq ?_
  refine n_put (k9 := 1) (fs2 := [.ref (ad1 17), .ref (ad18 39), .null]) C dX0_init_25 (by omega) qh22 hX0_init_X0 tyX0_ok nmX0 rfl (by decide) kX0_init_21 rfl rfl rfl (Nat.le_of_ble_eq_true rfl) rfl (fun e24 hs25 ho26 => ?_)
  have hE00 : ∀ j, j < 17 → j ≠ 16 → e24 j = ev j := fun j hj h1 => (ho26 j (by omega)).trans (hE00 j hj h1)
  have hEv8 : ∀ j, j < 39 → j ≠ 16 → e24 j = e2 j := fun j hj h1 => (ho26 j (by omega)).trans (hEv8 j hj h1)
  have hEv23 : ∀ j, j < 41 → j ≠ 16 → e24 j = e19 j := fun j hj h1 => (ho26 j (by omega)).trans (hEv23 j hj h1)
  refine n_aload_n C dX0_init_28 0 rfl rfl ?_
  refine n_aload_n C dX0_init_29 0 rfl rfl ?_
  refine n_rf hq ?_
  refine n_get (k9 := 1) C dX0_init_30 (by omega) hs25 hX0_init_X0 rfl (by decide) kX0_init_21 rfl ?_
  refine n_rf1 hq ?_
  refine n_put (k9 := 2) (fs2 := [.ref (ad1 17), .ref (ad18 39), .ref (ad18 39)]) C dX0_init_33 (by omega) hs25 hX0_init_X0 tyX0_ok nmX0 rfl (by decide) kX0_init_25 rfl rfl rfl (Nat.le_of_ble_eq_true rfl) rfl (fun e27 hs28 ho29 => ?_)
  have hE00 : ∀ j, j < 17 → j ≠ 16 → e27 j = ev j := fun j hj h1 => (ho29 j (by omega)).trans (hE00 j hj h1)
  have hEv8 : ∀ j, j < 39 → j ≠ 16 → e27 j = e2 j := fun j hj h1 => (ho29 j (by omega)).trans (hEv8 j hj h1)
  have hEv23 : ∀ j, j < 41 → j ≠ 16 → e27 j = e19 j := fun j hj h1 => (ho29 j (by omega)).trans (hEv23 j hj h1)
  exact n_vretA C hr dX0_init_36 hG00 (⟨⟨hs28.trans (by rw [hGv8 17 (by omega), hGv23 39 (by omega)]), ((hEv8 17 (by omega) (by omega)).trans hn5).trans (by
      congr 7
      funext i9
      by_cases h9 : i9 < 21
      · rw [if_pos h9, if_pos h9, hGv8 (18 + i9) (by omega)]
      · rw [if_neg h9, if_neg h9]), fun i9 h9 => (hEv8 (18 + i9) (by omega) (by omega)).trans (hi6 i9 h9)⟩, fun j hj => hE00 j (by omega) (by omega)⟩)

set_option maxHeartbeats 4000000 in
set_option maxRecDepth 100000 in
theorem TX1_init (l : Launch) {G : GG} {ad : Nat → Nat} {ev : Nat → va_E} {q q0 q1 q2 : Nat} (hq : ad 41 = q) (he : ev 41 = .inr (1, [.null, .null, .null, .null, .null, .null, .null, .null])) : Ca l yX1_init wsX1_init rmX1_init [.ref q, .ref q0, .ref q1, .ref q2] G (42) (49) ad ev 7 53 (fun ad2 e2 => (e2 41 = .inr (1, [.ref q0, .ref q1, .ref q2, .ref (ad2 42), .ref (ad2 44), .ref (ad2 46), .ref (ad2 47), .ref (ad2 48)]) ∧ RowAt G ad2 e2 42 [] 20 ∧ RowAt G ad2 e2 44 [] 20 ∧ e2 46 = .inr (4, [.ref q0, .int (iI 0), .int (iI 0)]) ∧ e2 47 = .inr (4, [.ref q1, .int (iI 0), .int (iI 0)]) ∧ e2 48 = .inr (4, [.ref q2, .int (iI 0), .int (iI 0)])) ∧ ∀ j, j < 41 → e2 j = ev j) := by
  refine Ca_of (cc := cX1_init) (maxL := 4) (ret := none) (lv := [(0, .ref q), (1, .ref q0), (2, .ref q1), (3, .ref q2)]) (by decide) rfl (Nat.le_of_ble_eq_true rfl) rfl ?_
  intro p E s m args below meth c A C hr hnm hX
  have hG00 : Gr (42) ad ad := fun j hj => rfl
  have hE00 : ∀ j, j < 42 → j ≠ 41 → ev j = ev j := fun j hj h1 => rfl
  refine n_aload_n C dX1_init_0 0 rfl rfl ?_
  refine n_objI C dX1_init_1 (List.mem_of_getElem? (i := 1) rfl) (List.mem_of_getElem? (i := 2) rfl) (List.mem_of_getElem? (i := 3) rfl) (Nat.le_of_ble_eq_true rfl) (Nat.le_of_ble_eq_true rfl) ?_
  refine n_st (st2 := []) rfl ?_
  refine n_aload_n C dX1_init_4 0 rfl rfl ?_
  refine n_aload_n C dX1_init_5 1 rfl rfl ?_
  refine n_rf1 hq ?_
  refine n_putF (k9 := 0) (fs2 := [.ref q0, .null, .null, .null, .null, .null, .null, .null]) C dX1_init_6 (by omega) he hX1_init_X1 tyX1_ok nmX1 rfl (by decide) kX1_init_9 rfl hnm rfl rfl rfl (Nat.le_of_ble_eq_true rfl) rfl (fun e1 hs2 ho3 => ?_)
  have hE00 : ∀ j, j < 42 → j ≠ 41 → e1 j = ev j := fun j hj h1 => (ho3 j (by omega)).trans (hE00 j hj h1)
  refine n_aload_n C dX1_init_9 0 rfl rfl ?_
  refine n_aload_n C dX1_init_10 2 rfl rfl ?_
  refine n_rf1 hq ?_
  refine n_putF (k9 := 1) (fs2 := [.ref q0, .ref q1, .null, .null, .null, .null, .null, .null]) C dX1_init_11 (by omega) hs2 hX1_init_X1 tyX1_ok nmX1 rfl (by decide) kX1_init_15 rfl hnm rfl rfl rfl (Nat.le_of_ble_eq_true rfl) rfl (fun e4 hs5 ho6 => ?_)
  have hE00 : ∀ j, j < 42 → j ≠ 41 → e4 j = ev j := fun j hj h1 => (ho6 j (by omega)).trans (hE00 j hj h1)
  refine n_aload_n C dX1_init_14 0 rfl rfl ?_
  refine n_aload_n C dX1_init_15 3 rfl rfl ?_
  refine n_rf1 hq ?_
  refine n_putF (k9 := 2) (fs2 := [.ref q0, .ref q1, .ref q2, .null, .null, .null, .null, .null]) C dX1_init_16 (by omega) hs5 hX1_init_X1 tyX1_ok nmX1 rfl (by decide) kX1_init_18 rfl hnm rfl rfl rfl (Nat.le_of_ble_eq_true rfl) rfl (fun e7 hs8 ho9 => ?_)
  have hE00 : ∀ j, j < 42 → j ≠ 41 → e7 j = ev j := fun j hj h1 => (ho9 j (by omega)).trans (hE00 j hj h1)
  refine n_aload_n C dX1_init_19 0 rfl rfl ?_
  refine n_new (ci := 2) (fs := [.null, .int (iI 0)]) C dX1_init_20 hX1_init_X2 tyX2_ok (List.mem_of_getElem? (i := 7) rfl) (List.mem_of_getElem? (i := 8) rfl) (List.mem_of_getElem? (i := 9) rfl) rfl (by intro j hj; rcases (show j = 0 ∨ j = 1 by omega) with rfl | rfl <;> rfl) (Nat.le_of_ble_eq_true rfl) (Nat.le_of_ble_eq_true rfl) (fun ad10 e11 hg12 hE13 hn14 => ?_)
  refine n_nm (N2 := 43) (c2 := 1) (s2 := 2) rfl rfl rfl ?_
  have hq := (hg12 41 (by omega)).trans hq
  have qh15 := (hE13 41 (by omega)).trans hs8
  have hG00 : Gr 42 ad ad10 := fun j hj => (hg12 j (by omega)).trans (hG00 j hj)
  have hE00 : ∀ j, j < 42 → j ≠ 41 → e11 j = ev j := fun j hj h1 => (hE13 j (by omega)).trans (hE00 j hj h1)
  refine n_st (st2 := [.ref (ad10 42), .ref q]) rfl ?_
  refine n_dup C dX1_init_23 rfl ?_
  refine n_bipush C dX1_init_24 (by decide) ?_
  refine n_st (st2 := [.int (iI ((20 : Nat) : Int)), .ref (ad10 42), .ref (ad10 42), .ref q]) rfl ?_
  refine n_callI (As := [.int (iI ((20 : Nat) : Int))]) (rest := [.ref (ad10 42), .ref q]) C hX dX1_init_26 (TX2_init l (i := 42) (cap := 20) rfl hn14 (by omega)) (cwI 1 C.2.2.2.2.1 gX1_init_X2_init rfl rfl rfl (C.2.2.2.2.1 _ (List.mem_of_getElem? (i := 9) rfl)) (C.2.2.2.2.1 _ (List.mem_of_getElem? (i := 18) rfl)) (C.2.2.2.2.1 _ (List.mem_of_getElem? (i := 19) rfl)) rfl cdX2_init.2 ⟨(Nat.le_of_ble_eq_true rfl), (Nat.le_of_ble_eq_true rfl)⟩) rfl rfl (Nat.le_of_ble_eq_true rfl) ⟨(Nat.le_of_ble_eq_true rfl), (Nat.le_of_ble_eq_true rfl)⟩ ?_
  rintro ad16 e17 hg18 ⟨hw42, hE19⟩
  refine n_pc (pc2 := 29) rfl ?_
  refine n_nm (N2 := 44) (c2 := 2) (s2 := 22) rfl rfl rfl ?_
  have hq := (hg18 41 (by omega)).trans hq
  have qh20 := (hE19 41 (by omega)).trans qh15
  have hG00 : Gr 42 ad ad16 := fun j hj => (hg18 j (by omega)).trans (hG00 j hj)
  have hE00 : ∀ j, j < 42 → j ≠ 41 → e17 j = ev j := fun j hj h1 => (hE19 j (by omega)).trans (hE00 j hj h1)
  refine n_st (st2 := [.ref (ad16 42), .ref q]) (by rw [hg18 42 (by omega)]) ?_
  have hGv21 : Gr 44 ad16 ad16 := fun j hj => rfl
  have hEv21 : ∀ j, j < 44 → j ≠ 41 → e17 j = e17 j := fun j hj h1 => rfl
  refine n_rf1 hq ?_
  refine n_putF (k9 := 3) (fs2 := [.ref q0, .ref q1, .ref q2, .ref (ad16 42), .null, .null, .null, .null]) C dX1_init_29 (by omega) qh20 hX1_init_X1 tyX1_ok nmX1 rfl (by decide) kX1_init_26 rfl hnm rfl rfl rfl (Nat.le_of_ble_eq_true rfl) rfl (fun e22 hs23 ho24 => ?_)
  have hE00 : ∀ j, j < 42 → j ≠ 41 → e22 j = ev j := fun j hj h1 => (ho24 j (by omega)).trans (hE00 j hj h1)
  have hEv21 : ∀ j, j < 44 → j ≠ 41 → e22 j = e17 j := fun j hj h1 => (ho24 j (by omega)).trans (hEv21 j hj h1)
  refine n_aload_n C dX1_init_32 0 rfl rfl ?_
  refine n_new (ci := 2) (fs := [.null, .int (iI 0)]) C dX1_init_33 hX1_init_X2 tyX2_ok (List.mem_of_getElem? (i := 7) rfl) (List.mem_of_getElem? (i := 8) rfl) (List.mem_of_getElem? (i := 9) rfl) rfl (by intro j hj; rcases (show j = 0 ∨ j = 1 by omega) with rfl | rfl <;> rfl) (Nat.le_of_ble_eq_true rfl) (Nat.le_of_ble_eq_true rfl) (fun ad25 e26 hg27 hE28 hn29 => ?_)
  refine n_nm (N2 := 45) (c2 := 3) (s2 := 24) rfl rfl rfl ?_
  have hq := (hg27 41 (by omega)).trans hq
  have qh30 := (hE28 41 (by omega)).trans hs23
  have hG00 : Gr 42 ad ad25 := fun j hj => (hg27 j (by omega)).trans (hG00 j hj)
  have hE00 : ∀ j, j < 42 → j ≠ 41 → e26 j = ev j := fun j hj h1 => (hE28 j (by omega)).trans (hE00 j hj h1)
  have hGv21 : Gr 44 ad16 ad25 := fun j hj => (hg27 j (by omega)).trans (hGv21 j hj)
  have hEv21 : ∀ j, j < 44 → j ≠ 41 → e26 j = e17 j := fun j hj h1 => (hE28 j (by omega)).trans (hEv21 j hj h1)
  refine n_st (st2 := [.ref (ad25 44), .ref q]) rfl ?_
  refine n_dup C dX1_init_36 rfl ?_
  refine n_bipush C dX1_init_37 (by decide) ?_
  refine n_st (st2 := [.int (iI ((20 : Nat) : Int)), .ref (ad25 44), .ref (ad25 44), .ref q]) rfl ?_
  refine n_callI (As := [.int (iI ((20 : Nat) : Int))]) (rest := [.ref (ad25 44), .ref q]) C hX dX1_init_39 (TX2_init l (i := 44) (cap := 20) rfl hn29 (by omega)) (cwI 1 C.2.2.2.2.1 gX1_init_X2_init rfl rfl rfl (C.2.2.2.2.1 _ (List.mem_of_getElem? (i := 9) rfl)) (C.2.2.2.2.1 _ (List.mem_of_getElem? (i := 18) rfl)) (C.2.2.2.2.1 _ (List.mem_of_getElem? (i := 19) rfl)) rfl cdX2_init.2 ⟨(Nat.le_of_ble_eq_true rfl), (Nat.le_of_ble_eq_true rfl)⟩) rfl rfl (Nat.le_of_ble_eq_true rfl) ⟨(Nat.le_of_ble_eq_true rfl), (Nat.le_of_ble_eq_true rfl)⟩ ?_
  rintro ad31 e32 hg33 ⟨hw44, hE34⟩
  refine n_pc (pc2 := 42) rfl ?_
  refine n_nm (N2 := 46) (c2 := 4) (s2 := 44) rfl rfl rfl ?_
  have hq := (hg33 41 (by omega)).trans hq
  have qh35 := (hE34 41 (by omega)).trans qh30
  have hG00 : Gr 42 ad ad31 := fun j hj => (hg33 j (by omega)).trans (hG00 j hj)
  have hE00 : ∀ j, j < 42 → j ≠ 41 → e32 j = ev j := fun j hj h1 => (hE34 j (by omega)).trans (hE00 j hj h1)
  have hGv21 : Gr 44 ad16 ad31 := fun j hj => (hg33 j (by omega)).trans (hGv21 j hj)
  have hEv21 : ∀ j, j < 44 → j ≠ 41 → e32 j = e17 j := fun j hj h1 => (hE34 j (by omega)).trans (hEv21 j hj h1)
  refine n_st (st2 := [.ref (ad31 44), .ref q]) (by rw [hg33 44 (by omega)]) ?_
  have hGv36 : Gr 46 ad31 ad31 := fun j hj => rfl
  have hEv36 : ∀ j, j < 46 → j ≠ 41 → e32 j = e32 j := fun j hj h1 => rfl
  refine n_rf1 hq ?_
  refine n_putF (k9 := 4) (fs2 := [.ref q0, .ref q1, .ref q2, .ref (ad16 42), .ref (ad31 44), .null, .null, .null]) C dX1_init_42 (by omega) qh35 hX1_init_X1 tyX1_ok nmX1 rfl (by decide) kX1_init_29 rfl hnm rfl rfl rfl (Nat.le_of_ble_eq_true rfl) rfl (fun e37 hs38 ho39 => ?_)
  have hE00 : ∀ j, j < 42 → j ≠ 41 → e37 j = ev j := fun j hj h1 => (ho39 j (by omega)).trans (hE00 j hj h1)
  have hEv21 : ∀ j, j < 44 → j ≠ 41 → e37 j = e17 j := fun j hj h1 => (ho39 j (by omega)).trans (hEv21 j hj h1)
  have hEv36 : ∀ j, j < 46 → j ≠ 41 → e37 j = e32 j := fun j hj h1 => (ho39 j (by omega)).trans (hEv36 j hj h1)
  refine n_aload_n C dX1_init_45 0 rfl rfl ?_
  refine n_new (ci := 4) (fs := [.null, .int (iI 0), .int (iI 0)]) C dX1_init_46 hX1_init_X4 tyX4_ok (List.mem_of_getElem? (i := 12) rfl) (List.mem_of_getElem? (i := 13) rfl) (List.mem_of_getElem? (i := 14) rfl) rfl (by intro j hj; rcases (show j = 0 ∨ j = 1 ∨ j = 2 by omega) with rfl | rfl | rfl <;> rfl) (Nat.le_of_ble_eq_true rfl) (Nat.le_of_ble_eq_true rfl) (fun ad40 e41 hg42 hE43 hn44 => ?_)
  refine n_nm (N2 := 47) (c2 := 5) (s2 := 47) rfl rfl rfl ?_
  have hq := (hg42 41 (by omega)).trans hq
  have qh45 := (hE43 41 (by omega)).trans hs38
  have hG00 : Gr 42 ad ad40 := fun j hj => (hg42 j (by omega)).trans (hG00 j hj)
  have hE00 : ∀ j, j < 42 → j ≠ 41 → e41 j = ev j := fun j hj h1 => (hE43 j (by omega)).trans (hE00 j hj h1)
  have hGv21 : Gr 44 ad16 ad40 := fun j hj => (hg42 j (by omega)).trans (hGv21 j hj)
  have hEv21 : ∀ j, j < 44 → j ≠ 41 → e41 j = e17 j := fun j hj h1 => (hE43 j (by omega)).trans (hEv21 j hj h1)
  have hGv36 : Gr 46 ad31 ad40 := fun j hj => (hg42 j (by omega)).trans (hGv36 j hj)
  have hEv36 : ∀ j, j < 46 → j ≠ 41 → e41 j = e32 j := fun j hj h1 => (hE43 j (by omega)).trans (hEv36 j hj h1)
  refine n_st (st2 := [.ref (ad40 46), .ref q]) rfl ?_
  refine n_dup C dX1_init_49 rfl ?_
  refine n_aload_n C dX1_init_50 1 rfl rfl ?_
  refine n_callI (As := [.ref q0]) (rest := [.ref (ad40 46), .ref q]) C hX dX1_init_51 (TX4_init l (i := 46) (r := q0) rfl hn44) (cwI 1 C.2.2.2.2.1 gX1_init_X4_init rfl rfl rfl (C.2.2.2.2.1 _ (List.mem_of_getElem? (i := 14) rfl)) (C.2.2.2.2.1 _ (List.mem_of_getElem? (i := 25) rfl)) (C.2.2.2.2.1 _ (List.mem_of_getElem? (i := 26) rfl)) rfl cdX4_init.2 ⟨(Nat.le_of_ble_eq_true rfl), (Nat.le_of_ble_eq_true rfl)⟩) rfl rfl (Nat.le_of_ble_eq_true rfl) ⟨(Nat.le_of_ble_eq_true rfl), (Nat.le_of_ble_eq_true rfl)⟩ ?_
  rintro ad46 e47 hg48 ⟨hw46, hE49⟩
  refine n_pc (pc2 := 54) rfl ?_
  refine n_nm (N2 := 47) (c2 := 5) (s2 := 47) rfl rfl rfl ?_
  have hq := (hg48 41 (by omega)).trans hq
  have qh50 := (hE49 41 (by omega)).trans qh45
  have hG00 : Gr 42 ad ad46 := fun j hj => (hg48 j (by omega)).trans (hG00 j hj)
  have hE00 : ∀ j, j < 42 → j ≠ 41 → e47 j = ev j := fun j hj h1 => (hE49 j (by omega)).trans (hE00 j hj h1)
  have hGv21 : Gr 44 ad16 ad46 := fun j hj => (hg48 j (by omega)).trans (hGv21 j hj)
  have hEv21 : ∀ j, j < 44 → j ≠ 41 → e47 j = e17 j := fun j hj h1 => (hE49 j (by omega)).trans (hEv21 j hj h1)
  have hGv36 : Gr 46 ad31 ad46 := fun j hj => (hg48 j (by omega)).trans (hGv36 j hj)
  have hEv36 : ∀ j, j < 46 → j ≠ 41 → e47 j = e32 j := fun j hj h1 => (hE49 j (by omega)).trans (hEv36 j hj h1)
  refine n_st (st2 := [.ref (ad46 46), .ref q]) (by rw [hg48 46 (by omega)]) ?_
  have hGv51 : Gr 47 ad46 ad46 := fun j hj => rfl
  have hEv51 : ∀ j, j < 47 → j ≠ 41 → e47 j = e47 j := fun j hj h1 => rfl
  refine n_rf1 hq ?_
  refine n_putF (k9 := 5) (fs2 := [.ref q0, .ref q1, .ref q2, .ref (ad16 42), .ref (ad31 44), .ref (ad46 46), .null, .null]) C dX1_init_54 (by omega) qh50 hX1_init_X1 tyX1_ok nmX1 rfl (by decide) kX1_init_37 rfl hnm rfl rfl rfl (Nat.le_of_ble_eq_true rfl) rfl (fun e52 hs53 ho54 => ?_)
  have hE00 : ∀ j, j < 42 → j ≠ 41 → e52 j = ev j := fun j hj h1 => (ho54 j (by omega)).trans (hE00 j hj h1)
  have hEv21 : ∀ j, j < 44 → j ≠ 41 → e52 j = e17 j := fun j hj h1 => (ho54 j (by omega)).trans (hEv21 j hj h1)
  have hEv36 : ∀ j, j < 46 → j ≠ 41 → e52 j = e32 j := fun j hj h1 => (ho54 j (by omega)).trans (hEv36 j hj h1)
  have hEv51 : ∀ j, j < 47 → j ≠ 41 → e52 j = e47 j := fun j hj h1 => (ho54 j (by omega)).trans (hEv51 j hj h1)
  refine n_aload_n C dX1_init_57 0 rfl rfl ?_
  refine n_new (ci := 4) (fs := [.null, .int (iI 0), .int (iI 0)]) C dX1_init_58 hX1_init_X4 tyX4_ok (List.mem_of_getElem? (i := 12) rfl) (List.mem_of_getElem? (i := 13) rfl) (List.mem_of_getElem? (i := 14) rfl) rfl (by intro j hj; rcases (show j = 0 ∨ j = 1 ∨ j = 2 by omega) with rfl | rfl | rfl <;> rfl) (Nat.le_of_ble_eq_true rfl) (Nat.le_of_ble_eq_true rfl) (fun ad55 e56 hg57 hE58 hn59 => ?_)
  refine n_nm (N2 := 48) (c2 := 6) (s2 := 50) rfl rfl rfl ?_
  have hq := (hg57 41 (by omega)).trans hq
  have qh60 := (hE58 41 (by omega)).trans hs53
  have hG00 : Gr 42 ad ad55 := fun j hj => (hg57 j (by omega)).trans (hG00 j hj)
  have hE00 : ∀ j, j < 42 → j ≠ 41 → e56 j = ev j := fun j hj h1 => (hE58 j (by omega)).trans (hE00 j hj h1)
  have hGv21 : Gr 44 ad16 ad55 := fun j hj => (hg57 j (by omega)).trans (hGv21 j hj)
  have hEv21 : ∀ j, j < 44 → j ≠ 41 → e56 j = e17 j := fun j hj h1 => (hE58 j (by omega)).trans (hEv21 j hj h1)
  have hGv36 : Gr 46 ad31 ad55 := fun j hj => (hg57 j (by omega)).trans (hGv36 j hj)
  have hEv36 : ∀ j, j < 46 → j ≠ 41 → e56 j = e32 j := fun j hj h1 => (hE58 j (by omega)).trans (hEv36 j hj h1)
  have hGv51 : Gr 47 ad46 ad55 := fun j hj => (hg57 j (by omega)).trans (hGv51 j hj)
  have hEv51 : ∀ j, j < 47 → j ≠ 41 → e56 j = e47 j := fun j hj h1 => (hE58 j (by omega)).trans (hEv51 j hj h1)
  refine n_st (st2 := [.ref (ad55 47), .ref q]) rfl ?_
  refine n_dup C dX1_init_61 rfl ?_
  refine n_aload_n C dX1_init_62 2 rfl rfl ?_
  refine n_callI (As := [.ref q1]) (rest := [.ref (ad55 47), .ref q]) C hX dX1_init_63 (TX4_init l (i := 47) (r := q1) rfl hn59) (cwI 1 C.2.2.2.2.1 gX1_init_X4_init rfl rfl rfl (C.2.2.2.2.1 _ (List.mem_of_getElem? (i := 14) rfl)) (C.2.2.2.2.1 _ (List.mem_of_getElem? (i := 25) rfl)) (C.2.2.2.2.1 _ (List.mem_of_getElem? (i := 26) rfl)) rfl cdX4_init.2 ⟨(Nat.le_of_ble_eq_true rfl), (Nat.le_of_ble_eq_true rfl)⟩) rfl rfl (Nat.le_of_ble_eq_true rfl) ⟨(Nat.le_of_ble_eq_true rfl), (Nat.le_of_ble_eq_true rfl)⟩ ?_
  rintro ad61 e62 hg63 ⟨hw47, hE64⟩
  refine n_pc (pc2 := 66) rfl ?_
  refine n_nm (N2 := 48) (c2 := 6) (s2 := 50) rfl rfl rfl ?_
  have hq := (hg63 41 (by omega)).trans hq
  have qh65 := (hE64 41 (by omega)).trans qh60
  have hG00 : Gr 42 ad ad61 := fun j hj => (hg63 j (by omega)).trans (hG00 j hj)
  have hE00 : ∀ j, j < 42 → j ≠ 41 → e62 j = ev j := fun j hj h1 => (hE64 j (by omega)).trans (hE00 j hj h1)
  have hGv21 : Gr 44 ad16 ad61 := fun j hj => (hg63 j (by omega)).trans (hGv21 j hj)
  have hEv21 : ∀ j, j < 44 → j ≠ 41 → e62 j = e17 j := fun j hj h1 => (hE64 j (by omega)).trans (hEv21 j hj h1)
  have hGv36 : Gr 46 ad31 ad61 := fun j hj => (hg63 j (by omega)).trans (hGv36 j hj)
  have hEv36 : ∀ j, j < 46 → j ≠ 41 → e62 j = e32 j := fun j hj h1 => (hE64 j (by omega)).trans (hEv36 j hj h1)
  have hGv51 : Gr 47 ad46 ad61 := fun j hj => (hg63 j (by omega)).trans (hGv51 j hj)
  have hEv51 : ∀ j, j < 47 → j ≠ 41 → e62 j = e47 j := fun j hj h1 => (hE64 j (by omega)).trans (hEv51 j hj h1)
  refine n_st (st2 := [.ref (ad61 47), .ref q]) (by rw [hg63 47 (by omega)]) ?_
  have hGv66 : Gr 48 ad61 ad61 := fun j hj => rfl
  have hEv66 : ∀ j, j < 48 → j ≠ 41 → e62 j = e62 j := fun j hj h1 => rfl
  refine n_rf1 hq ?_
  refine n_putF (k9 := 6) (fs2 := [.ref q0, .ref q1, .ref q2, .ref (ad16 42), .ref (ad31 44), .ref (ad46 46), .ref (ad61 47), .null]) C dX1_init_66 (by omega) qh65 hX1_init_X1 tyX1_ok nmX1 rfl (by decide) kX1_init_41 rfl hnm rfl rfl rfl (Nat.le_of_ble_eq_true rfl) rfl (fun e67 hs68 ho69 => ?_)
  have hE00 : ∀ j, j < 42 → j ≠ 41 → e67 j = ev j := fun j hj h1 => (ho69 j (by omega)).trans (hE00 j hj h1)
  have hEv21 : ∀ j, j < 44 → j ≠ 41 → e67 j = e17 j := fun j hj h1 => (ho69 j (by omega)).trans (hEv21 j hj h1)
  have hEv36 : ∀ j, j < 46 → j ≠ 41 → e67 j = e32 j := fun j hj h1 => (ho69 j (by omega)).trans (hEv36 j hj h1)
  have hEv51 : ∀ j, j < 47 → j ≠ 41 → e67 j = e47 j := fun j hj h1 => (ho69 j (by omega)).trans (hEv51 j hj h1)
  have hEv66 : ∀ j, j < 48 → j ≠ 41 → e67 j = e62 j := fun j hj h1 => (ho69 j (by omega)).trans (hEv66 j hj h1)
  refine n_aload_n C dX1_init_69 0 rfl rfl ?_
  refine n_new (ci := 4) (fs := [.null, .int (iI 0), .int (iI 0)]) C dX1_init_70 hX1_init_X4 tyX4_ok (List.mem_of_getElem? (i := 12) rfl) (List.mem_of_getElem? (i := 13) rfl) (List.mem_of_getElem? (i := 14) rfl) rfl (by intro j hj; rcases (show j = 0 ∨ j = 1 ∨ j = 2 by omega) with rfl | rfl | rfl <;> rfl) (Nat.le_of_ble_eq_true rfl) (Nat.le_of_ble_eq_true rfl) (fun ad70 e71 hg72 hE73 hn74 => ?_)
  refine n_nm (N2 := 49) (c2 := 7) (s2 := 53) rfl rfl rfl ?_
  have hq := (hg72 41 (by omega)).trans hq
  have qh75 := (hE73 41 (by omega)).trans hs68
  have hG00 : Gr 42 ad ad70 := fun j hj => (hg72 j (by omega)).trans (hG00 j hj)
  have hE00 : ∀ j, j < 42 → j ≠ 41 → e71 j = ev j := fun j hj h1 => (hE73 j (by omega)).trans (hE00 j hj h1)
  have hGv21 : Gr 44 ad16 ad70 := fun j hj => (hg72 j (by omega)).trans (hGv21 j hj)
  have hEv21 : ∀ j, j < 44 → j ≠ 41 → e71 j = e17 j := fun j hj h1 => (hE73 j (by omega)).trans (hEv21 j hj h1)
  have hGv36 : Gr 46 ad31 ad70 := fun j hj => (hg72 j (by omega)).trans (hGv36 j hj)
  have hEv36 : ∀ j, j < 46 → j ≠ 41 → e71 j = e32 j := fun j hj h1 => (hE73 j (by omega)).trans (hEv36 j hj h1)
  have hGv51 : Gr 47 ad46 ad70 := fun j hj => (hg72 j (by omega)).trans (hGv51 j hj)
  have hEv51 : ∀ j, j < 47 → j ≠ 41 → e71 j = e47 j := fun j hj h1 => (hE73 j (by omega)).trans (hEv51 j hj h1)
  have hGv66 : Gr 48 ad61 ad70 := fun j hj => (hg72 j (by omega)).trans (hGv66 j hj)
  have hEv66 : ∀ j, j < 48 → j ≠ 41 → e71 j = e62 j := fun j hj h1 => (hE73 j (by omega)).trans (hEv66 j hj h1)
  refine n_st (st2 := [.ref (ad70 48), .ref q]) rfl ?_
  refine n_dup C dX1_init_73 rfl ?_
  refine n_aload_n C dX1_init_74 3 rfl rfl ?_
  refine n_callI (As := [.ref q2]) (rest := [.ref (ad70 48), .ref q]) C hX dX1_init_75 (TX4_init l (i := 48) (r := q2) rfl hn74) (cwI 1 C.2.2.2.2.1 gX1_init_X4_init rfl rfl rfl (C.2.2.2.2.1 _ (List.mem_of_getElem? (i := 14) rfl)) (C.2.2.2.2.1 _ (List.mem_of_getElem? (i := 25) rfl)) (C.2.2.2.2.1 _ (List.mem_of_getElem? (i := 26) rfl)) rfl cdX4_init.2 ⟨(Nat.le_of_ble_eq_true rfl), (Nat.le_of_ble_eq_true rfl)⟩) rfl rfl (Nat.le_of_ble_eq_true rfl) ⟨(Nat.le_of_ble_eq_true rfl), (Nat.le_of_ble_eq_true rfl)⟩ ?_
  rintro ad76 e77 hg78 ⟨hw48, hE79⟩
  refine n_pc (pc2 := 78) rfl ?_
  refine n_nm (N2 := 49) (c2 := 7) (s2 := 53) rfl rfl rfl ?_
  have hq := (hg78 41 (by omega)).trans hq
  have qh80 := (hE79 41 (by omega)).trans qh75
  have hG00 : Gr 42 ad ad76 := fun j hj => (hg78 j (by omega)).trans (hG00 j hj)
  have hE00 : ∀ j, j < 42 → j ≠ 41 → e77 j = ev j := fun j hj h1 => (hE79 j (by omega)).trans (hE00 j hj h1)
  have hGv21 : Gr 44 ad16 ad76 := fun j hj => (hg78 j (by omega)).trans (hGv21 j hj)
  have hEv21 : ∀ j, j < 44 → j ≠ 41 → e77 j = e17 j := fun j hj h1 => (hE79 j (by omega)).trans (hEv21 j hj h1)
  have hGv36 : Gr 46 ad31 ad76 := fun j hj => (hg78 j (by omega)).trans (hGv36 j hj)
  have hEv36 : ∀ j, j < 46 → j ≠ 41 → e77 j = e32 j := fun j hj h1 => (hE79 j (by omega)).trans (hEv36 j hj h1)
  have hGv51 : Gr 47 ad46 ad76 := fun j hj => (hg78 j (by omega)).trans (hGv51 j hj)
  have hEv51 : ∀ j, j < 47 → j ≠ 41 → e77 j = e47 j := fun j hj h1 => (hE79 j (by omega)).trans (hEv51 j hj h1)
  have hGv66 : Gr 48 ad61 ad76 := fun j hj => (hg78 j (by omega)).trans (hGv66 j hj)
  have hEv66 : ∀ j, j < 48 → j ≠ 41 → e77 j = e62 j := fun j hj h1 => (hE79 j (by omega)).trans (hEv66 j hj h1)
  refine n_st (st2 := [.ref (ad76 48), .ref q]) (by rw [hg78 48 (by omega)]) ?_
  have hGv81 : Gr 49 ad76 ad76 := fun j hj => rfl
  have hEv81 : ∀ j, j < 49 → j ≠ 41 → e77 j = e77 j := fun j hj h1 => rfl
  refine n_rf1 hq ?_
  refine n_putF (k9 := 7) (fs2 := [.ref q0, .ref q1, .ref q2, .ref (ad16 42), .ref (ad31 44), .ref (ad46 46), .ref (ad61 47), .ref (ad76 48)]) C dX1_init_78 (by omega) qh80 hX1_init_X1 tyX1_ok nmX1 rfl (by decide) kX1_init_44 rfl hnm rfl rfl rfl (Nat.le_of_ble_eq_true rfl) rfl (fun e82 hs83 ho84 => ?_)
  have hE00 : ∀ j, j < 42 → j ≠ 41 → e82 j = ev j := fun j hj h1 => (ho84 j (by omega)).trans (hE00 j hj h1)
  have hEv21 : ∀ j, j < 44 → j ≠ 41 → e82 j = e17 j := fun j hj h1 => (ho84 j (by omega)).trans (hEv21 j hj h1)
  have hEv36 : ∀ j, j < 46 → j ≠ 41 → e82 j = e32 j := fun j hj h1 => (ho84 j (by omega)).trans (hEv36 j hj h1)
  have hEv51 : ∀ j, j < 47 → j ≠ 41 → e82 j = e47 j := fun j hj h1 => (ho84 j (by omega)).trans (hEv51 j hj h1)
  have hEv66 : ∀ j, j < 48 → j ≠ 41 → e82 j = e62 j := fun j hj h1 => (ho84 j (by omega)).trans (hEv66 j hj h1)
  have hEv81 : ∀ j, j < 49 → j ≠ 41 → e82 j = e77 j := fun j hj h1 => (ho84 j (by omega)).trans (hEv81 j hj h1)
  exact n_vretA C hr dX1_init_81 hG00 (⟨⟨hs83.trans (by rw [hGv21 42 (by omega), hGv36 44 (by omega), hGv51 46 (by omega), hGv66 47 (by omega)]), hw42.mv (hGv21 43 (by omega)) (hEv21 42 (by omega) (by omega)) (hEv21 43 (by omega) (by omega)), hw44.mv (hGv36 45 (by omega)) (hEv36 44 (by omega) (by omega)) (hEv36 45 (by omega) (by omega)), (hEv51 46 (by omega) (by omega)).trans hw46, (hEv66 47 (by omega) (by omega)).trans hw47, (hEv81 48 (by omega) (by omega)).trans hw48⟩, fun j hj => hE00 j (by omega) (by omega)⟩)
