/-! constructors -/
section Alloc2
variable {p : Program} {l : Launch} {E : Env} {R : Room} {s : State} {m : MethodId} {args : Array Value} {below : List Frame} {meth : Method} {c : Code} {G : GG} {A : Nat → Prop} {nL : Nat} {Q : State → Prop} {N : Nat} {ad : Nat → Nat} {ev : Nat → va_E} {cells slots pc : Nat} {lv lv' : List (Nat × Value)} {st : List Value} {cc : ByteArray} {own : String} {Ts : List Cond}
theorem n_nm {N2 c2 s2 : Nat} (h1 : N = N2) (h2 : cells = c2) (h3 : slots = s2) (k : V p l E R s m args below meth c G A nL Q N2 ad ev c2 s2 pc lv st) : V p l E R s m args below meth c G A nL Q N ad ev cells slots pc lv st := by subst h1; subst h2; subst h3; exact k
theorem n_rf {i q : Nat} (h : ad i = q) (k : V p l E R s m args below meth c G A nL Q N ad ev cells slots pc lv (.ref (ad i) :: st)) : V p l E R s m args below meth c G A nL Q N ad ev cells slots pc lv (.ref q :: st) := by subst h; exact k
theorem n_rf1 {i q : Nat} {v : Value} (h : ad i = q) (k : V p l E R s m args below meth c G A nL Q N ad ev cells slots pc lv (v :: .ref (ad i) :: st)) : V p l E R s m args below meth c G A nL Q N ad ev cells slots pc lv (v :: .ref q :: st) := by subst h; exact k
theorem n_rf2 {i q : Nat} {v w : Value} (h : ad i = q) (k : V p l E R s m args below meth c G A nL Q N ad ev cells slots pc lv (v :: w :: .ref (ad i) :: st)) : V p l E R s m args below meth c G A nL Q N ad ev cells slots pc lv (v :: w :: .ref q :: st) := by subst h; exact k
end Alloc2
/-- fewer cells, by other numbers: cell k is the one that was numbered sg k -/
theorem n_rel {p : Program} {l : Launch} {E : Env} {R : Room} {s : State} {m : MethodId} {args : Array Value} {below : List Frame} {meth : Method} {c : Code} {G : GG} {A : Nat → Prop} {nL : Nat} {Q : State → Prop} {N N2 : Nat} {ad ad2 : Nat → Nat} {ev e2 : Nat → va_E} {cells slots pc : Nat} {lv : List (Nat × Value)} {st : List Value} (sg : Nat → Nat) (hr : ∀ i, i < N2 → sg i < N) (hi : ∀ i j, i < N2 → j < N2 → sg i = sg j → i = j) (ha : ad2 = fun k => ad (sg k)) (he : e2 = fun k => ev (sg k)) (k : V p l E R s m args below meth c G A nL Q N2 ad2 e2 cells slots pc lv st) : V p l E R s m args below meth c G A nL Q N ad ev cells slots pc lv st := by
  subst ha
  subst he
  intro H locs ls hP hD hS hl
  refine k H locs ls ?_ (wd_D (fun i j h1 h2 h => hi i j h1 h2 (wd_inj hD _ _ (hr i h1) (hr j h2) h)) (fun i h => wd_A hD _ (hr i h))) hS hl
  intro i q hq
  obtain ⟨h1, rfl⟩ := wd_get hq
  exact hP (sg i) _ (wd_at (hr i h1))
/-- the cells that the desk's methods speak of: the rows that constructors make and nobody reads are left out -/
def sg (k : Nat) : Nat := if k < 40 then k else if k = 40 then 41 else if k < 47 then k + 2 else if k = 47 then 51 else if k = 48 then 54 else k + 8
theorem sg_lo {k : Nat} (h : k < 40) : sg k = k := by
  unfold sg
  rw [if_pos h]
theorem sg_lt (k : Nat) (h : k < 53) : sg k < 61 := by
  unfold sg
  repeat' split
  all_goals omega
theorem sg_inj (i j : Nat) (hi : i < 53) (hj : j < 53) (h : sg i = sg j) : i = j := by
  unfold sg at h
  repeat' split at h
  all_goals omega
theorem RowAt.to {G : GG} {ad ad2 : Nat → Nat} {ev e2 : Nat → va_E} {i i2 : Nat} {xs : List Int32} {cap : Nat} (h : RowAt G ad ev i xs cap) (ha : ad2 (i2 + 1) = ad (i + 1)) (h0 : e2 i2 = ev i) (h1 : e2 (i2 + 1) = ev (i + 1)) : RowAt G ad2 e2 i2 xs cap := by
  obtain ⟨f, a, b, c⟩ := h
  exact ⟨f, by rw [h0, a, ha], by rw [h1, b], c⟩
theorem RowAt.mv {G : GG} {ad ad2 : Nat → Nat} {ev e2 : Nat → va_E} {i : Nat} {xs : List Int32} {cap : Nat} (h : RowAt G ad ev i xs cap) (ha : ad2 (i + 1) = ad (i + 1)) (h0 : e2 i = ev i) (h1 : e2 (i + 1) = ev (i + 1)) : RowAt G ad2 e2 i xs cap := by
  obtain ⟨f, a, b, c⟩ := h
  exact ⟨f, by rw [h0, a, ha], by rw [h1, b], c⟩
theorem ScrAt.mv {G : GG} {ad ad2 : Nat → Nat} {ev e2 : Nat → va_E} {i : Nat} {ops : List Tr} (h : ScrAt G ad ev i ops) (ha : ∀ j, i < j → j < i + 4 → ad2 j = ad j) (he : ∀ j, i ≤ j → j < i + 4 → e2 j = ev j) : ScrAt G ad2 e2 i ops := by
  obtain ⟨fk, fp, fs, a, b, c, d, e⟩ := h
  exact ⟨fk, fp, fs, by rw [he i (by omega) (by omega), a, ha (i + 1) (by omega) (by omega), ha (i + 2) (by omega) (by omega), ha (i + 3) (by omega) (by omega)], by rw [he _ (by omega) (by omega), b], by rw [he _ (by omega) (by omega), c], by rw [he _ (by omega) (by omega), d], e⟩
abbrev rmX2_init (cap : Nat) : Room := { frames := 1, cells := 1, slots := cap, locals := 24 }
abbrev rmX3_init : Room := { frames := 1, cells := 3, slots := 180, locals := 24 }
abbrev rmX4_init : Room := { frames := 2, cells := 2, slots := 2, locals := 45 }
abbrev rmX0_init : Room := { frames := 2, cells := 26, slots := 466, locals := 45 }
abbrev rmX1_init : Room := { frames := 3, cells := 13, slots := 59, locals := 65 }
abbrev rmX5_init : Room := { frames := 4, cells := 60, slots := 1220, locals := 85 }
abbrev rmX6_init : Room := { frames := 1, cells := 12, slots := 976, locals := 24 }

set_option maxHeartbeats 4000000 in
set_option maxRecDepth 100000 in
theorem TX2_init (l : Launch) {G : GG} {ad : Nat → Nat} {ev : Nat → va_E} {i cap q : Nat} (hq : ad i = q) (he : ev i = .inr (2, [.null, .int (iI 0)])) (hcap : cap ≤ 1000) : Ca l yX2_init wsX2_init (rmX2_init cap) [.ref q, .int (iI (cap : Int))] G (i + 1) (i + 2) ad ev 1 cap (fun ad2 e2 => RowAt G ad2 e2 i [] cap ∧ ∀ j, j < i → e2 j = ev j) := by
  refine Ca_of (cc := cX2_init) (maxL := 2) (ret := none) (lv := [(0, .ref q), (1, .int (iI (cap : Int)))]) (by decide) rfl (Nat.le_of_ble_eq_true rfl) rfl ?_
  intro p E s m args below meth c A C hr hnm hX
  have hG00 : Gr (i + 1) ad ad := fun j hj => rfl
  have hE00 : ∀ j, j < i + 1 → j ≠ i → ev j = ev j := fun j hj h1 => rfl
  refine n_aload_n C dX2_init_0 0 rfl rfl ?_
  refine n_objI C dX2_init_1 (List.mem_of_getElem? (i := 1) rfl) (List.mem_of_getElem? (i := 2) rfl) (List.mem_of_getElem? (i := 3) rfl) (Nat.le_of_ble_eq_true rfl) (Nat.le_of_ble_eq_true rfl) ?_
  refine n_st (st2 := []) rfl ?_
  refine n_aload_n C dX2_init_4 0 rfl rfl ?_
  refine n_iload_n C dX2_init_5 1 rfl rfl ?_
  refine n_newI (n := cap) C dX2_init_6 (List.mem_of_getElem? (i := 4) rfl) (by omega) (Nat.le_of_ble_eq_true rfl) (by show 0 + cap ≤ cap; omega) (fun ad1 e2 hg3 hE4 hn5 => ?_)
  refine n_nm (N2 := i + 2) (c2 := 1) (s2 := cap) rfl rfl (by omega) ?_
  have hq := (hg3 i (by omega)).trans hq
  have qh6 := (hE4 i (by omega)).trans he
  have hG00 : Gr (i + 1) ad ad1 := fun j hj => (hg3 j (by omega)).trans (hG00 j hj)
  have hE00 : ∀ j, j < i + 1 → j ≠ i → e2 j = ev j := fun j hj h1 => (hE4 j (by omega)).trans (hE00 j hj h1)
  have hGv7 : Gr (i + 2) ad1 ad1 := fun j hj => rfl
  have hEv7 : ∀ j, j < i + 2 → j ≠ i → e2 j = e2 j := fun j hj h1 => rfl
  refine n_st (st2 := [.ref (ad1 (i + 1)), .ref q]) rfl ?_
  refine n_rf1 hq ?_
  refine n_putF (k9 := 0) (fs2 := [.ref (ad1 (i + 1)), .int (iI 0)]) C dX2_init_8 (by omega) qh6 hX2_init_X2 tyX2_ok nmX2 rfl (by decide) kX2_init_9 rfl hnm rfl rfl rfl (Nat.le_of_ble_eq_true rfl) rfl (fun e8 hs9 ho10 => ?_)
  have hE00 : ∀ j, j < i + 1 → j ≠ i → e8 j = ev j := fun j hj h1 => (ho10 j (by omega)).trans (hE00 j hj h1)
  have hEv7 : ∀ j, j < i + 2 → j ≠ i → e8 j = e2 j := fun j hj h1 => (ho10 j (by omega)).trans (hEv7 j hj h1)
  refine n_aload_n C dX2_init_11 0 rfl rfl ?_
  refine n_iconst C dX2_init_12 ?_
  refine n_rf1 hq ?_
  refine n_put (k9 := 1) (fs2 := [.ref (ad1 (i + 1)), .int (iI 0)]) C dX2_init_13 (by omega) hs9 hX2_init_X2 tyX2_ok nmX2 rfl (by decide) kX2_init_15 rfl rfl rfl (Nat.le_of_ble_eq_true rfl) rfl (fun e11 hs12 ho13 => ?_)
  have hE00 : ∀ j, j < i + 1 → j ≠ i → e11 j = ev j := fun j hj h1 => (ho13 j (by omega)).trans (hE00 j hj h1)
  have hEv7 : ∀ j, j < i + 2 → j ≠ i → e11 j = e2 j := fun j hj h1 => (ho13 j (by omega)).trans (hEv7 j hj h1)
  exact n_vretA C hr dX2_init_16 hG00 (⟨⟨fun _ => 0, hs12.trans (by rfl), (hEv7 (i + 1) (by omega) (by omega)).trans hn5, fun j hj => absurd hj (Nat.not_lt_zero j), Nat.zero_le _, hcap⟩, fun j hj => hE00 j (by omega) (by omega)⟩)

set_option maxHeartbeats 4000000 in
set_option maxRecDepth 100000 in
theorem TX3_init (l : Launch) {G : GG} {ad : Nat → Nat} {ev : Nat → va_E} {i q : Nat} (hq : ad i = q) (he : ev i = .inr (3, [.null, .null, .null, .int (iI 0)])) : Ca l yX3_init wsX3_init rmX3_init [.ref q] G (i + 1) (i + 4) ad ev 3 180 (fun ad2 e2 => ScrAt G ad2 e2 i [] ∧ ∀ j, j < i → e2 j = ev j) := by
  refine Ca_of (cc := cX3_init) (maxL := 1) (ret := none) (lv := [(0, .ref q)]) (by decide) rfl (Nat.le_of_ble_eq_true rfl) rfl ?_
  intro p E s m args below meth c A C hr hnm hX
  have hG00 : Gr (i + 1) ad ad := fun j hj => rfl
  have hE00 : ∀ j, j < i + 1 → j ≠ i → ev j = ev j := fun j hj h1 => rfl
  refine n_aload_n C dX3_init_0 0 rfl rfl ?_
  refine n_objI C dX3_init_1 (List.mem_of_getElem? (i := 1) rfl) (List.mem_of_getElem? (i := 2) rfl) (List.mem_of_getElem? (i := 3) rfl) (Nat.le_of_ble_eq_true rfl) (Nat.le_of_ble_eq_true rfl) ?_
  refine n_st (st2 := []) rfl ?_
  refine n_aload_n C dX3_init_4 0 rfl rfl ?_
  refine n_bipush C dX3_init_5 (by decide) ?_
  refine n_newI (n := 60) C dX3_init_7 (List.mem_of_getElem? (i := 4) rfl) (Nat.le_of_ble_eq_true rfl) (Nat.le_of_ble_eq_true rfl) (Nat.le_of_ble_eq_true rfl) (fun ad1 e2 hg3 hE4 hn5 => ?_)
  refine n_nm (N2 := i + 2) (c2 := 1) (s2 := 60) rfl rfl rfl ?_
  have hq := (hg3 i (by omega)).trans hq
  have qh6 := (hE4 i (by omega)).trans he
  have hG00 : Gr (i + 1) ad ad1 := fun j hj => (hg3 j (by omega)).trans (hG00 j hj)
  have hE00 : ∀ j, j < i + 1 → j ≠ i → e2 j = ev j := fun j hj h1 => (hE4 j (by omega)).trans (hE00 j hj h1)
  have hGv7 : Gr (i + 2) ad1 ad1 := fun j hj => rfl
  have hEv7 : ∀ j, j < i + 2 → j ≠ i → e2 j = e2 j := fun j hj h1 => rfl
  refine n_st (st2 := [.ref (ad1 (i + 1)), .ref q]) rfl ?_
  refine n_rf1 hq ?_
  refine n_putF (k9 := 0) (fs2 := [.ref (ad1 (i + 1)), .null, .null, .int (iI 0)]) C dX3_init_9 (by omega) qh6 hX3_init_X3 tyX3_ok nmX3 rfl (by decide) kX3_init_9 rfl hnm rfl rfl rfl (Nat.le_of_ble_eq_true rfl) rfl (fun e8 hs9 ho10 => ?_)
  have hE00 : ∀ j, j < i + 1 → j ≠ i → e8 j = ev j := fun j hj h1 => (ho10 j (by omega)).trans (hE00 j hj h1)
  have hEv7 : ∀ j, j < i + 2 → j ≠ i → e8 j = e2 j := fun j hj h1 => (ho10 j (by omega)).trans (hEv7 j hj h1)
  refine n_aload_n C dX3_init_12 0 rfl rfl ?_
  refine n_bipush C dX3_init_13 (by decide) ?_
  refine n_newI (n := 60) C dX3_init_15 (List.mem_of_getElem? (i := 4) rfl) (Nat.le_of_ble_eq_true rfl) (Nat.le_of_ble_eq_true rfl) (Nat.le_of_ble_eq_true rfl) (fun ad11 e12 hg13 hE14 hn15 => ?_)
  refine n_nm (N2 := i + 3) (c2 := 2) (s2 := 120) rfl rfl rfl ?_
  have hq := (hg13 i (by omega)).trans hq
  have qh16 := (hE14 i (by omega)).trans hs9
  have hG00 : Gr (i + 1) ad ad11 := fun j hj => (hg13 j (by omega)).trans (hG00 j hj)
  have hE00 : ∀ j, j < i + 1 → j ≠ i → e12 j = ev j := fun j hj h1 => (hE14 j (by omega)).trans (hE00 j hj h1)
  have hGv7 : Gr (i + 2) ad1 ad11 := fun j hj => (hg13 j (by omega)).trans (hGv7 j hj)
  have hEv7 : ∀ j, j < i + 2 → j ≠ i → e12 j = e2 j := fun j hj h1 => (hE14 j (by omega)).trans (hEv7 j hj h1)
  have hGv17 : Gr (i + 3) ad11 ad11 := fun j hj => rfl
  have hEv17 : ∀ j, j < i + 3 → j ≠ i → e12 j = e12 j := fun j hj h1 => rfl
  refine n_st (st2 := [.ref (ad11 (i + 2)), .ref q]) rfl ?_
  refine n_rf1 hq ?_
  refine n_putF (k9 := 1) (fs2 := [.ref (ad1 (i + 1)), .ref (ad11 (i + 2)), .null, .int (iI 0)]) C dX3_init_17 (by omega) qh16 hX3_init_X3 tyX3_ok nmX3 rfl (by decide) kX3_init_15 rfl hnm rfl rfl rfl (Nat.le_of_ble_eq_true rfl) rfl (fun e18 hs19 ho20 => ?_)
  have hE00 : ∀ j, j < i + 1 → j ≠ i → e18 j = ev j := fun j hj h1 => (ho20 j (by omega)).trans (hE00 j hj h1)
  have hEv7 : ∀ j, j < i + 2 → j ≠ i → e18 j = e2 j := fun j hj h1 => (ho20 j (by omega)).trans (hEv7 j hj h1)
  have hEv17 : ∀ j, j < i + 3 → j ≠ i → e18 j = e12 j := fun j hj h1 => (ho20 j (by omega)).trans (hEv17 j hj h1)
  refine n_aload_n C dX3_init_20 0 rfl rfl ?_
  refine n_bipush C dX3_init_21 (by decide) ?_
  refine n_newI (n := 60) C dX3_init_23 (List.mem_of_getElem? (i := 4) rfl) (Nat.le_of_ble_eq_true rfl) (Nat.le_of_ble_eq_true rfl) (Nat.le_of_ble_eq_true rfl) (fun ad21 e22 hg23 hE24 hn25 => ?_)
  refine n_nm (N2 := i + 4) (c2 := 3) (s2 := 180) rfl rfl rfl ?_
  have hq := (hg23 i (by omega)).trans hq
  have qh26 := (hE24 i (by omega)).trans hs19
  have hG00 : Gr (i + 1) ad ad21 := fun j hj => (hg23 j (by omega)).trans (hG00 j hj)
  have hE00 : ∀ j, j < i + 1 → j ≠ i → e22 j = ev j := fun j hj h1 => (hE24 j (by omega)).trans (hE00 j hj h1)
  have hGv7 : Gr (i + 2) ad1 ad21 := fun j hj => (hg23 j (by omega)).trans (hGv7 j hj)
  have hEv7 : ∀ j, j < i + 2 → j ≠ i → e22 j = e2 j := fun j hj h1 => (hE24 j (by omega)).trans (hEv7 j hj h1)
  have hGv17 : Gr (i + 3) ad11 ad21 := fun j hj => (hg23 j (by omega)).trans (hGv17 j hj)
  have hEv17 : ∀ j, j < i + 3 → j ≠ i → e22 j = e12 j := fun j hj h1 => (hE24 j (by omega)).trans (hEv17 j hj h1)
  have hGv27 : Gr (i + 4) ad21 ad21 := fun j hj => rfl
  have hEv27 : ∀ j, j < i + 4 → j ≠ i → e22 j = e22 j := fun j hj h1 => rfl
  refine n_st (st2 := [.ref (ad21 (i + 3)), .ref q]) rfl ?_
  refine n_rf1 hq ?_
  refine n_putF (k9 := 2) (fs2 := [.ref (ad1 (i + 1)), .ref (ad11 (i + 2)), .ref (ad21 (i + 3)), .int (iI 0)]) C dX3_init_25 (by omega) qh26 hX3_init_X3 tyX3_ok nmX3 rfl (by decide) kX3_init_18 rfl hnm rfl rfl rfl (Nat.le_of_ble_eq_true rfl) rfl (fun e28 hs29 ho30 => ?_)
  have hE00 : ∀ j, j < i + 1 → j ≠ i → e28 j = ev j := fun j hj h1 => (ho30 j (by omega)).trans (hE00 j hj h1)
  have hEv7 : ∀ j, j < i + 2 → j ≠ i → e28 j = e2 j := fun j hj h1 => (ho30 j (by omega)).trans (hEv7 j hj h1)
  have hEv17 : ∀ j, j < i + 3 → j ≠ i → e28 j = e12 j := fun j hj h1 => (ho30 j (by omega)).trans (hEv17 j hj h1)
  have hEv27 : ∀ j, j < i + 4 → j ≠ i → e28 j = e22 j := fun j hj h1 => (ho30 j (by omega)).trans (hEv27 j hj h1)
  refine n_aload_n C dX3_init_28 0 rfl rfl ?_
  refine n_iconst C dX3_init_29 ?_
  refine n_rf1 hq ?_
  refine n_put (k9 := 3) (fs2 := [.ref (ad1 (i + 1)), .ref (ad11 (i + 2)), .ref (ad21 (i + 3)), .int (iI 0)]) C dX3_init_30 (by omega) hs29 hX3_init_X3 tyX3_ok nmX3 rfl (by decide) kX3_init_21 rfl rfl rfl (Nat.le_of_ble_eq_true rfl) rfl (fun e31 hs32 ho33 => ?_)
  have hE00 : ∀ j, j < i + 1 → j ≠ i → e31 j = ev j := fun j hj h1 => (ho33 j (by omega)).trans (hE00 j hj h1)
  have hEv7 : ∀ j, j < i + 2 → j ≠ i → e31 j = e2 j := fun j hj h1 => (ho33 j (by omega)).trans (hEv7 j hj h1)
  have hEv17 : ∀ j, j < i + 3 → j ≠ i → e31 j = e12 j := fun j hj h1 => (ho33 j (by omega)).trans (hEv17 j hj h1)
  have hEv27 : ∀ j, j < i + 4 → j ≠ i → e31 j = e22 j := fun j hj h1 => (ho33 j (by omega)).trans (hEv27 j hj h1)
  exact n_vretA C hr dX3_init_33 hG00 (⟨⟨fun _ => 0, fun _ => 0, fun _ => 0, hs32.trans (by rw [hGv7 (i + 1) (by omega), hGv17 (i + 2) (by omega)]; rfl), (hEv7 (i + 1) (by omega) (by omega)).trans hn5, (hEv17 (i + 2) (by omega) (by omega)).trans hn15, (hEv27 (i + 3) (by omega) (by omega)).trans hn25, fun j hj => absurd hj (Nat.not_lt_zero j), Nat.zero_le _⟩, fun j hj => hE00 j (by omega) (by omega)⟩)

set_option maxHeartbeats 4000000 in
set_option maxRecDepth 100000 in
theorem TX4_init (l : Launch) {G : GG} {ad : Nat → Nat} {ev : Nat → va_E} {i q : Nat} (hq : ad i = q) (he : ev i = .inr (4, [.null, .int (iI 0), .int (iI 0)])) : Ca l yX4_init wsX4_init rmX4_init [.ref q] G (i + 1) (i + 3) ad ev 2 2 (fun ad2 e2 => (∃ x : Nat, e2 i = .inr (4, [.ref x, .int (iI 0), .int (iI 0)])) ∧ ∀ j, j < i → e2 j = ev j) := by
  refine Ca_of (cc := cX4_init) (maxL := 1) (ret := none) (lv := [(0, .ref q)]) (by decide) rfl (Nat.le_of_ble_eq_true rfl) rfl ?_
  intro p E s m args below meth c A C hr hnm hX
  have hG00 : Gr (i + 1) ad ad := fun j hj => rfl
  have hE00 : ∀ j, j < i + 1 → j ≠ i → ev j = ev j := fun j hj h1 => rfl
  refine n_aload_n C dX4_init_0 0 rfl rfl ?_
  refine n_objI C dX4_init_1 (List.mem_of_getElem? (i := 1) rfl) (List.mem_of_getElem? (i := 2) rfl) (List.mem_of_getElem? (i := 3) rfl) (Nat.le_of_ble_eq_true rfl) (Nat.le_of_ble_eq_true rfl) ?_
  refine n_st (st2 := []) rfl ?_
  refine n_aload_n C dX4_init_4 0 rfl rfl ?_
  refine n_new (ci := 2) (fs := [.null, .int (iI 0)]) C dX4_init_5 hX4_init_X2 tyX2_ok (List.mem_of_getElem? (i := 4) rfl) (List.mem_of_getElem? (i := 5) rfl) (List.mem_of_getElem? (i := 6) rfl) rfl (by intro j hj; rcases (show j = 0 ∨ j = 1 by omega) with rfl | rfl <;> rfl) (Nat.le_of_ble_eq_true rfl) (Nat.le_of_ble_eq_true rfl) (fun ad1 e2 hg3 hE4 hn5 => ?_)
  refine n_nm (N2 := i + 2) (c2 := 1) (s2 := 2) rfl rfl rfl ?_
  have hq := (hg3 i (by omega)).trans hq
  have qh6 := (hE4 i (by omega)).trans he
  have hG00 : Gr (i + 1) ad ad1 := fun j hj => (hg3 j (by omega)).trans (hG00 j hj)
  have hE00 : ∀ j, j < i + 1 → j ≠ i → e2 j = ev j := fun j hj h1 => (hE4 j (by omega)).trans (hE00 j hj h1)
  refine n_st (st2 := [.ref (ad1 (i + 1)), .ref q]) rfl ?_
  refine n_dup C dX4_init_8 rfl ?_
  refine n_iconst C dX4_init_9 ?_
  refine n_st (st2 := [.int (iI ((0 : Nat) : Int)), .ref (ad1 (i + 1)), .ref (ad1 (i + 1)), .ref q]) rfl ?_
  refine n_callI (As := [.int (iI ((0 : Nat) : Int))]) (rest := [.ref (ad1 (i + 1)), .ref q]) C hX dX4_init_10 (TX2_init l (i := i + 1) (cap := 0) rfl hn5 (by omega)) (cwI 1 C.2.2.2.2.1 gX4_init_X2_init rfl rfl rfl (C.2.2.2.2.1 _ (List.mem_of_getElem? (i := 6) rfl)) (C.2.2.2.2.1 _ (List.mem_of_getElem? (i := 10) rfl)) (C.2.2.2.2.1 _ (List.mem_of_getElem? (i := 11) rfl)) rfl cdX2_init.2 ⟨(Nat.le_of_ble_eq_true rfl), (Nat.le_of_ble_eq_true rfl)⟩) rfl rfl (Nat.le_of_ble_eq_true rfl) ⟨(Nat.le_of_ble_eq_true rfl), (Nat.le_of_ble_eq_true rfl)⟩ ?_
  rintro ad7 e8 hg9 ⟨hrw, hE10⟩
  refine n_pc (pc2 := 13) rfl ?_
  refine n_nm (N2 := i + 3) (c2 := 2) (s2 := 2) rfl rfl rfl ?_
  have hq := (hg9 i (by omega)).trans hq
  have qh11 := (hE10 i (by omega)).trans qh6
  have hG00 : Gr (i + 1) ad ad7 := fun j hj => (hg9 j (by omega)).trans (hG00 j hj)
  have hE00 : ∀ j, j < i + 1 → j ≠ i → e8 j = ev j := fun j hj h1 => (hE10 j (by omega)).trans (hE00 j hj h1)
  refine n_st (st2 := [.ref (ad7 (i + 1)), .ref q]) (by rw [hg9 (i + 1) (by omega)]) ?_
  have hGv12 : Gr (i + 3) ad7 ad7 := fun j hj => rfl
  have hEv12 : ∀ j, j < i + 3 → j ≠ i → e8 j = e8 j := fun j hj h1 => rfl
  refine n_rf1 hq ?_
  refine n_put (k9 := 0) (fs2 := [.ref (ad7 (i + 1)), .int (iI 0), .int (iI 0)]) C dX4_init_13 (by omega) qh11 hX4_init_X4 tyX4_ok nmX4 rfl (by decide) kX4_init_14 rfl rfl rfl (Nat.le_of_ble_eq_true rfl) rfl (fun e13 hs14 ho15 => ?_)
  have hE00 : ∀ j, j < i + 1 → j ≠ i → e13 j = ev j := fun j hj h1 => (ho15 j (by omega)).trans (hE00 j hj h1)
  have hEv12 : ∀ j, j < i + 3 → j ≠ i → e13 j = e8 j := fun j hj h1 => (ho15 j (by omega)).trans (hEv12 j hj h1)
  refine n_aload_n C dX4_init_16 0 rfl rfl ?_
  refine n_iconst C dX4_init_17 ?_
  refine n_rf1 hq ?_
  refine n_put (k9 := 1) (fs2 := [.ref (ad7 (i + 1)), .int (iI 0), .int (iI 0)]) C dX4_init_18 (by omega) hs14 hX4_init_X4 tyX4_ok nmX4 rfl (by decide) kX4_init_20 rfl rfl rfl (Nat.le_of_ble_eq_true rfl) rfl (fun e16 hs17 ho18 => ?_)
  have hE00 : ∀ j, j < i + 1 → j ≠ i → e16 j = ev j := fun j hj h1 => (ho18 j (by omega)).trans (hE00 j hj h1)
  have hEv12 : ∀ j, j < i + 3 → j ≠ i → e16 j = e8 j := fun j hj h1 => (ho18 j (by omega)).trans (hEv12 j hj h1)
  refine n_aload_n C dX4_init_21 0 rfl rfl ?_
  refine n_iconst C dX4_init_22 ?_
  refine n_rf1 hq ?_
  refine n_put (k9 := 2) (fs2 := [.ref (ad7 (i + 1)), .int (iI 0), .int (iI 0)]) C dX4_init_23 (by omega) hs17 hX4_init_X4 tyX4_ok nmX4 rfl (by decide) kX4_init_24 rfl rfl rfl (Nat.le_of_ble_eq_true rfl) rfl (fun e19 hs20 ho21 => ?_)
  have hE00 : ∀ j, j < i + 1 → j ≠ i → e19 j = ev j := fun j hj h1 => (ho21 j (by omega)).trans (hE00 j hj h1)
  have hEv12 : ∀ j, j < i + 3 → j ≠ i → e19 j = e8 j := fun j hj h1 => (ho21 j (by omega)).trans (hEv12 j hj h1)
  exact n_vretA C hr dX4_init_26 hG00 (⟨⟨_, hs20⟩, fun j hj => hE00 j (by omega) (by omega)⟩)

set_option maxHeartbeats 4000000 in
set_option maxRecDepth 100000 in
theorem TX0_init (l : Launch) {G : GG} {ad : Nat → Nat} {ev : Nat → va_E} {q : Nat} (hq : ad 16 = q) (he : ev 16 = .inr (0, [.null, .null, .null])) : Ca l yX0_init wsX0_init rmX0_init [.ref q] G (17) (43) ad ev 26 466 (fun ad2 e2 => CmpAt G ad2 e2 39 41 (fun _ _ => 0) ∧ ∀ j, j < 16 → e2 j = ev j) := by
  refine Ca_of (cc := cX0_init) (maxL := 1) (ret := none) (lv := [(0, .ref q)]) (by decide) rfl (Nat.le_of_ble_eq_true rfl) rfl ?_
  intro p E s m args below meth c A C hr hnm hX
  have hG00 : Gr (17) ad ad := fun j hj => rfl
  have hE00 : ∀ j, j < 17 → j ≠ 16 → ev j = ev j := fun j hj h1 => rfl
  refine n_aload_n C dX0_init_0 0 rfl rfl ?_
  refine n_objI C dX0_init_1 (List.mem_of_getElem? (i := 1) rfl) (List.mem_of_getElem? (i := 2) rfl) (List.mem_of_getElem? (i := 3) rfl) (Nat.le_of_ble_eq_true rfl) (Nat.le_of_ble_eq_true rfl) ?_
  refine n_st (st2 := []) rfl ?_
  refine n_aload_n C dX0_init_4 0 rfl rfl ?_
  refine n_bipush C dX0_init_5 (by decide) ?_
  refine n_bipush C dX0_init_7 (by decide) ?_
  refine n_mna C hX dX0_init_9 (List.mem_of_getElem? (i := 4) rfl) (List.mem_of_getElem? (i := 5) rfl) (Nat.le_of_ble_eq_true rfl) (Nat.le_of_ble_eq_true rfl) (fun ad1 e2 hg3 hE4 hn5 hi6 => ?_)
  refine n_nm (N2 := 39) (c2 := 22) (s2 := 462) rfl rfl rfl ?_
  have hq := (hg3 16 (by omega)).trans hq
  have qh7 := (hE4 16 (by omega)).trans he
  have hG00 : Gr 17 ad ad1 := fun j hj => (hg3 j (by omega)).trans (hG00 j hj)
  have hE00 : ∀ j, j < 17 → j ≠ 16 → e2 j = ev j := fun j hj h1 => (hE4 j (by omega)).trans (hE00 j hj h1)
  have hGv8 : Gr 39 ad1 ad1 := fun j hj => rfl
  have hEv8 : ∀ j, j < 39 → j ≠ 16 → e2 j = e2 j := fun j hj h1 => rfl
  refine n_st (st2 := [.ref (ad1 17), .ref q]) rfl ?_
  refine n_rf1 hq ?_
  refine n_putF (k9 := 0) (fs2 := [.ref (ad1 17), .null, .null]) C dX0_init_13 (by omega) qh7 hX0_init_X0 tyX0_ok nmX0 rfl (by decide) kX0_init_11 rfl hnm rfl rfl rfl (Nat.le_of_ble_eq_true rfl) rfl (fun e9 hs10 ho11 => ?_)
  have hE00 : ∀ j, j < 17 → j ≠ 16 → e9 j = ev j := fun j hj h1 => (ho11 j (by omega)).trans (hE00 j hj h1)
  have hEv8 : ∀ j, j < 39 → j ≠ 16 → e9 j = e2 j := fun j hj h1 => (ho11 j (by omega)).trans (hEv8 j hj h1)
  refine n_aload_n C dX0_init_16 0 rfl rfl ?_
  refine n_new (ci := 2) (fs := [.null, .int (iI 0)]) C dX0_init_17 hX0_init_X2 tyX2_ok (List.mem_of_getElem? (i := 7) rfl) (List.mem_of_getElem? (i := 8) rfl) (List.mem_of_getElem? (i := 9) rfl) rfl (by intro j hj; rcases (show j = 0 ∨ j = 1 by omega) with rfl | rfl <;> rfl) (Nat.le_of_ble_eq_true rfl) (Nat.le_of_ble_eq_true rfl) (fun ad12 e13 hg14 hE15 hn16 => ?_)
  refine n_nm (N2 := 40) (c2 := 23) (s2 := 464) rfl rfl rfl ?_
  have hq := (hg14 16 (by omega)).trans hq
  have qh17 := (hE15 16 (by omega)).trans hs10
  have hG00 : Gr 17 ad ad12 := fun j hj => (hg14 j (by omega)).trans (hG00 j hj)
  have hE00 : ∀ j, j < 17 → j ≠ 16 → e13 j = ev j := fun j hj h1 => (hE15 j (by omega)).trans (hE00 j hj h1)
  have hGv8 : Gr 39 ad1 ad12 := fun j hj => (hg14 j (by omega)).trans (hGv8 j hj)
  have hEv8 : ∀ j, j < 39 → j ≠ 16 → e13 j = e2 j := fun j hj h1 => (hE15 j (by omega)).trans (hEv8 j hj h1)
  refine n_st (st2 := [.ref (ad12 39), .ref q]) rfl ?_
  refine n_dup C dX0_init_20 rfl ?_
  refine n_iconst C dX0_init_21 ?_
  refine n_st (st2 := [.int (iI ((0 : Nat) : Int)), .ref (ad12 39), .ref (ad12 39), .ref q]) rfl ?_
  refine n_callI (As := [.int (iI ((0 : Nat) : Int))]) (rest := [.ref (ad12 39), .ref q]) C hX dX0_init_22 (TX2_init l (i := 39) (cap := 0) rfl hn16 (by omega)) (cwI 1 C.2.2.2.2.1 gX0_init_X2_init rfl rfl rfl (C.2.2.2.2.1 _ (List.mem_of_getElem? (i := 9) rfl)) (C.2.2.2.2.1 _ (List.mem_of_getElem? (i := 12) rfl)) (C.2.2.2.2.1 _ (List.mem_of_getElem? (i := 13) rfl)) rfl cdX2_init.2 ⟨(Nat.le_of_ble_eq_true rfl), (Nat.le_of_ble_eq_true rfl)⟩) rfl rfl (Nat.le_of_ble_eq_true rfl) ⟨(Nat.le_of_ble_eq_true rfl), (Nat.le_of_ble_eq_true rfl)⟩ ?_
  rintro ad18 e19 hg20 ⟨hrw, hE21⟩
  refine n_pc (pc2 := 25) rfl ?_
  refine n_nm (N2 := 41) (c2 := 24) (s2 := 464) rfl rfl rfl ?_
  have hq := (hg20 16 (by omega)).trans hq
  have qh22 := (hE21 16 (by omega)).trans qh17
  have hG00 : Gr 17 ad ad18 := fun j hj => (hg20 j (by omega)).trans (hG00 j hj)
  have hE00 : ∀ j, j < 17 → j ≠ 16 → e19 j = ev j := fun j hj h1 => (hE21 j (by omega)).trans (hE00 j hj h1)
  have hGv8 : Gr 39 ad1 ad18 := fun j hj => (hg20 j (by omega)).trans (hGv8 j hj)
  have hEv8 : ∀ j, j < 39 → j ≠ 16 → e19 j = e2 j := fun j hj h1 => (hE21 j (by omega)).trans (hEv8 j hj h1)
  refine n_st (st2 := [.ref (ad18 39), .ref q]) (by rw [hg20 39 (by omega)]) ?_
  have hGv23 : Gr 41 ad18 ad18 := fun j hj => rfl
  have hEv23 : ∀ j, j < 41 → j ≠ 16 → e19 j = e19 j := fun j hj h1 => rfl
  refine n_rf1 hq ?_
  refine n_put (k9 := 1) (fs2 := [.ref (ad1 17), .ref (ad18 39), .null]) C dX0_init_25 (by omega) qh22 hX0_init_X0 tyX0_ok nmX0 rfl (by decide) kX0_init_21 rfl rfl rfl (Nat.le_of_ble_eq_true rfl) rfl (fun e24 hs25 ho26 => ?_)
  have hE00 : ∀ j, j < 17 → j ≠ 16 → e24 j = ev j := fun j hj h1 => (ho26 j (by omega)).trans (hE00 j hj h1)
  have hEv8 : ∀ j, j < 39 → j ≠ 16 → e24 j = e2 j := fun j hj h1 => (ho26 j (by omega)).trans (hEv8 j hj h1)
  have hEv23 : ∀ j, j < 41 → j ≠ 16 → e24 j = e19 j := fun j hj h1 => (ho26 j (by omega)).trans (hEv23 j hj h1)
  refine n_aload_n C dX0_init_28 0 rfl rfl ?_
  refine n_new (ci := 2) (fs := [.null, .int (iI 0)]) C dX0_init_29 hX0_init_X2 tyX2_ok (List.mem_of_getElem? (i := 7) rfl) (List.mem_of_getElem? (i := 8) rfl) (List.mem_of_getElem? (i := 9) rfl) rfl (by intro j hj; rcases (show j = 0 ∨ j = 1 by omega) with rfl | rfl <;> rfl) (Nat.le_of_ble_eq_true rfl) (Nat.le_of_ble_eq_true rfl) (fun ad27 e28 hg29 hE30 hn31 => ?_)
  refine n_nm (N2 := 42) (c2 := 25) (s2 := 466) rfl rfl rfl ?_
  have hq := (hg29 16 (by omega)).trans hq
  have qh32 := (hE30 16 (by omega)).trans hs25
  have hG00 : Gr 17 ad ad27 := fun j hj => (hg29 j (by omega)).trans (hG00 j hj)
  have hE00 : ∀ j, j < 17 → j ≠ 16 → e28 j = ev j := fun j hj h1 => (hE30 j (by omega)).trans (hE00 j hj h1)
  have hGv8 : Gr 39 ad1 ad27 := fun j hj => (hg29 j (by omega)).trans (hGv8 j hj)
  have hEv8 : ∀ j, j < 39 → j ≠ 16 → e28 j = e2 j := fun j hj h1 => (hE30 j (by omega)).trans (hEv8 j hj h1)
  have hGv23 : Gr 41 ad18 ad27 := fun j hj => (hg29 j (by omega)).trans (hGv23 j hj)
  have hEv23 : ∀ j, j < 41 → j ≠ 16 → e28 j = e19 j := fun j hj h1 => (hE30 j (by omega)).trans (hEv23 j hj h1)
  refine n_st (st2 := [.ref (ad27 41), .ref q]) rfl ?_
  refine n_dup C dX0_init_32 rfl ?_
  refine n_iconst C dX0_init_33 ?_
  refine n_st (st2 := [.int (iI ((0 : Nat) : Int)), .ref (ad27 41), .ref (ad27 41), .ref q]) rfl ?_
  refine n_callI (As := [.int (iI ((0 : Nat) : Int))]) (rest := [.ref (ad27 41), .ref q]) C hX dX0_init_34 (TX2_init l (i := 41) (cap := 0) rfl hn31 (by omega)) (cwI 1 C.2.2.2.2.1 gX0_init_X2_init rfl rfl rfl (C.2.2.2.2.1 _ (List.mem_of_getElem? (i := 9) rfl)) (C.2.2.2.2.1 _ (List.mem_of_getElem? (i := 12) rfl)) (C.2.2.2.2.1 _ (List.mem_of_getElem? (i := 13) rfl)) rfl cdX2_init.2 ⟨(Nat.le_of_ble_eq_true rfl), (Nat.le_of_ble_eq_true rfl)⟩) rfl rfl (Nat.le_of_ble_eq_true rfl) ⟨(Nat.le_of_ble_eq_true rfl), (Nat.le_of_ble_eq_true rfl)⟩ ?_
  rintro ad33 e34 hg35 ⟨hrw2, hE36⟩
  refine n_pc (pc2 := 37) rfl ?_
  refine n_nm (N2 := 43) (c2 := 26) (s2 := 466) rfl rfl rfl ?_
  have hq := (hg35 16 (by omega)).trans hq
  have qh37 := (hE36 16 (by omega)).trans qh32
  have hG00 : Gr 17 ad ad33 := fun j hj => (hg35 j (by omega)).trans (hG00 j hj)
  have hE00 : ∀ j, j < 17 → j ≠ 16 → e34 j = ev j := fun j hj h1 => (hE36 j (by omega)).trans (hE00 j hj h1)
  have hGv8 : Gr 39 ad1 ad33 := fun j hj => (hg35 j (by omega)).trans (hGv8 j hj)
  have hEv8 : ∀ j, j < 39 → j ≠ 16 → e34 j = e2 j := fun j hj h1 => (hE36 j (by omega)).trans (hEv8 j hj h1)
  have hGv23 : Gr 41 ad18 ad33 := fun j hj => (hg35 j (by omega)).trans (hGv23 j hj)
  have hEv23 : ∀ j, j < 41 → j ≠ 16 → e34 j = e19 j := fun j hj h1 => (hE36 j (by omega)).trans (hEv23 j hj h1)
  refine n_st (st2 := [.ref (ad33 41), .ref q]) (by rw [hg35 41 (by omega)]) ?_
  have hGv38 : Gr 43 ad33 ad33 := fun j hj => rfl
  have hEv38 : ∀ j, j < 43 → j ≠ 16 → e34 j = e34 j := fun j hj h1 => rfl
  refine n_rf1 hq ?_
  refine n_put (k9 := 2) (fs2 := [.ref (ad1 17), .ref (ad18 39), .ref (ad33 41)]) C dX0_init_37 (by omega) qh37 hX0_init_X0 tyX0_ok nmX0 rfl (by decide) kX0_init_25 rfl rfl rfl (Nat.le_of_ble_eq_true rfl) rfl (fun e39 hs40 ho41 => ?_)
  have hE00 : ∀ j, j < 17 → j ≠ 16 → e39 j = ev j := fun j hj h1 => (ho41 j (by omega)).trans (hE00 j hj h1)
  have hEv8 : ∀ j, j < 39 → j ≠ 16 → e39 j = e2 j := fun j hj h1 => (ho41 j (by omega)).trans (hEv8 j hj h1)
  have hEv23 : ∀ j, j < 41 → j ≠ 16 → e39 j = e19 j := fun j hj h1 => (ho41 j (by omega)).trans (hEv23 j hj h1)
  have hEv38 : ∀ j, j < 43 → j ≠ 16 → e39 j = e34 j := fun j hj h1 => (ho41 j (by omega)).trans (hEv38 j hj h1)
  exact n_vretA C hr dX0_init_40 hG00 (⟨⟨hs40.trans (by rw [hGv8 17 (by omega), hGv23 39 (by omega)]), ((hEv8 17 (by omega) (by omega)).trans hn5).trans (by
      congr 7
      funext i9
      by_cases h9 : i9 < 21
      · rw [if_pos h9, if_pos h9, hGv8 (18 + i9) (by omega)]
      · rw [if_neg h9, if_neg h9]), fun i9 h9 => (hEv8 (18 + i9) (by omega) (by omega)).trans (hi6 i9 h9)⟩, fun j hj => hE00 j (by omega) (by omega)⟩)

set_option maxHeartbeats 4000000 in
set_option maxRecDepth 100000 in
theorem TX1_init (l : Launch) {G : GG} {ad : Nat → Nat} {ev : Nat → va_E} {q : Nat} (hq : ad 43 = q) (he : ev 43 = .inr (1, [.null, .null, .null, .null, .null])) : Ca l yX1_init wsX1_init rmX1_init [.ref q] G (44) (57) ad ev 13 59 (fun ad2 e2 => (e2 43 = .inr (1, [.ref (ad2 44), .ref (ad2 46), .ref (ad2 48), .ref (ad2 51), .ref (ad2 54)]) ∧ RowAt G ad2 e2 44 [] 20 ∧ RowAt G ad2 e2 46 [] 20 ∧ (∃ x : Nat, e2 48 = .inr (4, [.ref x, .int (iI 0), .int (iI 0)])) ∧ (∃ x : Nat, e2 51 = .inr (4, [.ref x, .int (iI 0), .int (iI 0)])) ∧ (∃ x : Nat, e2 54 = .inr (4, [.ref x, .int (iI 0), .int (iI 0)]))) ∧ ∀ j, j < 43 → e2 j = ev j) := by
  refine Ca_of (cc := cX1_init) (maxL := 1) (ret := none) (lv := [(0, .ref q)]) (by decide) rfl (Nat.le_of_ble_eq_true rfl) rfl ?_
  intro p E s m args below meth c A C hr hnm hX
  have hG00 : Gr (44) ad ad := fun j hj => rfl
  have hE00 : ∀ j, j < 44 → j ≠ 43 → ev j = ev j := fun j hj h1 => rfl
  refine n_aload_n C dX1_init_0 0 rfl rfl ?_
  refine n_objI C dX1_init_1 (List.mem_of_getElem? (i := 1) rfl) (List.mem_of_getElem? (i := 2) rfl) (List.mem_of_getElem? (i := 3) rfl) (Nat.le_of_ble_eq_true rfl) (Nat.le_of_ble_eq_true rfl) ?_
  refine n_st (st2 := []) rfl ?_
  refine n_aload_n C dX1_init_4 0 rfl rfl ?_
  refine n_new (ci := 2) (fs := [.null, .int (iI 0)]) C dX1_init_5 hX1_init_X2 tyX2_ok (List.mem_of_getElem? (i := 4) rfl) (List.mem_of_getElem? (i := 5) rfl) (List.mem_of_getElem? (i := 6) rfl) rfl (by intro j hj; rcases (show j = 0 ∨ j = 1 by omega) with rfl | rfl <;> rfl) (Nat.le_of_ble_eq_true rfl) (Nat.le_of_ble_eq_true rfl) (fun ad1 e2 hg3 hE4 hn5 => ?_)
  refine n_nm (N2 := 45) (c2 := 1) (s2 := 2) rfl rfl rfl ?_
  have hq := (hg3 43 (by omega)).trans hq
  have qh6 := (hE4 43 (by omega)).trans he
  have hG00 : Gr 44 ad ad1 := fun j hj => (hg3 j (by omega)).trans (hG00 j hj)
  have hE00 : ∀ j, j < 44 → j ≠ 43 → e2 j = ev j := fun j hj h1 => (hE4 j (by omega)).trans (hE00 j hj h1)
  refine n_st (st2 := [.ref (ad1 44), .ref q]) rfl ?_
  refine n_dup C dX1_init_8 rfl ?_
  refine n_bipush C dX1_init_9 (by decide) ?_
  refine n_st (st2 := [.int (iI ((20 : Nat) : Int)), .ref (ad1 44), .ref (ad1 44), .ref q]) rfl ?_
  refine n_callI (As := [.int (iI ((20 : Nat) : Int))]) (rest := [.ref (ad1 44), .ref q]) C hX dX1_init_11 (TX2_init l (i := 44) (cap := 20) rfl hn5 (by omega)) (cwI 1 C.2.2.2.2.1 gX1_init_X2_init rfl rfl rfl (C.2.2.2.2.1 _ (List.mem_of_getElem? (i := 6) rfl)) (C.2.2.2.2.1 _ (List.mem_of_getElem? (i := 15) rfl)) (C.2.2.2.2.1 _ (List.mem_of_getElem? (i := 16) rfl)) rfl cdX2_init.2 ⟨(Nat.le_of_ble_eq_true rfl), (Nat.le_of_ble_eq_true rfl)⟩) rfl rfl (Nat.le_of_ble_eq_true rfl) ⟨(Nat.le_of_ble_eq_true rfl), (Nat.le_of_ble_eq_true rfl)⟩ ?_
  rintro ad7 e8 hg9 ⟨hw44, hE10⟩
  refine n_pc (pc2 := 14) rfl ?_
  refine n_nm (N2 := 46) (c2 := 2) (s2 := 22) rfl rfl rfl ?_
  have hq := (hg9 43 (by omega)).trans hq
  have qh11 := (hE10 43 (by omega)).trans qh6
  have hG00 : Gr 44 ad ad7 := fun j hj => (hg9 j (by omega)).trans (hG00 j hj)
  have hE00 : ∀ j, j < 44 → j ≠ 43 → e8 j = ev j := fun j hj h1 => (hE10 j (by omega)).trans (hE00 j hj h1)
  refine n_st (st2 := [.ref (ad7 44), .ref q]) (by rw [hg9 44 (by omega)]) ?_
  have hGv12 : Gr 46 ad7 ad7 := fun j hj => rfl
  have hEv12 : ∀ j, j < 46 → j ≠ 43 → e8 j = e8 j := fun j hj h1 => rfl
  refine n_rf1 hq ?_
  refine n_putF (k9 := 0) (fs2 := [.ref (ad7 44), .null, .null, .null, .null]) C dX1_init_14 (by omega) qh11 hX1_init_X1 tyX1_ok nmX1 rfl (by decide) kX1_init_14 rfl hnm rfl rfl rfl (Nat.le_of_ble_eq_true rfl) rfl (fun e13 hs14 ho15 => ?_)
  have hE00 : ∀ j, j < 44 → j ≠ 43 → e13 j = ev j := fun j hj h1 => (ho15 j (by omega)).trans (hE00 j hj h1)
  have hEv12 : ∀ j, j < 46 → j ≠ 43 → e13 j = e8 j := fun j hj h1 => (ho15 j (by omega)).trans (hEv12 j hj h1)
  refine n_aload_n C dX1_init_17 0 rfl rfl ?_
  refine n_new (ci := 2) (fs := [.null, .int (iI 0)]) C dX1_init_18 hX1_init_X2 tyX2_ok (List.mem_of_getElem? (i := 4) rfl) (List.mem_of_getElem? (i := 5) rfl) (List.mem_of_getElem? (i := 6) rfl) rfl (by intro j hj; rcases (show j = 0 ∨ j = 1 by omega) with rfl | rfl <;> rfl) (Nat.le_of_ble_eq_true rfl) (Nat.le_of_ble_eq_true rfl) (fun ad16 e17 hg18 hE19 hn20 => ?_)
  refine n_nm (N2 := 47) (c2 := 3) (s2 := 24) rfl rfl rfl ?_
  have hq := (hg18 43 (by omega)).trans hq
  have qh21 := (hE19 43 (by omega)).trans hs14
  have hG00 : Gr 44 ad ad16 := fun j hj => (hg18 j (by omega)).trans (hG00 j hj)
  have hE00 : ∀ j, j < 44 → j ≠ 43 → e17 j = ev j := fun j hj h1 => (hE19 j (by omega)).trans (hE00 j hj h1)
  have hGv12 : Gr 46 ad7 ad16 := fun j hj => (hg18 j (by omega)).trans (hGv12 j hj)
  have hEv12 : ∀ j, j < 46 → j ≠ 43 → e17 j = e8 j := fun j hj h1 => (hE19 j (by omega)).trans (hEv12 j hj h1)
  refine n_st (st2 := [.ref (ad16 46), .ref q]) rfl ?_
  refine n_dup C dX1_init_21 rfl ?_
  refine n_bipush C dX1_init_22 (by decide) ?_
  refine n_st (st2 := [.int (iI ((20 : Nat) : Int)), .ref (ad16 46), .ref (ad16 46), .ref q]) rfl ?_
  refine n_callI (As := [.int (iI ((20 : Nat) : Int))]) (rest := [.ref (ad16 46), .ref q]) C hX dX1_init_24 (TX2_init l (i := 46) (cap := 20) rfl hn20 (by omega)) (cwI 1 C.2.2.2.2.1 gX1_init_X2_init rfl rfl rfl (C.2.2.2.2.1 _ (List.mem_of_getElem? (i := 6) rfl)) (C.2.2.2.2.1 _ (List.mem_of_getElem? (i := 15) rfl)) (C.2.2.2.2.1 _ (List.mem_of_getElem? (i := 16) rfl)) rfl cdX2_init.2 ⟨(Nat.le_of_ble_eq_true rfl), (Nat.le_of_ble_eq_true rfl)⟩) rfl rfl (Nat.le_of_ble_eq_true rfl) ⟨(Nat.le_of_ble_eq_true rfl), (Nat.le_of_ble_eq_true rfl)⟩ ?_
  rintro ad22 e23 hg24 ⟨hw46, hE25⟩
  refine n_pc (pc2 := 27) rfl ?_
  refine n_nm (N2 := 48) (c2 := 4) (s2 := 44) rfl rfl rfl ?_
  have hq := (hg24 43 (by omega)).trans hq
  have qh26 := (hE25 43 (by omega)).trans qh21
  have hG00 : Gr 44 ad ad22 := fun j hj => (hg24 j (by omega)).trans (hG00 j hj)
  have hE00 : ∀ j, j < 44 → j ≠ 43 → e23 j = ev j := fun j hj h1 => (hE25 j (by omega)).trans (hE00 j hj h1)
  have hGv12 : Gr 46 ad7 ad22 := fun j hj => (hg24 j (by omega)).trans (hGv12 j hj)
  have hEv12 : ∀ j, j < 46 → j ≠ 43 → e23 j = e8 j := fun j hj h1 => (hE25 j (by omega)).trans (hEv12 j hj h1)
  refine n_st (st2 := [.ref (ad22 46), .ref q]) (by rw [hg24 46 (by omega)]) ?_
  have hGv27 : Gr 48 ad22 ad22 := fun j hj => rfl
  have hEv27 : ∀ j, j < 48 → j ≠ 43 → e23 j = e23 j := fun j hj h1 => rfl
  refine n_rf1 hq ?_
  refine n_putF (k9 := 1) (fs2 := [.ref (ad7 44), .ref (ad22 46), .null, .null, .null]) C dX1_init_27 (by omega) qh26 hX1_init_X1 tyX1_ok nmX1 rfl (by decide) kX1_init_20 rfl hnm rfl rfl rfl (Nat.le_of_ble_eq_true rfl) rfl (fun e28 hs29 ho30 => ?_)
  have hE00 : ∀ j, j < 44 → j ≠ 43 → e28 j = ev j := fun j hj h1 => (ho30 j (by omega)).trans (hE00 j hj h1)
  have hEv12 : ∀ j, j < 46 → j ≠ 43 → e28 j = e8 j := fun j hj h1 => (ho30 j (by omega)).trans (hEv12 j hj h1)
  have hEv27 : ∀ j, j < 48 → j ≠ 43 → e28 j = e23 j := fun j hj h1 => (ho30 j (by omega)).trans (hEv27 j hj h1)
  refine n_aload_n C dX1_init_30 0 rfl rfl ?_
  refine n_new (ci := 4) (fs := [.null, .int (iI 0), .int (iI 0)]) C dX1_init_31 hX1_init_X4 tyX4_ok (List.mem_of_getElem? (i := 9) rfl) (List.mem_of_getElem? (i := 10) rfl) (List.mem_of_getElem? (i := 11) rfl) rfl (by intro j hj; rcases (show j = 0 ∨ j = 1 ∨ j = 2 by omega) with rfl | rfl | rfl <;> rfl) (Nat.le_of_ble_eq_true rfl) (Nat.le_of_ble_eq_true rfl) (fun ad31 e32 hg33 hE34 hn35 => ?_)
  refine n_nm (N2 := 49) (c2 := 5) (s2 := 47) rfl rfl rfl ?_
  have hq := (hg33 43 (by omega)).trans hq
  have qh36 := (hE34 43 (by omega)).trans hs29
  have hG00 : Gr 44 ad ad31 := fun j hj => (hg33 j (by omega)).trans (hG00 j hj)
  have hE00 : ∀ j, j < 44 → j ≠ 43 → e32 j = ev j := fun j hj h1 => (hE34 j (by omega)).trans (hE00 j hj h1)
  have hGv12 : Gr 46 ad7 ad31 := fun j hj => (hg33 j (by omega)).trans (hGv12 j hj)
  have hEv12 : ∀ j, j < 46 → j ≠ 43 → e32 j = e8 j := fun j hj h1 => (hE34 j (by omega)).trans (hEv12 j hj h1)
  have hGv27 : Gr 48 ad22 ad31 := fun j hj => (hg33 j (by omega)).trans (hGv27 j hj)
  have hEv27 : ∀ j, j < 48 → j ≠ 43 → e32 j = e23 j := fun j hj h1 => (hE34 j (by omega)).trans (hEv27 j hj h1)
  refine n_st (st2 := [.ref (ad31 48), .ref q]) rfl ?_
  refine n_dup C dX1_init_34 rfl ?_
  refine n_callI (As := []) (rest := [.ref (ad31 48), .ref q]) C hX dX1_init_35 (TX4_init l (i := 48) rfl hn35) (cwI 0 C.2.2.2.2.1 gX1_init_X4_init rfl rfl rfl (C.2.2.2.2.1 _ (List.mem_of_getElem? (i := 11) rfl)) (C.2.2.2.2.1 _ (List.mem_of_getElem? (i := 22) rfl)) (C.2.2.2.2.1 _ (List.mem_of_getElem? (i := 23) rfl)) rfl cdX4_init.2 ⟨(Nat.le_of_ble_eq_true rfl), (Nat.le_of_ble_eq_true rfl)⟩) rfl rfl (Nat.le_of_ble_eq_true rfl) ⟨(Nat.le_of_ble_eq_true rfl), (Nat.le_of_ble_eq_true rfl)⟩ ?_
  rintro ad37 e38 hg39 ⟨⟨x48, hw48⟩, hE40⟩
  refine n_pc (pc2 := 38) rfl ?_
  refine n_nm (N2 := 51) (c2 := 7) (s2 := 49) rfl rfl rfl ?_
  have hq := (hg39 43 (by omega)).trans hq
  have qh41 := (hE40 43 (by omega)).trans qh36
  have hG00 : Gr 44 ad ad37 := fun j hj => (hg39 j (by omega)).trans (hG00 j hj)
  have hE00 : ∀ j, j < 44 → j ≠ 43 → e38 j = ev j := fun j hj h1 => (hE40 j (by omega)).trans (hE00 j hj h1)
  have hGv12 : Gr 46 ad7 ad37 := fun j hj => (hg39 j (by omega)).trans (hGv12 j hj)
  have hEv12 : ∀ j, j < 46 → j ≠ 43 → e38 j = e8 j := fun j hj h1 => (hE40 j (by omega)).trans (hEv12 j hj h1)
  have hGv27 : Gr 48 ad22 ad37 := fun j hj => (hg39 j (by omega)).trans (hGv27 j hj)
  have hEv27 : ∀ j, j < 48 → j ≠ 43 → e38 j = e23 j := fun j hj h1 => (hE40 j (by omega)).trans (hEv27 j hj h1)
  refine n_st (st2 := [.ref (ad37 48), .ref q]) (by rw [hg39 48 (by omega)]) ?_
  have hGv42 : Gr 51 ad37 ad37 := fun j hj => rfl
  have hEv42 : ∀ j, j < 51 → j ≠ 43 → e38 j = e38 j := fun j hj h1 => rfl
  refine n_rf1 hq ?_
  refine n_putF (k9 := 2) (fs2 := [.ref (ad7 44), .ref (ad22 46), .ref (ad37 48), .null, .null]) C dX1_init_38 (by omega) qh41 hX1_init_X1 tyX1_ok nmX1 rfl (by decide) kX1_init_26 rfl hnm rfl rfl rfl (Nat.le_of_ble_eq_true rfl) rfl (fun e43 hs44 ho45 => ?_)
  have hE00 : ∀ j, j < 44 → j ≠ 43 → e43 j = ev j := fun j hj h1 => (ho45 j (by omega)).trans (hE00 j hj h1)
  have hEv12 : ∀ j, j < 46 → j ≠ 43 → e43 j = e8 j := fun j hj h1 => (ho45 j (by omega)).trans (hEv12 j hj h1)
  have hEv27 : ∀ j, j < 48 → j ≠ 43 → e43 j = e23 j := fun j hj h1 => (ho45 j (by omega)).trans (hEv27 j hj h1)
  have hEv42 : ∀ j, j < 51 → j ≠ 43 → e43 j = e38 j := fun j hj h1 => (ho45 j (by omega)).trans (hEv42 j hj h1)
  refine n_aload_n C dX1_init_41 0 rfl rfl ?_
  refine n_new (ci := 4) (fs := [.null, .int (iI 0), .int (iI 0)]) C dX1_init_42 hX1_init_X4 tyX4_ok (List.mem_of_getElem? (i := 9) rfl) (List.mem_of_getElem? (i := 10) rfl) (List.mem_of_getElem? (i := 11) rfl) rfl (by intro j hj; rcases (show j = 0 ∨ j = 1 ∨ j = 2 by omega) with rfl | rfl | rfl <;> rfl) (Nat.le_of_ble_eq_true rfl) (Nat.le_of_ble_eq_true rfl) (fun ad46 e47 hg48 hE49 hn50 => ?_)
  refine n_nm (N2 := 52) (c2 := 8) (s2 := 52) rfl rfl rfl ?_
  have hq := (hg48 43 (by omega)).trans hq
  have qh51 := (hE49 43 (by omega)).trans hs44
  have hG00 : Gr 44 ad ad46 := fun j hj => (hg48 j (by omega)).trans (hG00 j hj)
  have hE00 : ∀ j, j < 44 → j ≠ 43 → e47 j = ev j := fun j hj h1 => (hE49 j (by omega)).trans (hE00 j hj h1)
  have hGv12 : Gr 46 ad7 ad46 := fun j hj => (hg48 j (by omega)).trans (hGv12 j hj)
  have hEv12 : ∀ j, j < 46 → j ≠ 43 → e47 j = e8 j := fun j hj h1 => (hE49 j (by omega)).trans (hEv12 j hj h1)
  have hGv27 : Gr 48 ad22 ad46 := fun j hj => (hg48 j (by omega)).trans (hGv27 j hj)
  have hEv27 : ∀ j, j < 48 → j ≠ 43 → e47 j = e23 j := fun j hj h1 => (hE49 j (by omega)).trans (hEv27 j hj h1)
  have hGv42 : Gr 51 ad37 ad46 := fun j hj => (hg48 j (by omega)).trans (hGv42 j hj)
  have hEv42 : ∀ j, j < 51 → j ≠ 43 → e47 j = e38 j := fun j hj h1 => (hE49 j (by omega)).trans (hEv42 j hj h1)
  refine n_st (st2 := [.ref (ad46 51), .ref q]) rfl ?_
  refine n_dup C dX1_init_45 rfl ?_
  refine n_callI (As := []) (rest := [.ref (ad46 51), .ref q]) C hX dX1_init_46 (TX4_init l (i := 51) rfl hn50) (cwI 0 C.2.2.2.2.1 gX1_init_X4_init rfl rfl rfl (C.2.2.2.2.1 _ (List.mem_of_getElem? (i := 11) rfl)) (C.2.2.2.2.1 _ (List.mem_of_getElem? (i := 22) rfl)) (C.2.2.2.2.1 _ (List.mem_of_getElem? (i := 23) rfl)) rfl cdX4_init.2 ⟨(Nat.le_of_ble_eq_true rfl), (Nat.le_of_ble_eq_true rfl)⟩) rfl rfl (Nat.le_of_ble_eq_true rfl) ⟨(Nat.le_of_ble_eq_true rfl), (Nat.le_of_ble_eq_true rfl)⟩ ?_
  rintro ad52 e53 hg54 ⟨⟨x51, hw51⟩, hE55⟩
  refine n_pc (pc2 := 49) rfl ?_
  refine n_nm (N2 := 54) (c2 := 10) (s2 := 54) rfl rfl rfl ?_
  have hq := (hg54 43 (by omega)).trans hq
  have qh56 := (hE55 43 (by omega)).trans qh51
  have hG00 : Gr 44 ad ad52 := fun j hj => (hg54 j (by omega)).trans (hG00 j hj)
  have hE00 : ∀ j, j < 44 → j ≠ 43 → e53 j = ev j := fun j hj h1 => (hE55 j (by omega)).trans (hE00 j hj h1)
  have hGv12 : Gr 46 ad7 ad52 := fun j hj => (hg54 j (by omega)).trans (hGv12 j hj)
  have hEv12 : ∀ j, j < 46 → j ≠ 43 → e53 j = e8 j := fun j hj h1 => (hE55 j (by omega)).trans (hEv12 j hj h1)
  have hGv27 : Gr 48 ad22 ad52 := fun j hj => (hg54 j (by omega)).trans (hGv27 j hj)
  have hEv27 : ∀ j, j < 48 → j ≠ 43 → e53 j = e23 j := fun j hj h1 => (hE55 j (by omega)).trans (hEv27 j hj h1)
  have hGv42 : Gr 51 ad37 ad52 := fun j hj => (hg54 j (by omega)).trans (hGv42 j hj)
  have hEv42 : ∀ j, j < 51 → j ≠ 43 → e53 j = e38 j := fun j hj h1 => (hE55 j (by omega)).trans (hEv42 j hj h1)
  refine n_st (st2 := [.ref (ad52 51), .ref q]) (by rw [hg54 51 (by omega)]) ?_
  have hGv57 : Gr 54 ad52 ad52 := fun j hj => rfl
  have hEv57 : ∀ j, j < 54 → j ≠ 43 → e53 j = e53 j := fun j hj h1 => rfl
  refine n_rf1 hq ?_
  refine n_putF (k9 := 3) (fs2 := [.ref (ad7 44), .ref (ad22 46), .ref (ad37 48), .ref (ad52 51), .null]) C dX1_init_49 (by omega) qh56 hX1_init_X1 tyX1_ok nmX1 rfl (by decide) kX1_init_30 rfl hnm rfl rfl rfl (Nat.le_of_ble_eq_true rfl) rfl (fun e58 hs59 ho60 => ?_)
  have hE00 : ∀ j, j < 44 → j ≠ 43 → e58 j = ev j := fun j hj h1 => (ho60 j (by omega)).trans (hE00 j hj h1)
  have hEv12 : ∀ j, j < 46 → j ≠ 43 → e58 j = e8 j := fun j hj h1 => (ho60 j (by omega)).trans (hEv12 j hj h1)
  have hEv27 : ∀ j, j < 48 → j ≠ 43 → e58 j = e23 j := fun j hj h1 => (ho60 j (by omega)).trans (hEv27 j hj h1)
  have hEv42 : ∀ j, j < 51 → j ≠ 43 → e58 j = e38 j := fun j hj h1 => (ho60 j (by omega)).trans (hEv42 j hj h1)
  have hEv57 : ∀ j, j < 54 → j ≠ 43 → e58 j = e53 j := fun j hj h1 => (ho60 j (by omega)).trans (hEv57 j hj h1)
  refine n_aload_n C dX1_init_52 0 rfl rfl ?_
  refine n_new (ci := 4) (fs := [.null, .int (iI 0), .int (iI 0)]) C dX1_init_53 hX1_init_X4 tyX4_ok (List.mem_of_getElem? (i := 9) rfl) (List.mem_of_getElem? (i := 10) rfl) (List.mem_of_getElem? (i := 11) rfl) rfl (by intro j hj; rcases (show j = 0 ∨ j = 1 ∨ j = 2 by omega) with rfl | rfl | rfl <;> rfl) (Nat.le_of_ble_eq_true rfl) (Nat.le_of_ble_eq_true rfl) (fun ad61 e62 hg63 hE64 hn65 => ?_)
  refine n_nm (N2 := 55) (c2 := 11) (s2 := 57) rfl rfl rfl ?_
  have hq := (hg63 43 (by omega)).trans hq
  have qh66 := (hE64 43 (by omega)).trans hs59
  have hG00 : Gr 44 ad ad61 := fun j hj => (hg63 j (by omega)).trans (hG00 j hj)
  have hE00 : ∀ j, j < 44 → j ≠ 43 → e62 j = ev j := fun j hj h1 => (hE64 j (by omega)).trans (hE00 j hj h1)
  have hGv12 : Gr 46 ad7 ad61 := fun j hj => (hg63 j (by omega)).trans (hGv12 j hj)
  have hEv12 : ∀ j, j < 46 → j ≠ 43 → e62 j = e8 j := fun j hj h1 => (hE64 j (by omega)).trans (hEv12 j hj h1)
  have hGv27 : Gr 48 ad22 ad61 := fun j hj => (hg63 j (by omega)).trans (hGv27 j hj)
  have hEv27 : ∀ j, j < 48 → j ≠ 43 → e62 j = e23 j := fun j hj h1 => (hE64 j (by omega)).trans (hEv27 j hj h1)
  have hGv42 : Gr 51 ad37 ad61 := fun j hj => (hg63 j (by omega)).trans (hGv42 j hj)
  have hEv42 : ∀ j, j < 51 → j ≠ 43 → e62 j = e38 j := fun j hj h1 => (hE64 j (by omega)).trans (hEv42 j hj h1)
  have hGv57 : Gr 54 ad52 ad61 := fun j hj => (hg63 j (by omega)).trans (hGv57 j hj)
  have hEv57 : ∀ j, j < 54 → j ≠ 43 → e62 j = e53 j := fun j hj h1 => (hE64 j (by omega)).trans (hEv57 j hj h1)
  refine n_st (st2 := [.ref (ad61 54), .ref q]) rfl ?_
  refine n_dup C dX1_init_56 rfl ?_
  refine n_callI (As := []) (rest := [.ref (ad61 54), .ref q]) C hX dX1_init_57 (TX4_init l (i := 54) rfl hn65) (cwI 0 C.2.2.2.2.1 gX1_init_X4_init rfl rfl rfl (C.2.2.2.2.1 _ (List.mem_of_getElem? (i := 11) rfl)) (C.2.2.2.2.1 _ (List.mem_of_getElem? (i := 22) rfl)) (C.2.2.2.2.1 _ (List.mem_of_getElem? (i := 23) rfl)) rfl cdX4_init.2 ⟨(Nat.le_of_ble_eq_true rfl), (Nat.le_of_ble_eq_true rfl)⟩) rfl rfl (Nat.le_of_ble_eq_true rfl) ⟨(Nat.le_of_ble_eq_true rfl), (Nat.le_of_ble_eq_true rfl)⟩ ?_
  rintro ad67 e68 hg69 ⟨⟨x54, hw54⟩, hE70⟩
  refine n_pc (pc2 := 60) rfl ?_
  refine n_nm (N2 := 57) (c2 := 13) (s2 := 59) rfl rfl rfl ?_
  have hq := (hg69 43 (by omega)).trans hq
  have qh71 := (hE70 43 (by omega)).trans qh66
  have hG00 : Gr 44 ad ad67 := fun j hj => (hg69 j (by omega)).trans (hG00 j hj)
  have hE00 : ∀ j, j < 44 → j ≠ 43 → e68 j = ev j := fun j hj h1 => (hE70 j (by omega)).trans (hE00 j hj h1)
  have hGv12 : Gr 46 ad7 ad67 := fun j hj => (hg69 j (by omega)).trans (hGv12 j hj)
  have hEv12 : ∀ j, j < 46 → j ≠ 43 → e68 j = e8 j := fun j hj h1 => (hE70 j (by omega)).trans (hEv12 j hj h1)
  have hGv27 : Gr 48 ad22 ad67 := fun j hj => (hg69 j (by omega)).trans (hGv27 j hj)
  have hEv27 : ∀ j, j < 48 → j ≠ 43 → e68 j = e23 j := fun j hj h1 => (hE70 j (by omega)).trans (hEv27 j hj h1)
  have hGv42 : Gr 51 ad37 ad67 := fun j hj => (hg69 j (by omega)).trans (hGv42 j hj)
  have hEv42 : ∀ j, j < 51 → j ≠ 43 → e68 j = e38 j := fun j hj h1 => (hE70 j (by omega)).trans (hEv42 j hj h1)
  have hGv57 : Gr 54 ad52 ad67 := fun j hj => (hg69 j (by omega)).trans (hGv57 j hj)
  have hEv57 : ∀ j, j < 54 → j ≠ 43 → e68 j = e53 j := fun j hj h1 => (hE70 j (by omega)).trans (hEv57 j hj h1)
  refine n_st (st2 := [.ref (ad67 54), .ref q]) (by rw [hg69 54 (by omega)]) ?_
  have hGv72 : Gr 57 ad67 ad67 := fun j hj => rfl
  have hEv72 : ∀ j, j < 57 → j ≠ 43 → e68 j = e68 j := fun j hj h1 => rfl
  refine n_rf1 hq ?_
  refine n_putF (k9 := 4) (fs2 := [.ref (ad7 44), .ref (ad22 46), .ref (ad37 48), .ref (ad52 51), .ref (ad67 54)]) C dX1_init_60 (by omega) qh71 hX1_init_X1 tyX1_ok nmX1 rfl (by decide) kX1_init_33 rfl hnm rfl rfl rfl (Nat.le_of_ble_eq_true rfl) rfl (fun e73 hs74 ho75 => ?_)
  have hE00 : ∀ j, j < 44 → j ≠ 43 → e73 j = ev j := fun j hj h1 => (ho75 j (by omega)).trans (hE00 j hj h1)
  have hEv12 : ∀ j, j < 46 → j ≠ 43 → e73 j = e8 j := fun j hj h1 => (ho75 j (by omega)).trans (hEv12 j hj h1)
  have hEv27 : ∀ j, j < 48 → j ≠ 43 → e73 j = e23 j := fun j hj h1 => (ho75 j (by omega)).trans (hEv27 j hj h1)
  have hEv42 : ∀ j, j < 51 → j ≠ 43 → e73 j = e38 j := fun j hj h1 => (ho75 j (by omega)).trans (hEv42 j hj h1)
  have hEv57 : ∀ j, j < 54 → j ≠ 43 → e73 j = e53 j := fun j hj h1 => (ho75 j (by omega)).trans (hEv57 j hj h1)
  have hEv72 : ∀ j, j < 57 → j ≠ 43 → e73 j = e68 j := fun j hj h1 => (ho75 j (by omega)).trans (hEv72 j hj h1)
  exact n_vretA C hr dX1_init_63 hG00 (⟨⟨hs74.trans (by rw [hGv12 44 (by omega), hGv27 46 (by omega), hGv42 48 (by omega), hGv57 51 (by omega)]), hw44.mv (hGv12 45 (by omega)) (hEv12 44 (by omega) (by omega)) (hEv12 45 (by omega) (by omega)), hw46.mv (hGv27 47 (by omega)) (hEv27 46 (by omega) (by omega)) (hEv27 47 (by omega) (by omega)), ⟨x48, (hEv42 48 (by omega) (by omega)).trans hw48⟩, ⟨x51, (hEv57 51 (by omega) (by omega)).trans hw51⟩, ⟨x54, (hEv72 54 (by omega) (by omega)).trans hw54⟩⟩, fun j hj => hE00 j (by omega) (by omega)⟩)
