/-! merging, in plain words -/
theorem RowAt.obj {G : GG} {ad : Nat → Nat} {ev : Nat → va_E} {i : Nat} {xs : List Int32} {cap : Nat} (h : RowAt G ad ev i xs cap) : ev i = .inr (2, [.ref (ad (i + 1)), .int (iI (xs.length : Int))]) := by
  obtain ⟨f, a, -⟩ := h
  exact a
theorem ScrAt.obj {G : GG} {ad : Nat → Nat} {ev : Nat → va_E} {i : Nat} {ops : List Tr} (h : ScrAt G ad ev i ops) : ev i = .inr (3, [.ref (ad (i + 1)), .ref (ad (i + 2)), .ref (ad (i + 3)), .int (iI (ops.length : Int))]) := by
  obtain ⟨_, _, _, a, -⟩ := h
  exact a
theorem StrAt.fr {ad : Nat → Nat} {ev e2 : Nat → va_E} {i q : Nat} {a b : Int} {S : Nat → Prop} (h : StrAt ad ev i q a b) (hF : Fr e2 ev S) (h0 : ¬ S i) : StrAt ad e2 i q a b := (hF _ h0).trans h
/-- a stretch merged: what is taken over, and whether there is a conflict -/
def mst (b x y : List Int32) : List Int32 × Nat := if x = y ∨ y = b then (x, 0) else if x = b then (y, 0) else ([iI (-1)] ++ x ++ [iI (-2)] ++ y ++ [iI (-3)], 1)
theorem mst_le (b x y : List Int32) : (mst b x y).1.length ≤ x.length + y.length + 3 ∧ (mst b x y).2 ≤ 1 := by
  unfold mst
  split
  · exact ⟨by show x.length ≤ _; omega, by show 0 ≤ 1; omega⟩
  · split
    · exact ⟨by show y.length ≤ _; omega, by show 0 ≤ 1; omega⟩
    · simp
      omega
/-- what is merged from the base's place k on; the stretches begin at b, x, y -/
def mg (r0 r1 r2 : List Int32) (w1 w2 : List Int) (k b x y : Nat) : List Int32 × Nat :=
  if h : r0.length ≤ k then mst (sl r0 b r0.length) (sl r1 x r1.length) (sl r2 y r2.length) else
  if w1.getD k (-1) ≠ -1 ∧ w2.getD k (-1) ≠ -1 then
    ((mst (sl r0 b k) (sl r1 x (w1.getD k (-1)).toNat) (sl r2 y (w2.getD k (-1)).toNat)).1 ++ [r0.getD k 0] ++ (mg r0 r1 r2 w1 w2 (k + 1) (k + 1) ((w1.getD k (-1)).toNat + 1) ((w2.getD k (-1)).toNat + 1)).1,
     (mst (sl r0 b k) (sl r1 x (w1.getD k (-1)).toNat) (sl r2 y (w2.getD k (-1)).toNat)).2 + (mg r0 r1 r2 w1 w2 (k + 1) (k + 1) ((w1.getD k (-1)).toNat + 1) ((w2.getD k (-1)).toNat + 1)).2)
  else mg r0 r1 r2 w1 w2 (k + 1) b x y
  termination_by r0.length - k
theorem mg_end {r0 r1 r2 : List Int32} {w1 w2 : List Int} {k b x y : Nat} (h : r0.length ≤ k) : mg r0 r1 r2 w1 w2 k b x y = mst (sl r0 b r0.length) (sl r1 x r1.length) (sl r2 y r2.length) := by
  rw [mg, dif_pos h]
theorem mg_st {r0 r1 r2 : List Int32} {w1 w2 : List Int} {k b x y p q : Nat} {s : Int32} (h : k < r0.length) (h1 : w1[k]? = some (p : Int)) (h2 : w2[k]? = some (q : Int)) (hs : r0[k]? = some s) : mg r0 r1 r2 w1 w2 k b x y =
    ((mst (sl r0 b k) (sl r1 x p) (sl r2 y q)).1 ++ [s] ++ (mg r0 r1 r2 w1 w2 (k + 1) (k + 1) (p + 1) (q + 1)).1, (mst (sl r0 b k) (sl r1 x p) (sl r2 y q)).2 + (mg r0 r1 r2 w1 w2 (k + 1) (k + 1) (p + 1) (q + 1)).2) := by
  rw [mg, dif_neg (by omega)]
  have e1 : w1.getD k (-1) = (p : Int) := by simp [List.getD, h1]
  have e2 : w2.getD k (-1) = (q : Int) := by simp [List.getD, h2]
  have e3 : r0.getD k 0 = s := by simp [List.getD, hs]
  rw [e1, e2, e3, if_pos ⟨by omega, by omega⟩]
  simp only [Int.toNat_natCast]
theorem mg_no {r0 r1 r2 : List Int32} {w1 w2 : List Int} {k b x y : Nat} {p q : Int} (h : k < r0.length) (h1 : w1[k]? = some p) (h2 : w2[k]? = some q) (hn : p = -1 ∨ q = -1) : mg r0 r1 r2 w1 w2 k b x y = mg r0 r1 r2 w1 w2 (k + 1) b x y := by
  rw [mg, dif_neg (by omega)]
  have e1 : w1.getD k (-1) = p := by simp [List.getD, h1]
  have e2 : w2.getD k (-1) = q := by simp [List.getD, h2]
  rw [e1, e2, if_neg (by omega)]
/-- what is known of the pairs: as long as the base, each -1 or a place of the row, growing -/
def okW (w : List Int) (n m : Nat) : Prop := w.length = n ∧ (∀ (k : Nat) (t : Int), w[k]? = some t → t = -1 ∨ (0 ≤ t ∧ t < m)) ∧ ∀ (k k2 : Nat) (t t2 : Int), k < k2 → w[k]? = some t → w[k2]? = some t2 → t2 ≠ -1 → t < t2
theorem okW_kp (xs ys : List Int32) : okW (kp xs ys 0 0) xs.length ys.length := by
  obtain ⟨a, b, c⟩ := kp_facts xs ys _ 0 0 (Nat.zero_le _) (Nat.zero_le _) (Nat.le_refl _)
  exact ⟨by omega, fun k t h => by have := b k t h; omega, c⟩
/-- from k on the pairs lie behind x -/
def frW (w : List Int) (m k x : Nat) : Prop := x ≤ m ∧ ∀ (j : Nat) (t : Int), k ≤ j → w[j]? = some t → t ≠ -1 → (x : Int) ≤ t ∧ t < m
theorem frW_0 {w : List Int} {n m : Nat} (h : okW w n m) : frW w m 0 0 := ⟨Nat.zero_le _, fun j t _ ht hne => by have := h.2.1 j t ht; omega⟩
theorem frW_st {w : List Int} {n m k p : Nat} (h : okW w n m) (hp : w[k]? = some (p : Int)) : frW w m (k + 1) (p + 1) := by
  have h1 := h.2.1 k _ hp
  refine ⟨by omega, fun j t hj ht hne => ?_⟩
  have h2 := h.2.1 j t ht
  have h3 := h.2.2 k j _ t (by omega) hp ht hne
  omega
theorem frW_no {w : List Int} {m k x : Nat} (h : frW w m k x) : frW w m (k + 1) x := ⟨h.1, fun j t hj => h.2 j t (by omega)⟩
