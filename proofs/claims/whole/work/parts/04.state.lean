/-! what the class's objects hold, in plain words -/
/-- nothing outside S has changed -/
def Fr (e2 ev : Nat → va_E) (S : Nat → Prop) : Prop := ∀ j, ¬ S j → e2 j = ev j
theorem Fr.rf {ev : Nat → va_E} {S : Nat → Prop} : Fr ev ev S := fun _ _ => rfl
theorem Fr.tr {e1 e2 e3 : Nat → va_E} {S : Nat → Prop} (h : Fr e1 e2 S) (h2 : Fr e2 e3 S) : Fr e1 e3 S := fun j hj => (h j hj).trans (h2 j hj)
theorem Fr.mono {e1 e2 : Nat → va_E} {S T : Nat → Prop} (h : Fr e1 e2 S) (hs : ∀ j, S j → T j) : Fr e1 e2 T := fun j hj => h j (fun z => hj (hs j z))
/-- a Row: cells i (object), i + 1 (its items) -/
def RowAt (G : GG) (ad : Nat → Nat) (ev : Nat → va_E) (i : Nat) (xs : List Int32) (cap : Nat) : Prop :=
  ∃ f : Nat → Int32, ev i = .inr (2, [.ref (ad (i + 1)), .int (iI (xs.length : Int))]) ∧ ev (i + 1) = .inl (G.2.1, cap, .inl f) ∧ (∀ j, j < xs.length → xs[j]? = some (f j)) ∧ xs.length ≤ cap ∧ cap ≤ 1000
theorem RowAt.kept {G : GG} {ad : Nat → Nat} {ev e2 : Nat → va_E} {i : Nat} {xs : List Int32} {cap : Nat} (h : RowAt G ad ev i xs cap) (h0 : e2 i = ev i) (h1 : e2 (i + 1) = ev (i + 1)) : RowAt G ad e2 i xs cap := by
  obtain ⟨f, a, b, c⟩ := h
  exact ⟨f, h0.trans a, h1.trans b, c⟩
theorem RowAt.fr {G : GG} {ad : Nat → Nat} {ev e2 : Nat → va_E} {i : Nat} {xs : List Int32} {cap : Nat} {S : Nat → Prop} (h : RowAt G ad ev i xs cap) (hF : Fr e2 ev S) (h0 : ¬ S i) (h1 : ¬ S (i + 1)) : RowAt G ad e2 i xs cap := h.kept (hF _ h0) (hF _ h1)
theorem RowAt.le {G : GG} {ad : Nat → Nat} {ev : Nat → va_E} {i : Nat} {xs : List Int32} {cap : Nat} (h : RowAt G ad ev i xs cap) : xs.length ≤ cap ∧ cap ≤ 1000 := by
  obtain ⟨f, a, b, c, d⟩ := h
  exact d
/-- symbol k, or otherwise -/
def atD (xs : List Int32) (z : Int) (o : Int32) : Int32 := if 0 ≤ z ∧ z < xs.length then xs.getD z.toNat o else o
theorem atD_in {xs : List Int32} {z : Int} {o x : Int32} {j : Nat} (h : z = (j : Int)) (hj : j < xs.length) (hx : xs[j]? = some x) : atD xs z o = x := by
  subst h
  simp only [atD]
  rw [if_pos ⟨by omega, by omega⟩]
  simp [List.getD, hx]
theorem atD_out {xs : List Int32} {z : Int} {o : Int32} (h : z < 0 ∨ xs.length ≤ z) : atD xs z o = o := by
  unfold atD
  rw [if_neg (by omega)]
theorem push_f {xs : List Int32} {f : Nat → Int32} {x : Int32} (hf : ∀ j, j < xs.length → xs[j]? = some (f j)) : ∀ j, j < (xs ++ [x]).length → (xs ++ [x])[j]? = some (upd f xs.length x j) := by
  intro j hj
  rw [List.length_append, List.length_singleton] at hj
  by_cases h : j < xs.length
  · rw [List.getElem?_append_left h, hf j h]
    simp [upd, Nat.ne_of_lt h]
  · have e : j = xs.length := by omega
    subst e
    simp [upd]
theorem some_of_lt {α : Type} {xs : List α} {j : Nat} (h : j < xs.length) : ∃ x, xs[j]? = some x := ⟨xs[j], List.getElem?_eq_getElem h⟩
