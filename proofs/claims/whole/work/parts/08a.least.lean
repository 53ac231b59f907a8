/-! the least script, in plain words -/
/-- rest: the least number of deletions and insertions -/
def rst : List Int32 → List Int32 → Nat
  | [], b => b.length
  | x :: a, [] => (x :: a).length
  | x :: a, y :: b => if x = y then rst a b else 1 + min (rst a (y :: b)) (rst (x :: a) b)
  termination_by a b => a.length + b.length
theorem rst_nil_l (b : List Int32) : rst [] b = b.length := by rw [rst]
theorem rst_nil_r (a : List Int32) : rst a [] = a.length := by
  cases a with
  | nil => rw [rst]
  | cons x a => rw [rst]
theorem rst_cons (x y : Int32) (a b : List Int32) : rst (x :: a) (y :: b) = if x = y then rst a b else 1 + min (rst a (y :: b)) (rst (x :: a) b) := by rw [rst]
theorem rst_le : ∀ (n : Nat) (a b : List Int32), a.length + b.length ≤ n → rst a b ≤ a.length + b.length ∧ (rst a b) % 2 = (a.length + b.length) % 2
  | 0, a, b, h => by
    have ha : a = [] := List.length_eq_zero_iff.mp (by omega)
    subst ha
    rw [rst_nil_l]
    simp
  | n + 1, a, b, h => by
    match a, b with
    | [], b => rw [rst_nil_l]; simp
    | x :: a, [] => rw [rst_nil_r]; simp
    | x :: a, y :: b =>
      rw [rst_cons]
      simp only [List.length_cons] at h ⊢
      split
      · have := rst_le n a b (by omega)
        omega
      · have h1 := rst_le n a (y :: b) (by simp; omega)
        have h2 := rst_le n (x :: a) b (by simp; omega)
        simp only [List.length_cons] at h1 h2
        omega
/-- rest at places i, j -/
def rs (xs ys : List Int32) (i j : Nat) : Nat := rst (xs.drop i) (ys.drop j)
theorem rs_le (xs ys : List Int32) (i j : Nat) : rs xs ys i j ≤ (xs.length - i) + (ys.length - j) := by
  have := (rst_le _ (xs.drop i) (ys.drop j) (Nat.le_refl _)).1
  simp only [List.length_drop] at this
  exact this
theorem rs_end {xs ys : List Int32} {i j : Nat} (h : xs.length ≤ i ∨ ys.length ≤ j) : rs xs ys i j = (xs.length - i) + (ys.length - j) := by
  unfold rs
  rcases h with h | h
  · rw [List.drop_eq_nil_of_le h, rst_nil_l, List.length_drop]
    omega
  · rw [List.drop_eq_nil_of_le h, rst_nil_r, List.length_drop]
    omega
theorem drop_of {α : Type} {xs : List α} {i : Nat} {x : α} (h : xs[i]? = some x) : xs.drop i = x :: xs.drop (i + 1) := by
  obtain ⟨hi, e⟩ := List.getElem?_eq_some_iff.mp h
  rw [List.drop_eq_getElem_cons hi, e]
theorem rs_same {xs ys : List Int32} {i j : Nat} {x : Int32} (hx : xs[i]? = some x) (hy : ys[j]? = some x) : rs xs ys i j = rs xs ys (i + 1) (j + 1) := by
  unfold rs
  rw [drop_of hx, drop_of hy, rst_cons, if_pos rfl]
theorem rs_diff {xs ys : List Int32} {i j : Nat} {x y : Int32} (hx : xs[i]? = some x) (hy : ys[j]? = some y) (h : x ≠ y) : rs xs ys i j = 1 + min (rs xs ys (i + 1) j) (rs xs ys i (j + 1)) := by
  unfold rs
  rw [drop_of hx, drop_of hy, rst_cons, if_neg h, ← drop_of hx, ← drop_of hy]
/-- the same symbol at i and j -/
def sam (xs ys : List Int32) (i j : Nat) : Bool := decide (i < xs.length ∧ j < ys.length ∧ xs[i]? = ys[j]?)
/-- the step at i, j: 2 keeps, 0 deletes, 1 inserts -/
def stp (xs ys : List Int32) (i j : Nat) : Int := if sam xs ys i j then 2 else if i < xs.length ∧ rs xs ys (i + 1) j < rs xs ys i j then 0 else 1
theorem stp_ins {xs ys : List Int32} {i j : Nat} (hi : i ≤ xs.length) (hj : j ≤ ys.length) (h : i + j < xs.length + ys.length) (hs : stp xs ys i j = 1) : j < ys.length := by
  unfold stp at hs
  split at hs
  · exact absurd hs (by decide)
  · split at hs
    · exact absurd hs (by decide)
    · rename_i h2
      rcases Nat.lt_or_ge j ys.length with q | q
      · exact q
      · exfalso
        apply h2
        refine ⟨by omega, ?_⟩
        rw [rs_end (Or.inr q), rs_end (Or.inr q)]
        omega
theorem stp_del {xs ys : List Int32} {i j : Nat} (hs : stp xs ys i j = 0) : i < xs.length := by
  unfold stp at hs
  split at hs
  · exact absurd hs (by decide)
  · split at hs
    · rename_i h2; exact h2.1
    · exact absurd hs (by decide)
theorem stp_keep {xs ys : List Int32} {i j : Nat} (hs : stp xs ys i j = 2) : i < xs.length ∧ j < ys.length ∧ xs[i]? = ys[j]? := by
  unfold stp at hs
  split at hs
  · rename_i h; exact of_decide_eq_true h
  · split at hs <;> exact absurd hs (by decide)
theorem stp_3 (xs ys : List Int32) (i j : Nat) : stp xs ys i j = 0 ∨ stp xs ys i j = 1 ∨ stp xs ys i j = 2 := by
  unfold stp
  split
  · exact Or.inr (Or.inr rfl)
  · split
    · exact Or.inl rfl
    · exact Or.inr (Or.inl rfl)
/-- the least script from i, j on -/
def sc (xs ys : List Int32) (i j : Nat) : List Op :=
  if h : xs.length + ys.length ≤ i + j ∨ xs.length < i ∨ ys.length < j then [] else
  if stp xs ys i j = 2 then sc xs ys (i + 1) (j + 1) else
  if stp xs ys i j = 0 then (true, i, xs.getD i 0) :: sc xs ys (i + 1) j else (false, i, ys.getD j 0) :: sc xs ys i (j + 1)
  termination_by (xs.length + 1 - i) + (ys.length + 1 - j)
/-- which symbol of ys each symbol of xs from i on is kept with, or -1 -/
def kp (xs ys : List Int32) (i j : Nat) : List Int :=
  if h : xs.length + ys.length ≤ i + j ∨ xs.length < i ∨ ys.length < j then [] else
  if stp xs ys i j = 2 then (j : Int) :: kp xs ys (i + 1) (j + 1) else
  if stp xs ys i j = 0 then (-1) :: kp xs ys (i + 1) j else kp xs ys i (j + 1)
  termination_by (xs.length + 1 - i) + (ys.length + 1 - j)
theorem sc_end {xs ys : List Int32} {i j : Nat} (h : xs.length + ys.length ≤ i + j) : sc xs ys i j = [] := by
  rw [sc, dif_pos (Or.inl h)]
theorem sc_2 {xs ys : List Int32} {i j : Nat} (hi : i ≤ xs.length) (hj : j ≤ ys.length) (h : i + j < xs.length + ys.length) (hs : stp xs ys i j = 2) : sc xs ys i j = sc xs ys (i + 1) (j + 1) := by
  rw [sc, dif_neg (by omega), if_pos hs]
theorem sc_0 {xs ys : List Int32} {i j : Nat} {x : Int32} (hi : i ≤ xs.length) (hj : j ≤ ys.length) (h : i + j < xs.length + ys.length) (hs : stp xs ys i j = 0) (hx : xs[i]? = some x) : sc xs ys i j = (true, i, x) :: sc xs ys (i + 1) j := by
  rw [sc, dif_neg (by omega), if_neg (by rw [hs]; decide), if_pos hs]
  simp [List.getD, hx]
theorem sc_1 {xs ys : List Int32} {i j : Nat} {y : Int32} (hi : i ≤ xs.length) (hj : j ≤ ys.length) (h : i + j < xs.length + ys.length) (hs : stp xs ys i j = 1) (hy : ys[j]? = some y) : sc xs ys i j = (false, i, y) :: sc xs ys i (j + 1) := by
  rw [sc, dif_neg (by omega), if_neg (by rw [hs]; decide), if_neg (by rw [hs]; decide)]
  simp [List.getD, hy]
theorem kp_end {xs ys : List Int32} {i j : Nat} (h : xs.length + ys.length ≤ i + j) : kp xs ys i j = [] := by
  rw [kp, dif_pos (Or.inl h)]
theorem kp_2 {xs ys : List Int32} {i j : Nat} (hi : i ≤ xs.length) (hj : j ≤ ys.length) (h : i + j < xs.length + ys.length) (hs : stp xs ys i j = 2) : kp xs ys i j = (j : Int) :: kp xs ys (i + 1) (j + 1) := by
  rw [kp, dif_neg (by omega), if_pos hs]
theorem kp_0 {xs ys : List Int32} {i j : Nat} (hi : i ≤ xs.length) (hj : j ≤ ys.length) (h : i + j < xs.length + ys.length) (hs : stp xs ys i j = 0) : kp xs ys i j = (-1) :: kp xs ys (i + 1) j := by
  rw [kp, dif_neg (by omega), if_neg (by rw [hs]; decide), if_pos hs]
theorem kp_1 {xs ys : List Int32} {i j : Nat} (hi : i ≤ xs.length) (hj : j ≤ ys.length) (h : i + j < xs.length + ys.length) (hs : stp xs ys i j = 1) : kp xs ys i j = kp xs ys i (j + 1) := by
  rw [kp, dif_neg (by omega), if_neg (by rw [hs]; decide), if_neg (by rw [hs]; decide)]
theorem sc_facts (xs ys : List Int32) : ∀ (n i j : Nat), i ≤ xs.length → j ≤ ys.length → (xs.length - i) + (ys.length - j) ≤ n → (sc xs ys i j).length ≤ (xs.length - i) + (ys.length - j) ∧ ∀ (k : Nat) (t : Op), (sc xs ys i j)[k]? = some t → t.2.1 ≤ xs.length
  | 0, i, j, hi, hj, hn => by
    rw [sc_end (by omega)]
    exact ⟨Nat.zero_le _, fun k t h => by simp at h⟩
  | n + 1, i, j, hi, hj, hn => by
    rcases Nat.lt_or_ge (i + j) (xs.length + ys.length) with h | h
    · rcases stp_3 xs ys i j with hs | hs | hs
      · have h1 := stp_del hs
        obtain ⟨x, hx⟩ := some_of_lt h1
        rw [sc_0 hi hj h hs hx]
        obtain ⟨a, b⟩ := sc_facts xs ys n (i + 1) j (by omega) hj (by omega)
        refine ⟨by simp only [List.length_cons]; omega, fun k t ht => ?_⟩
        cases k with
        | zero => simp at ht; subst ht; exact hi
        | succ k => exact b k t (by simpa using ht)
      · have h1 := stp_ins hi hj h hs
        obtain ⟨y, hy⟩ := some_of_lt h1
        rw [sc_1 hi hj h hs hy]
        obtain ⟨a, b⟩ := sc_facts xs ys n i (j + 1) hi (by omega) (by omega)
        refine ⟨by simp only [List.length_cons]; omega, fun k t ht => ?_⟩
        cases k with
        | zero => simp at ht; subst ht; exact hi
        | succ k => exact b k t (by simpa using ht)
      · obtain ⟨h1, h2, h3⟩ := stp_keep hs
        rw [sc_2 hi hj h hs]
        obtain ⟨a, b⟩ := sc_facts xs ys n (i + 1) (j + 1) (by omega) (by omega) (by omega)
        exact ⟨by omega, b⟩
    · rw [sc_end h]
      exact ⟨Nat.zero_le _, fun k t h => by simp at h⟩
theorem kp_facts (xs ys : List Int32) : ∀ (n i j : Nat), i ≤ xs.length → j ≤ ys.length → (xs.length - i) + (ys.length - j) ≤ n → (kp xs ys i j).length = xs.length - i ∧ (∀ (k : Nat) (t : Int), (kp xs ys i j)[k]? = some t → t = -1 ∨ ((j : Int) ≤ t ∧ t < ys.length)) ∧ ∀ (k k2 : Nat) (t t2 : Int), k < k2 → (kp xs ys i j)[k]? = some t → (kp xs ys i j)[k2]? = some t2 → t2 ≠ -1 → t < t2
  | 0, i, j, hi, hj, hn => by
    rw [kp_end (by omega)]
    exact ⟨by simp; omega, fun k t h => by simp at h, fun k k2 t t2 _ h => by simp at h⟩
  | n + 1, i, j, hi, hj, hn => by
    rcases Nat.lt_or_ge (i + j) (xs.length + ys.length) with h | h
    · rcases stp_3 xs ys i j with hs | hs | hs
      · have h1 := stp_del hs
        rw [kp_0 hi hj h hs]
        obtain ⟨a, b, c⟩ := kp_facts xs ys n (i + 1) j (by omega) hj (by omega)
        refine ⟨by simp only [List.length_cons]; omega, fun k t ht => ?_, fun k k2 t t2 hk ht ht2 hne => ?_⟩
        · cases k with
          | zero => simp at ht; subst ht; exact Or.inl rfl
          | succ k => exact b k t (by simpa using ht)
        · cases k2 with
          | zero => omega
          | succ k2 =>
            have ht2' : (kp xs ys (i + 1) j)[k2]? = some t2 := by simpa using ht2
            cases k with
            | zero =>
              simp at ht
              have := b k2 t2 ht2'
              omega
            | succ k => exact c k k2 t t2 (by omega) (by simpa using ht) ht2' hne
      · have h1 := stp_ins hi hj h hs
        rw [kp_1 hi hj h hs]
        obtain ⟨a, b, c⟩ := kp_facts xs ys n i (j + 1) hi (by omega) (by omega)
        refine ⟨a, fun k t ht => ?_, c⟩
        have := b k t ht
        omega
      · obtain ⟨h1, h2, h3⟩ := stp_keep hs
        rw [kp_2 hi hj h hs]
        obtain ⟨a, b, c⟩ := kp_facts xs ys n (i + 1) (j + 1) (by omega) (by omega) (by omega)
        refine ⟨by simp only [List.length_cons]; omega, fun k t ht => ?_, fun k k2 t t2 hk ht ht2 hne => ?_⟩
        · cases k with
          | zero => simp at ht; subst ht; exact Or.inr ⟨by omega, by omega⟩
          | succ k =>
            have := b k t (by simpa using ht)
            omega
        · cases k2 with
          | zero => omega
          | succ k2 =>
            have ht2' : (kp xs ys (i + 1) (j + 1))[k2]? = some t2 := by simpa using ht2
            cases k with
            | zero =>
              simp at ht
              have := b k2 t2 ht2'
              omega
            | succ k => exact c k k2 t t2 (by omega) (by simpa using ht) ht2' hne
    · rw [kp_end h]
      exact ⟨by simp; omega, fun k t h => by simp at h, fun k k2 t t2 _ h => by simp at h⟩
