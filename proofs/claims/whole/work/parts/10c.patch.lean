/-! patching, in plain words -/
/-- what is wrong with operation t when the symbols before place tk are taken: 1 its kind or symbol, 2 its place, 3 another symbol; 0 nothing -/
def chk (xs : List Int32) (tk : Nat) (t : Tr) : Nat :=
  if (t.1 ≠ iI 0 ∧ t.1 ≠ iI 1) ∨ isS t.2.2.toInt = false then 1
  else if t.2.1.toInt < (tk : Int) ∨ (xs.length : Int) - (if t.1 = iI 1 then 0 else 1) < t.2.1.toInt then 2
  else if t.1 = iI 0 ∧ xs[t.2.1.toInt.toNat]? ≠ some t.2.2 then 3 else 0
/-- its place, as a number -/
def plN (t : Tr) : Nat := t.2.1.toInt.toNat
/-- does it insert -/
def insN (t : Tr) : Nat := if t.1 = iI 1 then 1 else 0
theorem chk_0 {xs : List Int32} {tk : Nat} {t : Tr} (h : chk xs tk t = 0) : (t.1 = iI 0 ∨ t.1 = iI 1) ∧ isS t.2.2.toInt = true ∧ t.2.1 = iI (plN t : Int) ∧ tk ≤ plN t ∧ plN t + 1 ≤ xs.length + insN t ∧ (t.1 = iI 0 → xs[plN t]? = some t.2.2) := by
  unfold chk at h
  by_cases h1 : (t.1 ≠ iI 0 ∧ t.1 ≠ iI 1) ∨ isS t.2.2.toInt = false
  · rw [if_pos h1] at h; omega
  rw [if_neg h1] at h
  by_cases h2 : t.2.1.toInt < (tk : Int) ∨ (xs.length : Int) - (if t.1 = iI 1 then 0 else 1) < t.2.1.toInt
  · rw [if_pos h2] at h; omega
  rw [if_neg h2] at h
  by_cases h3 : t.1 = iI 0 ∧ xs[t.2.1.toInt.toNat]? ≠ some t.2.2
  · rw [if_pos h3] at h; omega
  have hp : t.2.1 = iI (plN t : Int) := by
    unfold plN
    rw [Int.toNat_of_nonneg (by omega), iI_self]
  have hS : isS t.2.2.toInt = true := by
    cases hq : isS t.2.2.toInt with
    | true => rfl
    | false => exact absurd (Or.inr hq) h1
  refine ⟨?_, hS, hp, by unfold plN; omega, ?_, fun hk => ?_⟩
  · by_cases hk : t.1 = iI 0
    · exact Or.inl hk
    · by_cases hk1 : t.1 = iI 1
      · exact Or.inr hk1
      · exact absurd (Or.inl ⟨hk, hk1⟩) h1
  · unfold plN insN
    by_cases hk1 : t.1 = iI 1
    · rw [if_pos hk1] at h2 ⊢; omega
    · rw [if_neg hk1] at h2 ⊢; omega
  · by_cases hx : xs[t.2.1.toInt.toNat]? = some t.2.2
    · exact hx
    · exact absurd ⟨hk, hx⟩ h3
/-- one operation done: the place up to which symbols are taken, the result so far -/
def pstep (xs : List Int32) (a : Nat × List Int32) (t : Tr) : Nat × List Int32 := if t.1 = iI 0 then (plN t + 1, a.2 ++ sl xs a.1 (plN t)) else (plN t, a.2 ++ sl xs a.1 (plN t) ++ [t.2.2])
/-- the first k operations done -/
def pst (xs : List Int32) (ops : List Tr) : Nat → Nat × List Int32
  | 0 => (0, [])
  | k + 1 => pstep xs (pst xs ops k) (ops.getD k (0, 0, 0))
theorem pst_s {xs : List Int32} {ops : List Tr} {k : Nat} {t : Tr} (h : ops[k]? = some t) : pst xs ops (k + 1) = pstep xs (pst xs ops k) t := by
  show pstep xs (pst xs ops k) (ops.getD k (0, 0, 0)) = _
  simp [List.getD, h]
/-- what is wrong at operation k: as chk, or 4 the result would be too long -/
def trb (xs : List Int32) (a : Nat × List Int32) (t : Tr) : Nat := if chk xs a.1 t ≠ 0 then chk xs a.1 t else if 60 < a.2.length + (plN t - a.1) + insN t then 4 else 0
/-- what is wrong from operation k on -/
def wr (xs : List Int32) (ops : List Tr) (k : Nat) : Nat :=
  if h : ops.length ≤ k then (if 60 < (pst xs ops k).2.length + (xs.length - (pst xs ops k).1) then 4 else 0)
  else if trb xs (pst xs ops k) (ops.getD k (0, 0, 0)) ≠ 0 then trb xs (pst xs ops k) (ops.getD k (0, 0, 0)) else wr xs ops (k + 1)
  termination_by ops.length - k
theorem wr_end {xs : List Int32} {ops : List Tr} {k : Nat} (h : ops.length ≤ k) : wr xs ops k = if 60 < (pst xs ops k).2.length + (xs.length - (pst xs ops k).1) then 4 else 0 := by
  rw [wr, dif_pos h]
theorem wr_bad {xs : List Int32} {ops : List Tr} {k : Nat} {t : Tr} (ht : ops[k]? = some t) (hb : trb xs (pst xs ops k) t ≠ 0) : wr xs ops k = trb xs (pst xs ops k) t := by
  have hk : k < ops.length := (List.getElem?_eq_some_iff.mp ht).1
  have e : ops.getD k (0, 0, 0) = t := by simp [List.getD, ht]
  rw [wr, dif_neg (by omega), e, if_pos hb]
theorem wr_ok {xs : List Int32} {ops : List Tr} {k : Nat} {t : Tr} (ht : ops[k]? = some t) (hb : trb xs (pst xs ops k) t = 0) : wr xs ops k = wr xs ops (k + 1) := by
  have hk : k < ops.length := (List.getElem?_eq_some_iff.mp ht).1
  have e : ops.getD k (0, 0, 0) = t := by simp [List.getD, ht]
  rw [wr, dif_neg (by omega), e, if_neg (by omega)]
/-- the patched row -/
def pres (xs : List Int32) (ops : List Tr) : List Int32 := (pst xs ops ops.length).2 ++ sl xs (pst xs ops ops.length).1 xs.length
theorem trb_0 {xs : List Int32} {a : Nat × List Int32} {t : Tr} (h : trb xs a t = 0) : chk xs a.1 t = 0 ∧ a.2.length + (plN t - a.1) + insN t ≤ 60 := by
  unfold trb at h
  by_cases h1 : chk xs a.1 t = 0
  · rw [if_neg (by omega)] at h
    refine ⟨h1, ?_⟩
    by_cases h2 : 60 < a.2.length + (plN t - a.1) + insN t
    · rw [if_pos h2] at h; omega
    · omega
  · rw [if_pos h1] at h
    omega
theorem insN_0 {t : Tr} (h : t.1 = iI 0) : insN t = 0 := by
  unfold insN
  rw [if_neg]
  rw [h]
  exact iI_ne (by decide) (by decide) (by decide) (by decide) (by decide)
theorem insN_1 {t : Tr} (h : t.1 = iI 1) : insN t = 1 := by
  unfold insN
  rw [if_pos h]
theorem pstep_0 {xs : List Int32} {a : Nat × List Int32} {t : Tr} (h : t.1 = iI 0) : pstep xs a t = (plN t + 1, a.2 ++ sl xs a.1 (plN t)) := by
  unfold pstep
  rw [if_pos h]
theorem pstep_1 {xs : List Int32} {a : Nat × List Int32} {t : Tr} (h : t.1 = iI 1) : pstep xs a t = (plN t, a.2 ++ sl xs a.1 (plN t) ++ [t.2.2]) := by
  unfold pstep
  rw [if_neg]
  rw [h]
  exact iI_ne (by decide) (by decide) (by decide) (by decide) (by decide)
/-- behind an operation that is right: its place, the length of the result -/
theorem pstep_ok {xs : List Int32} {a : Nat × List Int32} {t : Tr} (h : chk xs a.1 t = 0) : (pstep xs a t).1 ≤ xs.length ∧ (pstep xs a t).2.length = a.2.length + (plN t - a.1) + insN t := by
  obtain ⟨hk, -, -, h4, h5, -⟩ := chk_0 h
  rcases hk with hk | hk
  · have h6 := insN_0 hk
    rw [pstep_0 hk]
    refine ⟨by show plN t + 1 ≤ _; omega, ?_⟩
    show (a.2 ++ sl xs a.1 (plN t)).length = _
    rw [List.length_append, sl_len (by omega)]
    omega
  · have h6 := insN_1 hk
    rw [pstep_1 hk]
    refine ⟨by show plN t ≤ _; omega, ?_⟩
    show (a.2 ++ sl xs a.1 (plN t) ++ [t.2.2]).length = _
    rw [List.length_append, List.length_append, sl_len (by omega), List.length_singleton]
    omega
theorem pst_ok {xs : List Int32} {ops : List Tr} : ∀ k, k ≤ ops.length → (∀ j t, j < k → ops[j]? = some t → trb xs (pst xs ops j) t = 0) → (pst xs ops k).1 ≤ xs.length ∧ (pst xs ops k).2.length ≤ 60
  | 0, _, _ => ⟨Nat.zero_le _, Nat.zero_le _⟩
  | k + 1, hk, h => by
    obtain ⟨t, ht⟩ := some_of_lt (xs := ops) (j := k) (by omega)
    have h1 := trb_0 (h k t (by omega) ht)
    rw [pst_s ht]
    have h2 := pstep_ok h1.1
    exact ⟨h2.1, by omega⟩
