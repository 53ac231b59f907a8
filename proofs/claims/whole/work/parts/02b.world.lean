/-! the world: N cells by their numbers; ad: their addresses; ev: what they hold -/
def wd (N : Nat) (ad : Nat → Nat) (ev : Nat → va_E) : va_W := (List.range N).map (fun i => (ad i, ev i))
theorem wd_at {N : Nat} {ad : Nat → Nat} {ev : Nat → va_E} {i : Nat} (h : i < N) : (wd N ad ev)[i]? = some (ad i, ev i) := by
  simp [wd, h]
theorem wd_is {N : Nat} {ad : Nat → Nat} {ev : Nat → va_E} {i : Nat} {x : va_E} (h : i < N) (he : ev i = x) : (wd N ad ev)[i]? = some (ad i, x) := by
  rw [wd_at h, he]
theorem wd_get {N : Nat} {ad : Nat → Nat} {ev : Nat → va_E} {i : Nat} {q : Nat × va_E} (h : (wd N ad ev)[i]? = some q) : i < N ∧ q = (ad i, ev i) := by
  have hl : i < N := by
    have := (List.getElem?_eq_some_iff.mp h).1
    simpa [wd] using this
  rw [wd_at hl] at h
  exact ⟨hl, (Option.some.inj h).symm⟩
theorem wd_len {N : Nat} {ad : Nat → Nat} {ev : Nat → va_E} : (wd N ad ev).length = N := by simp [wd]
theorem wd_set {N : Nat} {ad : Nat → Nat} {ev : Nat → va_E} {i : Nat} (x : va_E) : (wd N ad ev).set i (ad i, x) = wd N ad (va_up ev i x) := by
  apply List.ext_getElem?
  intro j
  rw [List.getElem?_set]
  by_cases hj : j < N
  · rw [wd_at hj, wd_at hj, wd_len]
    by_cases e : i = j
    · subst e; simp [hj, va_up]
    · simp [e, va_up, Ne.symm e]
  · have h1 : (wd N ad ev)[j]? = none := List.getElem?_eq_none_iff.mpr (by rw [wd_len]; omega)
    have h2 : (wd N ad (va_up ev i x))[j]? = none := List.getElem?_eq_none_iff.mpr (by rw [wd_len]; omega)
    rw [h1, h2, wd_len]
    by_cases e : i = j
    · subst e; simp [hj]
    · simp [e]
theorem wd_push {N : Nat} {ad : Nat → Nat} {ev : Nat → va_E} (q : Nat) (x : va_E) : wd N ad ev ++ [(q, x)] = wd (N + 1) (va_up ad N q) (va_up ev N x) := by
  unfold wd
  rw [List.range_succ, List.map_append]
  congr 1
  · apply List.map_congr_left
    intro i hi
    have := List.mem_range.mp hi
    rw [va_up_ne _ _ (by omega), va_up_ne _ _ (by omega)]
  · simp [va_up]
/-- the addresses are apart -/
def nInj (N : Nat) (ad : Nat → Nat) : Prop := ∀ i j, i < N → j < N → ad i = ad j → i = j
theorem wd_D {N : Nat} {ad : Nat → Nat} {ev : Nat → va_E} {A : Nat → Prop} (h : nInj N ad) (hA : ∀ i, i < N → A (ad i)) : va_D A (wd N ad ev) := by
  refine ⟨fun i j p q hp hq e => ?_, fun k q hk => ?_⟩
  · obtain ⟨h1, rfl⟩ := wd_get hp
    obtain ⟨h2, rfl⟩ := wd_get hq
    exact h i j h1 h2 e
  · obtain ⟨h1, rfl⟩ := wd_get hk
    exact hA k h1
theorem wd_inj {N : Nat} {ad : Nat → Nat} {ev : Nat → va_E} {A : Nat → Prop} (h : va_D A (wd N ad ev)) : nInj N ad := fun i j hi hj e => h.1 i j _ _ (wd_at hi) (wd_at hj) e
theorem wd_A {N : Nat} {ad : Nat → Nat} {ev : Nat → va_E} {A : Nat → Prop} (h : va_D A (wd N ad ev)) : ∀ i, i < N → A (ad i) := fun i hi => h.2 i _ (wd_at hi)
theorem wd_D2 {N : Nat} {ad : Nat → Nat} {ev e2 : Nat → va_E} {A : Nat → Prop} (h : va_D A (wd N ad ev)) : va_D A (wd N ad e2) := wd_D (wd_inj h) (wd_A h)
/-- which cells a method may change -/
def nA (N : Nat) (ad : Nat → Nat) (sz : Nat) : Nat → Prop := fun q => (∃ i, i < N ∧ q = ad i) ∨ sz ≤ q
abbrev GG : Type := va_G × ClassId × ClassId × ClassId × ClassId
def tyG (G : GG) : List (ClassId × FieldType) := [(G.2.1, .int), (G.2.2.1, .object RX2), (G.2.2.2.1, .array .int), (G.2.2.2.2, .long)]
/-- private fields of nest mates, as the tables link them -/
def nW : List Cond := [.fieldLinkNest RX0 64 "DiffDesk$Row" "items" "[I" "DiffDesk", .fieldLinkNest RX0 28 "DiffDesk$Row" "count" "I" "DiffDesk", .fieldLinkNest RX5 78 "DiffDesk$Row" "count" "I" "DiffDesk", .fieldLinkNest RX4 27 "DiffDesk$Row" "count" "I" "DiffDesk", .fieldLinkNest RX5 112 "DiffDesk$Script" "kinds" "[I" "DiffDesk", .fieldLinkNest RX5 116 "DiffDesk$Script" "places" "[I" "DiffDesk", .fieldLinkNest RX5 119 "DiffDesk$Script" "symbols" "[I" "DiffDesk", .fieldLinkNest RX5 108 "DiffDesk$Script" "count" "I" "DiffDesk"]
def nWs (U : State) : Prop := ∀ w ∈ nW, va_Nw w U
theorem nWs.warm {s U : State} (hW : s.WarmedH U.vm) (h : nWs s) : nWs U := by
  intro w hw
  have h1 := h w hw
  simp only [nW, List.mem_cons, List.not_mem_nil, or_false] at hw
  rcases hw with rfl | rfl | rfl | rfl | rfl | rfl | rfl | rfl <;> exact va_Nw.warmF hW h1
theorem nWs.same {s U : State} (e : s.vm = U.vm) (h : nWs s) : nWs U := by
  intro w hw
  have h1 := h w hw
  simp only [nW, List.mem_cons, List.not_mem_nil, or_false] at hw
  rcases hw with rfl | rfl | rfl | rfl | rfl | rfl | rfl | rfl <;> exact va_Nw.same rfl e h1
/-- what a method knows of the tables beside its words -/
def KW (G : GG) (U : State) : Prop := va_K G.1 vwCl (tyG G) U ∧ nWs U
theorem KW.warm {G : GG} {s U : State} (hW : s.WarmedH U.vm) (h : KW G s) : KW G U := ⟨va_K.moved hW.alike h.1, h.2.warm hW⟩
theorem KW.same {G : GG} {s U : State} (hA : s.vm.Alike U.vm) (e : s.vm = U.vm) (h : KW G s) : KW G U := ⟨va_K.moved hA h.1, h.2.same e⟩
/-- the judgement: from pc on, with the world ev, the locals lv, the stack st -/
def V (p : Program) (l : Launch) (E : Env) (R : Room) (s : State) (m : MethodId) (args : Array Value) (below : List Frame) (meth : Method) (c : Code) (G : GG) (A : Nat → Prop) (nL : Nat) (Q : State → Prop) (N : Nat) (ad : Nat → Nat) (ev : Nat → va_E) (cells slots pc : Nat) (lv : List (Nat × Value)) (st : List Value) : Prop :=
  ∀ (H : Heap) (locs : List Loc) (ls : Array Slot), va_P G.1 vwCl (wd N ad ev) H → va_D A (wd N ad ev) → va_S A s.heap H locs → lv_has ls nL lv → W p l E R s m args below meth c H locs cells slots Q (F0 m pc ls st)
/-- what stays throughout a method's body -/
def Cx (p : Program) (s : State) (m : MethodId) (args : Array Value) (meth : Method) (c : Code) (G : GG) (A : Nat → Prop) (nL : Nat) (cc : ByteArray) (own : String) (Ts : List Cond) : Prop :=
  p.tables.exec = Jvm.exec ∧ c.code = cc ∧ c.maxLocals = nL ∧ s.vm.findClass own = some m.cls ∧ (∀ w ∈ Ts, w.before args s = true) ∧ KW G s ∧ (∀ q, s.heap.size ≤ q → A q) ∧ meth.locks = false
/-- a local's new value, in the order of the numbers -/
def lins0 (i : Nat) (v : Value) : List (Nat × Value) → List (Nat × Value)
  | [] => [(i, v)]
  | q :: r => if i < q.1 then (i, v) :: q :: r else q :: lins0 i v r
def lins (i : Nat) (v : Value) (lv : List (Nat × Value)) : List (Nat × Value) := lins0 i v (lv.filter (fun q => !(q.1 == i) && !(q.1 + 1 == i && q.2.category == 2)))
theorem lins0_mem {i : Nat} {v : Value} {q : Nat × Value} : ∀ {lv : List (Nat × Value)}, q ∈ lins0 i v lv → q ∈ (i, v) :: lv
  | [], h => h
  | r :: lv, h => by
    unfold lins0 at h
    split at h
    · exact h
    · rcases List.mem_cons.mp h with h | h
      · subst h; exact List.mem_cons_of_mem _ List.mem_cons_self
      · rcases List.mem_cons.mp (lins0_mem h) with h | h
        · subst h; exact List.mem_cons_self
        · exact List.mem_cons_of_mem _ (List.mem_cons_of_mem _ h)
theorem lins_has {ls : Array Slot} {nL i : Nat} {v : Value} {lv lv' : List (Nat × Value)} (hl : lins i v lv = lv') (h : lv_has ls nL ((i, v) :: lv.filter (fun q => !(q.1 == i) && !(q.1 + 1 == i && q.2.category == 2)))) : lv_has ls nL lv' := by
  subst hl
  exact ⟨h.1, h.2.1, fun q hq => h.2.2 q (lins0_mem hq)⟩
