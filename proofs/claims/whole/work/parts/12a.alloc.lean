/-! making objects: the world grows -/
theorem va_AOA.moved {t : FieldType} {u U : State} (hvm : u.vm.Alike U.vm) (h : va_AOA t u) : va_AOA t U := by
  obtain ⟨comp, c, k, h1, h2, h3, h4, h5⟩ := arrayOver_specB h
  obtain ⟨k', hk', he⟩ := hvm.2.2 _ _ h3
  have hi : (U.vm.classes.findIdx? fun (x : Class) => match x.kind with | .array component _ => component == comp | _ => false) = some c := by
    have hb : U.vm.bare = u.vm.bare := by first | exact hvm.bare_eq | exact hvm.bare_eq.symm
    have a := va_idx_bare U.vm comp
    rw [hb] at a
    exact a.symm.trans ((va_idx_bare u.vm comp).trans h2)
  have hkind : k'.kind = .array comp (.array t) := by rw [he]; exact h4
  have f1 : U.vm.findClass (FieldType.array t).toString = some comp := by rw [hvm.findClass]; exact h1
  have f2 : U.vm.findClass ("[" ++ (FieldType.array t).toString) = some c := by rw [hvm.findClass]; exact h5
  unfold va_AOA Cond.before Cond.holds
  simp only [Cond.value]
  rw [f1, Option.bind_some]
  refine (congrArg (fun o : Option Nat => (o.bind (fun c => (U.vm.classes[c]?).map fun (k : Class) => match k.kind with | .array _ ty => decide (ty = FieldType.array t) && decide (U.vm.findClass ("[" ++ (FieldType.array t).toString) = some c) | _ => false) == some true)) hi).trans ?_
  simp [hk', hkind, f2]
/-- what a constructor knows beside KW -/
def KX (U : State) : Prop := va_AO RX2 U ∧ va_AOA .int U
theorem KX.alike {s U : State} (hA : s.vm.Alike U.vm) (h : KX s) : KX U := ⟨h.1.moved hA, h.2.moved hA⟩
/-- the addresses stay -/
def Gr (N : Nat) (ad ad2 : Nat → Nat) : Prop := ∀ j, j < N → ad2 j = ad j
theorem iI_nn {n : Nat} (h : n < 2147483648) : ¬ iI (n : Int) < 0 := by
  rw [iI_0, iI_lt (by omega) (by omega) (by omega) (by omega)]
  omega
section Alloc
variable {p : Program} {l : Launch} {E : Env} {R : Room} {s : State} {m : MethodId} {args : Array Value} {below : List Frame} {meth : Method} {c : Code} {G : GG} {A : Nat → Prop} {nL : Nat} {Q : State → Prop} {N : Nat} {ad : Nat → Nat} {ev : Nat → va_E} {cells slots pc : Nat} {lv lv' : List (Nat × Value)} {st : List Value} {cc : ByteArray} {own : String} {Ts : List Cond}
theorem n_new (C : Cx p s m args meth c G A nL cc own Ts) {ci idx Nf : Nat} {fs : List Value} {Cn : String} {T : u_T} {ty0 : Nat → FieldType} (hd : decode cc pc = .ok (.new idx, 3)) (hin : ∀ w ∈ u_ws Cn T Nf, w ∈ Ts) (hty : ∀ k, k < Nf → parseFieldDescriptor (T k).2.2.1 = some (ty0 k)) (hcl : Cond.classLink own idx Cn ∈ Ts) (hinst : Cond.instantiable Cn Nf ∈ Ts) (hini : Cond.initialized Cn ∈ Ts) (hc : vwCl[ci]? = some (Cn, T, Nf)) (hfs : ∀ j, j < Nf → defaultValue (ty0 j) = vp_V fs j) (h1 : cells + 1 ≤ R.cells) (h2 : slots + Nf ≤ R.slots)
    (k : ∀ (ad2 : Nat → Nat) (e2 : Nat → va_E), Gr N ad ad2 → (∀ j, j < N → e2 j = ev j) → e2 N = .inr (ci, fs) → V p l E R s m args below meth c G A nL Q (N + 1) ad2 e2 (cells + 1) (slots + Nf) (pc + 3) lv (.ref (ad2 N) :: st)) : V p l E R s m args below meth c G A nL Q N ad ev cells slots pc lv st := by
  intro H locs ls hP hD hS hl
  refine va_new C.1 C.2.1 C.2.2.2.2.1 hin ty0 hty C.2.2.2.1 (C.2.2.2.2.1 _ hcl) (C.2.2.2.2.1 _ hinst) (C.2.2.2.2.1 _ hini) C.2.2.2.2.2.1.1 hP hD hS C.2.2.2.2.2.2.1 hc hfs h1 h2 hd fun q H1 hP1 hD1 hS1 => ?_
  rw [wd_push] at hP1 hD1
  have h := k (va_up ad N q) (va_up ev N _) (fun j hj => va_up_ne _ _ (by omega)) (fun j hj => va_up_ne _ _ (by omega)) (va_up_self _ _ _) H1 locs ls hP1 hD1 hS1 hl
  rwa [va_up_self] at h
theorem n_newI (C : Cx p s m args meth c G A nL cc own Ts) {n : Nat} (hd : decode cc pc = .ok (.newarray .int, 2)) (harr : Cond.arrayClass .int ∈ Ts) (hn : n ≤ 1000) (h1 : cells + 1 ≤ R.cells) (h2 : slots + n ≤ R.slots)
    (k : ∀ (ad2 : Nat → Nat) (e2 : Nat → va_E), Gr N ad ad2 → (∀ j, j < N → e2 j = ev j) → e2 N = .inl (G.2.1, n, .inl (fun _ => 0)) → V p l E R s m args below meth c G A nL Q (N + 1) ad2 e2 (cells + 1) (slots + n) (pc + 2) lv (.ref (ad2 N) :: st)) : V p l E R s m args below meth c G A nL Q N ad ev cells slots pc lv (.int (iI (n : Int)) :: st) := by
  intro H locs ls hP hD hS hl
  refine va_newa (atype := .int) (ty := .int) (a0 := (n, .inl (fun _ => 0))) C.1 C.2.1 (C.2.2.2.2.1 _ harr) rfl C.2.2.2.2.2.1.1 hP hD hS C.2.2.2.2.2.2.1 (fun cA => rfl) (iI_nn (by omega)) (iI_clamp rfl (by omega)) (by show n * 4 ≤ _; omega) h1 h2 hd fun q cA H1 hK1 hP1 hD1 hS1 => ?_
  have e : cA = G.2.1 := Option.some.inj ((va_nm_int (hK1.2 4 (cA, .int) rfl).2).symm.trans (va_nm_int (C.2.2.2.2.2.1.1.2 0 _ rfl).2))
  subst e
  rw [wd_push] at hP1 hD1
  have h := k (va_up ad N q) (va_up ev N _) (fun j hj => va_up_ne _ _ (by omega)) (fun j hj => va_up_ne _ _ (by omega)) (va_up_self _ _ _) H1 locs ls hP1 hD1 hS1 hl
  rwa [va_up_self] at h
theorem n_newL (C : Cx p s m args meth c G A nL cc own Ts) {n : Nat} (hd : decode cc pc = .ok (.newarray .long, 2)) (harr : Cond.arrayClass .long ∈ Ts) (hn : n ≤ 1000) (h1 : cells + 1 ≤ R.cells) (h2 : slots + n ≤ R.slots)
    (k : ∀ (ad2 : Nat → Nat) (e2 : Nat → va_E), Gr N ad ad2 → (∀ j, j < N → e2 j = ev j) → e2 N = .inl (G.2.2.2.2, n, .inr (.inl (fun _ => 0))) → V p l E R s m args below meth c G A nL Q (N + 1) ad2 e2 (cells + 1) (slots + n) (pc + 2) lv (.ref (ad2 N) :: st)) : V p l E R s m args below meth c G A nL Q N ad ev cells slots pc lv (.int (iI (n : Int)) :: st) := by
  intro H locs ls hP hD hS hl
  refine va_newa (atype := .long) (ty := .long) (a0 := (n, .inr (.inl (fun _ => 0)))) C.1 C.2.1 (C.2.2.2.2.1 _ harr) rfl C.2.2.2.2.2.1.1 hP hD hS C.2.2.2.2.2.2.1 (fun cA => rfl) (iI_nn (by omega)) (iI_clamp rfl (by omega)) (by show n * 8 ≤ _; omega) h1 h2 hd fun q cA H1 hK1 hP1 hD1 hS1 => ?_
  have e : cA = G.2.2.2.2 := Option.some.inj ((va_nm_long (hK1.2 4 (cA, .long) rfl).2).symm.trans (va_nm_long (C.2.2.2.2.2.1.1.2 3 _ rfl).2))
  subst e
  rw [wd_push] at hP1 hD1
  have h := k (va_up ad N q) (va_up ev N _) (fun j hj => va_up_ne _ _ (by omega)) (fun j hj => va_up_ne _ _ (by omega)) (va_up_self _ _ _) H1 locs ls hP1 hD1 hS1 hl
  rwa [va_up_self] at h
theorem n_newQ (C : Cx p s m args meth c G A nL cc own Ts) (hX : KX s) {n idx : Nat} (hd : decode cc pc = .ok (.anewarray idx, 3)) (hcl : Cond.classLink own idx RX2 ∈ Ts) (hn : n ≤ 1000) (h1 : cells + 1 ≤ R.cells) (h2 : slots + n ≤ R.slots)
    (k : ∀ (ad2 : Nat → Nat) (e2 : Nat → va_E), Gr N ad ad2 → (∀ j, j < N → e2 j = ev j) → e2 N = .inl (G.2.2.1, n, .inr (.inr (.inr (.inr (fun _ => none))))) → V p l E R s m args below meth c G A nL Q (N + 1) ad2 e2 (cells + 1) (slots + n) (pc + 3) lv (.ref (ad2 N) :: st)) : V p l E R s m args below meth c G A nL Q N ad ev cells slots pc lv (.int (iI (n : Int)) :: st) := by
  intro H locs ls hP hD hS hl
  refine va_newq C.1 C.2.1 C.2.2.2.1 (C.2.2.2.2.1 _ hcl) hX.1 C.2.2.2.2.2.1.1 hP hD hS C.2.2.2.2.2.2.1 (iI_nn (by omega)) (iI_clamp rfl (by omega)) (by omega) h1 h2 hd fun q cA H1 hK1 hP1 hD1 hS1 => ?_
  obtain ⟨-, -, -, -, -, f1⟩ := (hK1.2 4 (cA, .object RX2) rfl).2
  obtain ⟨-, -, -, -, -, f2⟩ := (C.2.2.2.2.2.1.1.2 1 _ rfl).2
  have e : cA = G.2.2.1 := Option.some.inj (f1.symm.trans f2)
  subst e
  rw [wd_push] at hP1 hD1
  have h := k (va_up ad N q) (va_up ev N _) (fun j hj => va_up_ne _ _ (by omega)) (fun j hj => va_up_ne _ _ (by omega)) (va_up_self _ _ _) H1 locs ls hP1 hD1 hS1 hl
  rwa [va_up_self] at h
theorem n_aastq (C : Cx p s m args meth c G A nL cc own Ts) {i n j k9 : Nat} {z : Int} {g : Nat → Option Nat} {vs : List Value} (hd : decode cc pc = .ok (.aastore, 1)) (hi : i < N) (he : ev i = .inl (G.2.2.1, n, .inr (.inr (.inr (.inr g))))) (hk9 : k9 < N) (hv : ev k9 = .inr (2, vs)) (hz : z = (j : Int)) (hj : j < n) (hn : n ≤ 2147483648)
    (k : ∀ e1 : Nat → va_E, e1 i = .inl (G.2.2.1, n, .inr (.inr (.inr (.inr (va_up g j (some (ad k9))))))) → (∀ j9, j9 ≠ i → e1 j9 = ev j9) → V p l E R s m args below meth c G A nL Q N ad e1 cells slots (pc + 1) lv st) : V p l E R s m args below meth c G A nL Q N ad ev cells slots pc lv (.ref (ad k9) :: .int (iI z) :: .ref (ad i) :: st) := by
  intro H locs ls hP hD hS hl
  refine va_astq C.1 C.2.1 C.2.2.2.2.2.1.1 hP hD hS i 1 k9 2 (wd_is hi he) rfl (wd_is hk9 hv) (r := (RX2, TX2, 2)) rfl (iI_in hz hj hn) hd fun H1 locs1 hP1 hD1 hS1 => ?_
  rw [wd_set, iI_clamp hz (by omega)] at hP1 hD1
  exact k _ (va_up_self _ _ _) (fun j hj => va_up_ne _ _ hj) H1 locs1 ls hP1 hD1 hS1 hl
/-- a table of rows in the world -/
theorem wd_tab {q : Nat} {x y : va_E} {f : Nat → va_E} {r : Nat → Nat} {n : Nat} : (wd N ad ev ++ [(q, x)]) ++ va_pl ([] ++ (List.range n).map r) (vr_up f ((List.range n).map r) y) = wd (N + 1 + n) (fun j => if j < N then ad j else if j = N then q else r (j - N - 1)) (fun j => if j < N then ev j else if j = N then x else y) := by
  unfold wd va_pl
  rw [List.nil_append, List.range_add, List.map_append, List.range_succ, List.map_append, List.map_map, List.map_map]
  congr 1
  · congr 1
    · apply List.map_congr_left
      intro i hi
      have := List.mem_range.mp hi
      simp [this]
    · simp
  · apply List.map_congr_left
    intro i hi
    have h1 : vr_up f ((List.range n).map r) y (r i) = y := by
      unfold vr_up
      rw [if_pos (List.mem_map.mpr ⟨i, hi, rfl⟩)]
    show (r i, vr_up f ((List.range n).map r) y (r i)) = (_, _)
    rw [h1]
    simp only [Function.comp]
    rw [if_neg (by omega), if_neg (by omega), if_neg (by omega), if_neg (by omega), show N + 1 + i - N - 1 = i by omega]
theorem n_mna (C : Cx p s m args meth c G A nL cc own Ts) (hX : KX s) {idx : Nat} (hd : decode cc pc = .ok (.multianewarray idx 2, 4)) (hcl : Cond.classLink own idx "[[I" ∈ Ts) (harr : Cond.arrayClass .int ∈ Ts) (h1 : cells + 22 ≤ R.cells) (h2 : slots + 462 ≤ R.slots)
    (k : ∀ (ad2 : Nat → Nat) (e2 : Nat → va_E), Gr N ad ad2 → (∀ j, j < N → e2 j = ev j) → e2 N = .inl (G.2.2.2.1, 21, .inr (.inr (.inr (.inr (fun i => if i < 21 then some (ad2 (N + 1 + i)) else none))))) → (∀ i, i < 21 → e2 (N + 1 + i) = .inl (G.2.1, 21, .inl (fun _ => 0))) → V p l E R s m args below meth c G A nL Q (N + 1 + 21) ad2 e2 (cells + 1 + 21) (slots + 21 + 21 * 21) (pc + 4) lv (.ref (ad2 N) :: st)) : V p l E R s m args below meth c G A nL Q N ad ev cells slots pc lv (.int (iI 21) :: .int (iI 21) :: st) := by
  intro H locs ls hP hD hS hl
  have e1 : "[" ++ (FieldType.array FieldType.int).toString = "[[I" := by decide +kernel
  have e0 : (FieldType.array FieldType.int).toString = "[I" := by decide +kernel
  have hci : s.vm.findClass (FieldType.array FieldType.int).toString = some G.2.1 := by rw [e0]; exact va_nm_int (C.2.2.2.2.2.1.1.2 0 _ rfl).2
  refine va_mna (X := wd N ad ev) (L := []) (f := fun _ => .inl (G.2.1, 21, .inl (fun _ => 0))) (ty := .int) (N' := 21) (K' := 21) (z := (21, .inl (fun _ => 0))) C.1 C.2.1 C.2.2.2.1 (by rw [e1]; exact C.2.2.2.2.1 _ hcl) hX.2 (C.2.2.2.2.1 _ harr) hci C.2.2.2.2.2.1.1 (by rw [show va_pl [] _ = [] from rfl, List.append_nil]; exact hP) (by rw [show va_pl [] _ = [] from rfl, List.append_nil]; exact hD) hS C.2.2.2.2.2.2.1 (iI_nn (n := 21) (by omega)) (iI_nn (n := 21) (by omega)) (iI_clamp (j := 21) rfl (by omega)) (iI_clamp (j := 21) rfl (by omega)) (by omega) (by show 21 * 4 ≤ _; omega) (by omega) rfl rfl (by omega) (by omega) (fun cA => by rw [vp_cell_i]; exact arrV_new cA 21 _) hd fun q r cA H1 hinj hnot hK1 hP1 hD1 hS1 => ?_
  have f1 : s.vm.findClass ("[" ++ (FieldType.array FieldType.int).toString) = some cA := (hK1.2 4 (cA, .array .int) rfl).2
  have f2 : s.vm.findClass ("[" ++ (FieldType.array FieldType.int).toString) = some G.2.2.2.1 := (C.2.2.2.2.2.1.1.2 2 _ rfl).2
  have e : cA = G.2.2.2.1 := Option.some.inj (f1.symm.trans f2)
  subst e
  rw [wd_tab] at hP1 hD1
  have h := k _ _ (fun j hj => if_pos hj) (fun j hj => if_pos hj) (by
    rw [if_neg (by omega), if_pos rfl]
    congr 7
    funext i
    by_cases hi : i < 21
    · rw [if_pos hi, if_pos hi, if_neg (by omega), if_neg (by omega), show N + 1 + i - N - 1 = i by omega]
    · rw [if_neg hi, if_neg hi]) (fun i hi => by rw [if_neg (by omega), if_neg (by omega)]) H1 locs ls hP1 hD1 hS1 hl
  rw [if_neg (by omega), if_pos rfl] at h
  exact h
theorem n_objI (C : Cx p s m args meth c G A nL cc own Ts) {idx a : Nat} (hd : decode cc pc = .ok (.invokespecial idx, 3)) (g1 : Cond.methodLink own idx Lib.objectInit ∈ Ts) (g2 : Cond.instanceMethod Lib.objectInit ∈ Ts) (g3 : Cond.code Lib.objectInit ⟨#[0xb1]⟩ 1 none ∈ Ts) (hf : 1 ≤ R.frames) (hlo : (st.map fun v => v.category).sum + 12 ≤ R.locals)
    (k : V p l E R s m args below meth c G A nL Q N ad ev cells slots (pc + 3) lv st) : V p l E R s m args below meth c G A nL Q N ad ev cells slots pc lv (.ref a :: st) :=
  fun H locs ls hP hD hS hl => W.objInit C.1 C.2.1 C.2.2.2.1 (C.2.2.2.2.1 _ g1) (C.2.2.2.2.1 _ g2) (C.2.2.2.2.1 _ g3) (g := F0 m pc ls (.ref a :: st)) rfl (hl.1.trans C.2.2.1.symm) rfl hd hf (by show 2 * 0 + _ + 12 ≤ _; omega) (k H locs ls hP hD hS hl)
/-- a constructor's end -/
def Qa (G : GG) (N N2 : Nat) (ad : Nat → Nat) (A : Nat → Prop) (post : (Nat → Nat) → (Nat → va_E) → Prop) : Array Value → State → Outcome → State → Prop := fun _ st oc t =>
  (∃ (ad2 : Nat → Nat) (e2 : Nat → va_E), oc = .returned none ∧ Gr N ad ad2 ∧ post ad2 e2 ∧ va_P G.1 vwCl (wd N2 ad2 e2) t.heap ∧ va_D A (wd N2 ad2 e2)) ∧ va_F A st t
/-- a constructor's contract -/
def Ca (l : Launch) (y : MethodName) (ws : List Cond) (rm : Room) (av : List Value) (G : GG) (N N2 : Nat) (ad : Nat → Nat) (ev : Nat → va_E) (mc ms : Nat) (post : (Nat → Nat) → (Nat → va_E) → Prop) : Prop :=
  ∀ sz : Nat, Met l y ws rm (va_Pc av (fun U => U.heap.size = sz ∧ va_P G.1 vwCl (wd N ad ev) U.heap ∧ (KW G U ∧ KX U) ∧ nInj N ad)) (Qa G N N2 ad (nA N ad sz) post) mc ms (nA N ad sz)
theorem n_vretA (C : Cx p s m args meth c G A nL cc own Ts) {N0 : Nat} {ad0 : Nat → Nat} {post : (Nat → Nat) → (Nat → va_E) → Prop} (hr : meth.sig.returnType = none) (hd : decode cc pc = .ok (.return_, 1)) (hg : Gr N0 ad0 ad) (hp : post ad ev) : V p l E R s m args below meth c G A nL (MQ below (Qa G N0 N ad0 A post) args s cells slots A) N ad ev cells slots pc lv [] :=
  fun H locs ls hP hD hS hl => W.vret C.1 C.2.1 hr (fun t ht hW => ⟨⟨ad, ev, rfl, hg, hp, by rw [ht]; exact hP, hD⟩, hS.F ht⟩) hS.2.2 hd C.2.2.2.2.2.2.2
theorem n_callI (C : Cx p s m args meth c G A nL cc own Ts) (hX : KX s) {y : MethodName} {bytes : ByteArray} {maxL mc ms n idx N2 q : Nat} {ws : List Cond} {rm : Room} {As rest : List Value} {post : (Nat → Nat) → (Nat → va_E) → Prop} (hd : decode cc pc = .ok (.invokespecial idx, 3)) (hM : Ca l y ws rm (.ref q :: As) G N N2 ad ev mc ms post) (cw : CallB R s args own idx y bytes maxL none ws rm mc ms n ∧ y.name = "<init>" ∧ (Cond.instanceMethod y).before args s = true) (hn : As.length = n) (hst : st = As.reverse ++ .ref q :: rest) (hrm : (rest.map fun v => v.category).sum ≤ 8) (hf : cells + mc ≤ R.cells ∧ slots + ms ≤ R.slots)
    (kk : ∀ (ad2 : Nat → Nat) (e2 : Nat → va_E), Gr N ad ad2 → post ad2 e2 → V p l E R s m args below meth c G A nL Q N2 ad2 e2 (cells + mc) (slots + ms) (pc + 3) lv rest) : V p l E R s m args below meth c G A nL Q N ad ev cells slots pc lv st := by
  intro H locs ls hP hD hS hl
  have hA := n_nA C hD hS
  have hr := va_runI (l := l) (e := E) (below := below) (meth := meth) (locs := locs) (cells := cells) (slots := slots) (g := F0 m pc ls st) (As := As) (rest := rest) (b := q) ⟨C.1, C.2.1, C.2.2.1, C.2.2.2.1, C.2.2.2.2.1⟩ (hM H.size) cw
    ⟨fun a U g mk z => ⟨z.1, z.2.1, z.2.2.1, ⟨z.2.2.2.1.1.same (Vm.Alike.refl U.vm) rfl, z.2.2.2.1.2.alike (Vm.Alike.refl U.vm)⟩, z.2.2.2.2⟩,
     fun U hU hW => ⟨rfl, by rw [hU], by rw [hU]; exact hP, ⟨C.2.2.2.2.2.1.warm hW, hX.alike hW.alike⟩, wd_inj hD⟩⟩ rfl hn hl.1 hst (lv_room hrm) hd hf
  intro T hT X
  obtain ⟨v, st₀, t, T', L, h0, X', hL, e1, e2, ⟨⟨ad2, ev2, hv, hg, hp, hb, hd2⟩, hz, hk⟩, stp⟩ := hr T hT X
  cases hv
  rw [h0] at hz hk
  obtain ⟨t2, a1, b1⟩ := kk ad2 ev2 hg hp T'.heap (locs ++ L) ls (by rw [e1]; exact hb) ⟨hd2.1, fun k9 x hx => hA _ (hd2.2 k9 x hx)⟩
    ⟨Nat.le_trans hS.1 (by rw [e1]; exact hz), fun q h1 h2 => by rw [e1, hk q (Nat.lt_of_lt_of_le h1 hS.1) (fun z => h2 (hA q z))]; exact hS.2.1 q h1 h2, fun q hq => by
      rcases List.mem_append.mp hq with h | h
      · exact hS.2.2 q h
      · exact hA _ (hL q h)⟩ hl T' rfl X'
  exact ⟨t2, stp t2 a1, b1⟩
end Alloc
theorem Ca_of {l : Launch} {y : MethodName} {ws ws' : List Cond} {rm : Room} {av : List Value} {G : GG} {N N2 : Nat} {ad : Nat → Nat} {ev : Nat → va_E} {mc ms : Nat} {post : (Nat → Nat) → (Nat → va_E) → Prop} {cc : ByteArray} {maxL : Nat} {ret : Option FieldType} {lv : List (Nat × Value)}
    (hy : plainName y.cls = true) (hw : ws = Cond.code y cc maxL ret :: ws') (hav : (lg_sl av).length ≤ maxL) (hlv : lv_args 0 av = lv)
    (body : ∀ (p : Program) (E : Env) (s : State) (m : MethodId) (args : Array Value) (below : List Frame) (meth : Method) (c : Code) (A : Nat → Prop), Cx p s m args meth c G A maxL cc y.cls ws → meth.sig.returnType = ret → meth.name = y.name → KX s →
      V p l E rm s m args below meth c G A maxL (MQ below (Qa G N N2 ad A post) args s mc ms A) N ad ev 0 0 0 lv []) : Ca l y ws rm av G N N2 ad ev mc ms post := by
  intro sz
  refine Met.ofW (cc := cc) (maxL := maxL) (ret := ret) hy hw ?_
  intro p e s m args below meth c s₁ B hml hv
  obtain ⟨rfl, hsz, hP, ⟨hK, hX⟩, hI⟩ := hv
  subst hsz
  have hts := atoms_spec (ws := ws) B.pre
  have hin : meth.name = y.name := (name_of_methodNamed B.named B.method).1
  have hl := lv_entry av hav
  rw [lg_entry_eq]
  rw [hlv] at hl
  exact body p e s m av.toArray below meth c (nA N ad s.heap.size) ⟨B.exec, B.bytes, hml, findClass_of_methodNamed B.named, hts, hK, fun q h => Or.inr h, B.notSynchronized⟩ B.returns hin hX s.heap [] _ hP (wd_D hI (fun i hi => Or.inl ⟨i, hi, rfl⟩)) va_S.rf hl
