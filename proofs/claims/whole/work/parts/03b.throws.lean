/-! exceptions over the judgement V -/
abbrev nIA : String := "java/lang/IllegalArgumentException"
abbrev nIB : String := "java/lang/IndexOutOfBoundsException"
abbrev nIS : String := "java/lang/IllegalStateException"
abbrev nUO : String := "java/lang/UnsupportedOperationException"
abbrev nSup : List String := ["java/lang/RuntimeException", "java/lang/Exception"]
def xW : List Cond := [.declares (Bundle.initS "java/lang/RuntimeException"), .declares (Bundle.initS "java/lang/Exception"), .declares (Bundle.initS Bundle.tN), .castable nIA nIA, .castable nIB nIB, .castable nIS nIS, .castable nUO nUO]
def xSt : List (Nat × String) := [(86, "no such row"), (101, "more operations than the limit"), (176, "no such kind or symbol"), (180, "no such place, or one passed already"), (183, "another symbol is there"), (187, "the result is too long")]
def xNc : List (String × String) := [(nIS, nIA), (nIB, nIA), (nIS, nIB), (nUO, nIA), (nUO, nIB), (nUO, nIS)]
/-- what throwing takes: some words, the texts, two statics of Throwable, classes that are no subclasses -/
def XB (A : Nat → Prop) (U : State) (H : Heap) : Prop :=
  (∀ w ∈ xW, va_Nw w U) ∧ (∀ q ∈ xSt, ∃ sa : Nat, vk_R RX5 q.1 q.2 sa U) ∧ vx_Zq Bundle.tN "UNASSIGNED_STACK" Bundle.steD A U H ∧ vx_Zq Bundle.tN "SUPPRESSED_SENTINEL" Bundle.listD A U H ∧ ∀ q ∈ xNc, va_Nc q.1 q.2 U
theorem XB.pass {A B : Nat → Prop} {s U : State} {H : Heap} {locs : List Loc} (hW : s.WarmedH U.vm) (hS : va_S A s.heap H locs) (hBA : ∀ q, B q → A q) (h : XB A s s.heap) : XB B U H := by
  obtain ⟨h1, h2, h3, h4, h5⟩ := h
  refine ⟨fun w hw => ?_, fun q hq => ?_, (((h3.kept hS.2.1).narrow hBA).moved hW.alike), (((h4.kept hS.2.1).narrow hBA).moved hW.alike), fun q hq => (h5 q hq).moved hW.alike⟩
  · have h9 := h1 w hw
    simp only [xW, List.mem_cons, List.not_mem_nil, or_false] at hw
    rcases hw with rfl | rfl | rfl | rfl | rfl | rfl | rfl
    · exact va_Nw.warmD hW h9
    · exact va_Nw.warmD hW h9
    · exact va_Nw.warmD hW h9
    · exact va_Nw.warmC hW h9
    · exact va_Nw.warmC hW h9
    · exact va_Nw.warmC hW h9
    · exact va_Nw.warmC hW h9
  · obtain ⟨sa, h9⟩ := h2 q hq
    exact ⟨sa, h9.warm hW⟩
theorem XB.same {A : Nat → Prop} {s U : State} {H : Heap} (hA : s.vm.Alike U.vm) (e : U.vm = s.vm) (h : XB A s H) : XB A U H := by
  obtain ⟨h1, h2, h3, h4, h5⟩ := h
  refine ⟨fun w hw => ?_, fun q hq => ?_, h3.moved hA, h4.moved hA, fun q hq => (h5 q hq).moved hA⟩
  · have h9 := h1 w hw
    simp only [xW, List.mem_cons, List.not_mem_nil, or_false] at hw
    rcases hw with rfl | rfl | rfl | rfl | rfl | rfl | rfl <;> exact va_Nw.same rfl e.symm h9
  · obtain ⟨sa, h9⟩ := h2 q hq
    exact ⟨sa, h9.same e⟩
/-- a method's end by a throw of class E: the world is e2 -/
def Xg (G : GG) (N : Nat) (ad : Nat → Nat) (A : Nat → Prop) (px : String → (Nat → va_E) → Prop) : String → State → State → Prop := fun E st t => ∃ e2 : Nat → va_E, px E e2 ∧ va_P G.1 vwCl (wd N ad e2) t.heap ∧ va_F A st t
def PcX (av : List Value) (G : GG) (N : Nat) (ad : Nat → Nat) (ev : Nat → va_E) (sz : Nat) : Array Value → State → Prop := va_Pc av (fun U => U.heap.size = sz ∧ va_P G.1 vwCl (wd N ad ev) U.heap ∧ KW G U ∧ nInj N ad ∧ XB (nA N ad sz) U U.heap)
/-- the contract of a method that throws -/
def Cz (l : Launch) (y : MethodName) (ws : List Cond) (rm : Room) (av : List Value) (G : GG) (N : Nat) (ad : Nat → Nat) (ev : Nat → va_E) (mc ms : Nat) (px : String → (Nat → va_E) → Prop) : Prop :=
  ∀ sz : Nat, vx_Met l y ws rm (PcX av G N ad ev sz) (fun _ _ _ _ => False) (Xg G N ad (nA N ad sz) px) mc ms (nA N ad sz)
/-- the contract of a method that returns, of which callees may throw -/
def CtX (l : Launch) (y : MethodName) (ws : List Cond) (rm : Room) (av : List Value) (G : GG) (N : Nat) (ad : Nat → Nat) (ev : Nat → va_E) (mc ms : Nat) (post : Option Value → (Nat → va_E) → Prop) : Prop :=
  ∀ sz : Nat, Met l y ws rm (PcX av G N ad ev sz) (Qg G N ad (nA N ad sz) post) mc ms (nA N ad sz)
theorem n_blindX {av : List Value} {G : GG} {N : Nat} {ad : Nat → Nat} {ev : Nat → va_E} {sz : Nat} : FrameBlind (PcX av G N ad ev sz) :=
  fun a U g mk q => ⟨q.1, q.2.1, q.2.2.1, q.2.2.2.1.same (Vm.Alike.refl U.vm) rfl, q.2.2.2.2.1, q.2.2.2.2.2.same (Vm.Alike.refl U.vm) rfl⟩
section Rows3
variable {p : Program} {l : Launch} {E : Env} {R : Room} {s : State} {m : MethodId} {args : Array Value} {below : List Frame} {meth : Method} {c : Code} {G : GG} {A : Nat → Prop} {nL : Nat} {Q : State → Prop} {N : Nat} {ad : Nat → Nat} {ev : Nat → va_E} {cells slots pc : Nat} {lv lv' : List (Nat × Value)} {st : List Value} {cc : ByteArray} {own : String} {Ts : List Cond}
theorem n_preX {H : Heap} {locs : List Loc} (C : Cx p s m args meth c G A nL cc own Ts) (hX : XB A s s.heap) {av : List Value} (hP : va_P G.1 vwCl (wd N ad ev) H) (hD : va_D A (wd N ad ev)) (hS : va_S A s.heap H locs) : ∀ U : State, U.heap = H → s.WarmedH U.vm → PcX av G N ad ev H.size av.toArray U :=
  fun U hU hW => ⟨rfl, by rw [hU], by rw [hU]; exact hP, C.2.2.2.2.2.1.warm hW, wd_inj hD, by rw [hU]; exact hX.pass hW hS (n_nA C hD hS)⟩
/-- new E("..."), thrown -/
theorem n_throw {Qc : Array Value → State → Outcome → State → Prop} {px : String → (Nat → va_E) → Prop} {cls text : String} {ik is ic mc ms : Nat} (C : Cx p s m args meth c G A nL cc RX5 Ts) (hlt : l.stackTraces = false) (hX : XB A s s.heap) (hnt : ∀ x ∈ c.exceptionTable.toList, False)
    (d0 : decode cc pc = .ok (.new ik, 3)) (d3 : decode cc (pc + 3) = .ok (.dup, 1)) (d4 : decode cc (pc + 4) = .ok (.ldc is, 2)) (d6 : decode cc (pc + 6) = .ok (.invokespecial ic, 3)) (d9 : decode cc (pc + 9) = .ok (.athrow, 1))
    (hik : Cond.classLink RX5 ik cls ∈ Ts) (hini : Cond.initialized cls ∈ Ts) (hsx : (is, text) ∈ xSt) (hg1 : ∀ w ∈ (vx_atS RX5 ic cls nSup).filter goodWord, w ∈ Ts) (hg2 : ∀ w ∈ (vx_atS RX5 ic cls nSup).filter (fun w => !goodWord w), w ∈ xW) (hgood : ∀ w ∈ Cond.classLink RX5 ik cls :: Cond.initialized cls :: vx_atS RX5 ic cls nSup, vx_ot w = true) (hcls : Bundle.fit cls = true)
    (hfr : 5 < R.frames) (hlo : (st.map fun v => v.category).sum + 82 ≤ R.locals) (hRc : cells + 1 ≤ R.cells) (hRs : slots + 6 ≤ R.slots) (hc : cells + 1 ≤ mc) (hs : slots + 6 ≤ ms) (hpx : px cls ev) :
    V p l E R s m args below meth c G A nL (vx_MQ below Qc (Xg G N ad A px) args s mc ms A) N ad ev cells slots pc lv st := by
  intro H locs ls hP hD hS hl
  obtain ⟨sa, hstr⟩ := hX.2.1 _ hsx
  refine vx_throwS (A := A) (names := nSup) C.1 C.2.1 hlt C.2.2.2.1 hcls (by decide +kernel) (C.2.2.2.2.1 _ hik) (C.2.2.2.2.1 _ hini) hstr
    (vx_hat (fun w hw => C.2.2.2.2.1 _ (hg1 w hw)) hg2 (fun w hw => ?_)) hgood hX.2.2.1 hX.2.2.2.1 hS (hl.1.trans C.2.2.1.symm) d0 d3 d4 d6 d9 (fun x hx => (hnt x hx).elim) hfr hlo hRc hRs C.2.2.2.2.2.2.2 ?_ hS.2.2 hc hs
  · have h9 := hX.1 w hw
    simp only [xW, List.mem_cons, List.not_mem_nil, or_false] at hw
    rcases hw with rfl | rfl | rfl | rfl | rfl | rfl | rfl <;> exact va_Nw.use rfl h9
  · intro t hA hz hk
    exact ⟨ev, hpx, hP.kept (fun k q hq => hk q.1 ((hP k q hq).lt)), Nat.le_trans hS.1 hz, fun q h1 h2 => (hk q (Nat.lt_of_lt_of_le h1 hS.1)).trans (hS.2.1 q h1 h2)⟩
/-- a call that throws, passed on -/
theorem n_callVZ {Qc : Array Value → State → Outcome → State → Prop} {px px' : String → (Nat → va_E) → Prop} {y : MethodName} {bytes : ByteArray} {maxL mc ms mc' ms' n idx : Nat} {ret : Option FieldType} {ws : List Cond} {rm : Room} {As rest : List Value} {i ci Nf : Nat} {fs : List Value} {Cn : String} {T : u_T} (C : Cx p s m args meth c G A nL cc own Ts) (hX : XB A s s.heap) (hnt : ∀ x ∈ c.exceptionTable.toList, False)
    (hd : decode cc pc = .ok (.invokevirtual idx, 3)) (hM : Cz l y ws rm (.ref (ad i) :: As) G N ad ev mc ms px) (cw : CallW R s args own Cn idx y bytes maxL ret ws rm mc ms n) (hi : i < N) (he : ev i = .inr (ci, fs)) (hcl : vwCl[ci]? = some (Cn, T, Nf)) (hn : As.length = n) (hst : st = As.reverse ++ .ref (ad i) :: rest) (hrm : (rest.map fun v => v.category).sum ≤ 8) (hf : cells + mc ≤ R.cells ∧ slots + ms ≤ R.slots)
    (hpx : ∀ (X : String) (e2 : Nat → va_E), px X e2 → px' X e2) (hc : cells + mc ≤ mc') (hs : slots + ms ≤ ms') : V p l E R s m args below meth c G A nL (vx_MQ below Qc (Xg G N ad A px') args s mc' ms' A) N ad ev cells slots pc lv st := by
  intro H locs ls hP hD hS hl
  have hA := n_nA C hD hS
  have run := vx_runV (As := As) (rest := rest) (b := ad i) (g := F0 m pc ls st) (locs := locs) (cells := cells) (slots := slots) (below := below) (meth := meth) (e := E) (l := l) (H := H) ⟨C.1, C.2.1, C.2.2.1, C.2.2.2.1, C.2.2.2.2.1⟩ (hM H.size) cw ⟨n_blindX, va_recv C.2.2.2.2.2.1.1 hP hcl (wd_is hi he), n_preX C hX hP hD hS⟩ rfl hn hl.1 hst (lv_room hrm) hd hf
  intro T hT X
  rcases run T hT X with ⟨v, st₀, t, T', L, h0, X', hL, e1, e2, hq, stp⟩ | ⟨q, st₀, t, T', L, E9, ce, h0, X', hL, e1, e2, ⟨ev2, hp, hb, hz, hk⟩, hce, hcv, hcl9, stp⟩
  · exact hq.elim
  · rw [h0] at hz hk
    have hS2 : va_S A s.heap T'.heap (locs ++ L) := ⟨Nat.le_trans hS.1 (by rw [e1]; exact hz), fun q h1 h2 => by rw [e1, hk q (Nat.lt_of_lt_of_le h1 hS.1) (fun z => h2 (hA q z))]; exact hS.2.1 q h1 h2, fun q hq => by
      rcases List.mem_append.mp hq with h | h
      · exact hS.2.2 q h
      · exact hA _ (hL q h)⟩
    have kx : vx_W p l E R s m args below meth c T'.heap (locs ++ L) (cells + mc) (slots + ms) (vx_MQ below Qc (Xg G N ad A px') args s mc' ms' A) (F0 m pc ls rest) q :=
      vx_out (fun x hx => (hnt x hx).elim) C.2.2.2.2.2.2.2 (by rw [e1]; exact hce) hcv hcl9 (fun t9 ht9 _ => ⟨ev2, hpx _ _ hp, by rw [ht9, e1]; exact hb, by rw [ht9]; exact hS2.1, fun q h1 h2 => by rw [ht9]; exact hS2.2.1 q h1 h2⟩) hS2.2.2 hc hs
    obtain ⟨t2, a1, b1⟩ := kx T' rfl X'
    exact ⟨t2, stp.trans a1, b1⟩
/-- a call that throws E, caught here -/
theorem n_callVC {px : String → (Nat → va_E) → Prop} {y : MethodName} {bytes : ByteArray} {maxL mc ms n idx : Nat} {ret : Option FieldType} {ws : List Cond} {rm : Room} {As rest : List Value} {i ci Nf : Nat} {fs : List Value} {Cn nE : String} {T : u_T} (C : Cx p s m args meth c G A nL cc own Ts) (hX : XB A s s.heap)
    (pre : List ExceptionTableEntry) (x : ExceptionTableEntry) (suf : List ExceptionTableEntry) (hsplit : c.exceptionTable.toList = pre ++ x :: suf) (hpass : ∀ z ∈ pre, covers z pc = false ∨ (z.catchType ≠ 0 ∧ ∃ nm : String, Cond.classLink own z.catchType nm ∈ Ts ∧ (nE, nm) ∈ xNc)) (hx : covers x pc = true) (h0 : x.catchType ≠ 0) (hlink : Cond.classLink own x.catchType nE ∈ Ts) (hcast : Cond.castable nE nE ∈ xW)
    (hd : decode cc pc = .ok (.invokevirtual idx, 3)) (hM : Cz l y ws rm (.ref (ad i) :: As) G N ad ev mc ms px) (cw : CallW R s args own Cn idx y bytes maxL ret ws rm mc ms n) (hi : i < N) (he : ev i = .inr (ci, fs)) (hcl : vwCl[ci]? = some (Cn, T, Nf)) (hn : As.length = n) (hst : st = As.reverse ++ .ref (ad i) :: rest) (hrm : (rest.map fun v => v.category).sum ≤ 8) (hf : cells + mc ≤ R.cells ∧ slots + ms ≤ R.slots)
    (hE : ∀ (X : String) (e2 : Nat → va_E), px X e2 → X = nE) (kk : ∀ (q9 : Nat) (e2 : Nat → va_E), px nE e2 → V p l E R s m args below meth c G A nL Q N ad e2 (cells + mc) (slots + ms) x.handlerPc lv [.ref q9]) : V p l E R s m args below meth c G A nL Q N ad ev cells slots pc lv st := by
  intro H locs ls hP hD hS hl
  have hA := n_nA C hD hS
  have run := vx_runV (As := As) (rest := rest) (b := ad i) (g := F0 m pc ls st) (locs := locs) (cells := cells) (slots := slots) (below := below) (meth := meth) (e := E) (l := l) (H := H) ⟨C.1, C.2.1, C.2.2.1, C.2.2.2.1, C.2.2.2.2.1⟩ (hM H.size) cw ⟨n_blindX, va_recv C.2.2.2.2.2.1.1 hP hcl (wd_is hi he), n_preX C hX hP hD hS⟩ rfl hn hl.1 hst (lv_room hrm) hd hf
  intro T hT X
  rcases run T hT X with ⟨v, st₀, t, T', L, h0, X', hL, e1, e2, hq, stp⟩ | ⟨q, st₀, t, T', L, E9, ce, h09, X', hL, e1, e2, ⟨ev2, hp, hb, hz, hk⟩, hce, hcv, hcl9, stp⟩
  · exact hq.elim
  · have e9 := hE _ _ hp
    subst e9
    rw [h09] at hz hk
    have hS2 : va_S A s.heap T'.heap (locs ++ L) := ⟨Nat.le_trans hS.1 (by rw [e1]; exact hz), fun q h1 h2 => by rw [e1, hk q (Nat.lt_of_lt_of_le h1 hS.1) (fun z => h2 (hA q z))]; exact hS.2.1 q h1 h2, fun q hq => by
      rcases List.mem_append.mp hq with h | h
      · exact hS.2.2 q h
      · exact hA _ (hL q h)⟩
    have kx : vx_W p l E R s m args below meth c T'.heap (locs ++ L) (cells + mc) (slots + ms) Q (F0 m pc ls rest) q :=
      vx_catch C.2.2.2.1 pre x suf hsplit (fun z hz9 => by
        rcases hpass z hz9 with h | ⟨h1, nm, h2, h3⟩
        · exact Or.inl h
        · exact Or.inr ⟨h1, nm, C.2.2.2.2.1 _ h2, hX.2.2.2.2 _ h3⟩) hx h0 (C.2.2.2.2.1 _ hlink) (va_Nw.use rfl (hX.1 _ hcast)) (by rw [e1]; exact hce) hcv hcl9 (kk q ev2 hp T'.heap (locs ++ L) ls (by rw [e1]; exact hb) (wd_D2 hD) hS2 hl)
    obtain ⟨t2, a1, b1⟩ := kx T' rfl X'
    exact ⟨t2, stp.trans a1, b1⟩
/-- a static call of a method with a table -/
theorem n_callSWX {y : MethodName} {bytes : ByteArray} {maxL mc ms n idx : Nat} {ret : Option FieldType} {hh : List (Nat × Nat × Nat × Nat)} {ws : List Cond} {rm : Room} {As rest : List Value} {post : Option Value → (Nat → va_E) → Prop} (C : Cx p s m args meth c G A nL cc own Ts) (hX : XB A s s.heap) (hd : decode cc pc = .ok (.invokestatic idx, 3)) (hM : CtX l y ws rm As G N ad ev mc ms post) (cw : vx_CSW R s args own idx y bytes maxL ret hh ws rm mc ms n) (hn : As.length = n) (hst : st = As.reverse ++ rest) (hrm : (rest.map fun v => v.category).sum ≤ 8) (hf : cells + mc ≤ R.cells ∧ slots + ms ≤ R.slots)
    (kk : ∀ (v : Option Value) (e2 : Nat → va_E), post v e2 → V p l E R s m args below meth c G A nL Q N ad e2 (cells + mc) (slots + ms) (pc + 3) lv (v.toList ++ rest)) : V p l E R s m args below meth c G A nL Q N ad ev cells slots pc lv st := by
  intro H locs ls hP hD hS hl
  exact n_back C hD hS hl (vx_runSW (As := As) (rest := rest) ⟨C.1, C.2.1, C.2.2.1, C.2.2.2.1, C.2.2.2.2.1⟩ (hM H.size) cw ⟨n_blindX, n_preX C hX hP hD hS⟩ rfl hn hl.1 hst (lv_room hrm) hd hf) kk
end Rows3
/-- a throwing contract out of its body -/
theorem Cz_of {l : Launch} {y : MethodName} {ws ws' : List Cond} {rm : Room} {av : List Value} {G : GG} {N : Nat} {ad : Nat → Nat} {ev : Nat → va_E} {mc ms : Nat} {px : String → (Nat → va_E) → Prop} {cc : ByteArray} {maxL : Nat} {ret : Option FieldType} {lv : List (Nat × Value)}
    (hy : plainName y.cls = true) (hw : ws = Cond.code y cc maxL ret :: ws') (hav : (lg_sl av).length ≤ maxL) (hlv : lv_args 0 av = lv)
    (body : ∀ (p : Program) (E : Env) (s : State) (m : MethodId) (args : Array Value) (below : List Frame) (meth : Method) (c : Code) (A : Nat → Prop), Cx p s m args meth c G A maxL cc y.cls ws → meth.sig.returnType = ret → XB A s s.heap → (∀ x ∈ c.exceptionTable.toList, False) →
      V p l E rm s m args below meth c G A maxL (vx_MQ below (fun _ _ _ _ => False) (Xg G N ad A px) args s mc ms A) N ad ev 0 0 0 lv []) : Cz l y ws rm av G N ad ev mc ms px := by
  intro sz
  refine vx_ofW (cc := cc) (maxL := maxL) (ret := ret) hy hw ?_
  intro p e s m args below meth c s₁ B hml hnt hv
  obtain ⟨rfl, hsz, hP, hK, hI, hX⟩ := hv
  subst hsz
  have hts := atoms_spec (ws := ws) B.pre
  have hl := lv_entry av hav
  rw [lg_entry_eq]
  rw [hlv] at hl
  exact body p e s m av.toArray below meth c (nA N ad s.heap.size) ⟨B.exec, B.bytes, hml, findClass_of_methodNamed B.named, hts, hK, fun q h => Or.inr h, B.notSynchronized⟩ B.returns hX hnt s.heap [] _ hP (wd_D hI (fun i hi => Or.inl ⟨i, hi, rfl⟩)) va_S.rf hl
/-- the contract of a method with a table -/
theorem CtX_of {l : Launch} {y : MethodName} {ws ws' : List Cond} {rm : Room} {av : List Value} {G : GG} {N : Nat} {ad : Nat → Nat} {ev : Nat → va_E} {mc ms : Nat} {post : Option Value → (Nat → va_E) → Prop} {cc : ByteArray} {maxL : Nat} {ret : Option FieldType} {hh : List (Nat × Nat × Nat × Nat)} {lv : List (Nat × Value)}
    (hy : plainName y.cls = true) (hw : ws = Cond.codeWith y cc maxL ret hh :: ws') (hav : (lg_sl av).length ≤ maxL) (hlv : lv_args 0 av = lv)
    (body : ∀ (p : Program) (E : Env) (s : State) (m : MethodId) (args : Array Value) (below : List Frame) (meth : Method) (c : Code) (A : Nat → Prop), Cx p s m args meth c G A maxL cc y.cls ws → meth.sig.returnType = ret → XB A s s.heap → c.exceptionTable.toList = tableOf hh →
      V p l E rm s m args below meth c G A maxL (MQ below (Qg G N ad A post) args s mc ms A) N ad ev 0 0 0 lv []) : CtX l y ws rm av G N ad ev mc ms post := by
  intro sz
  refine va_MetW (cc := cc) (maxL := maxL) (ret := ret) (hh := hh) hy hw ?_
  intro p e s m args below meth c s₁ B hml hv
  obtain ⟨rfl, hsz, hP, hK, hI, hX⟩ := hv
  subst hsz
  have hts := atoms_spec (ws := ws) B.pre
  have htb : c.exceptionTable.toList = tableOf hh := vx_table (x := y) B (hts _ (by rw [hw]; exact List.mem_cons_self))
  have hl := lv_entry av hav
  rw [lg_entry_eq]
  rw [hlv] at hl
  exact body p e s m av.toArray below meth c (nA N ad s.heap.size) ⟨B.exec, B.bytes, hml, findClass_of_methodNamed B.named, hts, hK, fun q h => Or.inr h, B.notSynchronized⟩ B.returns hX htb s.heap [] _ hP (wd_D hI (fun i hi => Or.inl ⟨i, hi, rfl⟩)) va_S.rf hl
