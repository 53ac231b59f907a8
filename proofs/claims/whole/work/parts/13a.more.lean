/-! longs, doubles, the script -/
section Rows4
variable {p : Program} {l : Launch} {E : Env} {R : Room} {s : State} {m : MethodId} {args : Array Value} {below : List Frame} {meth : Method} {c : Code} {G : GG} {A : Nat → Prop} {nL : Nat} {Q : State → Prop} {N : Nat} {ad : Nat → Nat} {ev : Nat → va_E} {cells slots pc : Nat} {lv lv' : List (Nat × Value)} {st : List Value} {cc : ByteArray} {own : String} {Ts : List Cond}
theorem n_i2l (C : Cx p s m args meth c G A nL cc own Ts) {x : Int32} (hd : decode cc pc = .ok (.i2l, 1)) (k : V p l E R s m args below meth c G A nL Q N ad ev cells slots (pc + 1) lv (.long x.toInt64 :: st)) : V p l E R s m args below meth c G A nL Q N ad ev cells slots pc lv (.int x :: st) := fun H locs ls hP hD hS hl => lv_i2l C.1 C.2.1 hd rfl (k H locs ls hP hD hS hl)
theorem n_iand (C : Cx p s m args meth c G A nL cc own Ts) {x y : Int32} (hd : decode cc pc = .ok (.iand, 1)) (k : V p l E R s m args below meth c G A nL Q N ad ev cells slots (pc + 1) lv (.int (x &&& y) :: st)) : V p l E R s m args below meth c G A nL Q N ad ev cells slots pc lv (.int y :: .int x :: st) := fun H locs ls hP hD hS hl => lv_iand C.1 C.2.1 hd (k H locs ls hP hD hS hl)
theorem n_lcmp (C : Cx p s m args meth c G A nL cc own Ts) {x y : Int64} (hd : decode cc pc = .ok (.lcmp, 1)) (k : V p l E R s m args below meth c G A nL Q N ad ev cells slots (pc + 1) lv (.int (lg_cmp x y) :: st)) : V p l E R s m args below meth c G A nL Q N ad ev cells slots pc lv (.long y :: .long x :: st) := fun H locs ls hP hD hS hl => W.lcmp C.1 C.2.1 hd (k H locs ls hP hD hS hl)
theorem n_dcmp (C : Cx p s m args meth c G A nL cc own Ts) {x y : UInt64} {op : CmpOp} (hd : decode cc pc = .ok (.dcmp op, 1)) (k : V p l E R s m args below meth c G A nL Q N ad ev cells slots (pc + 1) lv (.int (Op.cmpValue (FP.dcmp x y) op) :: st)) : V p l E R s m args below meth c G A nL Q N ad ev cells slots pc lv (.double y :: .double x :: st) := fun H locs ls hP hD hS hl => lv_dcmp C.1 C.2.1 hd (k H locs ls hP hD hS hl)
theorem n_dstore (C : Cx p s m args meth c G A nL cc own Ts) {i : Nat} {x : UInt64} (hd : decode cc pc = .ok (.dstore i, 2)) (hn : i + 1 < nL) (hl9 : (i, Value.double x) :: lv.filter (fun q => !(q.1 == i) && (!(q.1 == i + 1) && !(q.1 + 1 == i && q.2.category == 2))) = lv') (k : V p l E R s m args below meth c G A nL Q N ad ev cells slots (pc + 2) lv' st) : V p l E R s m args below meth c G A nL Q N ad ev cells slots pc lv (.double x :: st) := fun H locs ls hP hD hS hl => lv_dstore C.1 C.2.1 hd hl hn hl9 (fun ls' h => k H locs ls' hP hD hS h)
theorem n_lald (C : Cx p s m args meth c G A nL cc own Ts) {i n j : Nat} {z : Int} {f : Nat → Int64} (hd : decode cc pc = .ok (.laload, 1)) (hi : i < N) (he : ev i = .inl (G.2.2.2.2, n, .inr (.inl f))) (hz : z = (j : Int)) (hj : j < n) (hn : n ≤ 2147483648) (k : V p l E R s m args below meth c G A nL Q N ad ev cells slots (pc + 1) lv (.long (f j) :: st)) : V p l E R s m args below meth c G A nL Q N ad ev cells slots pc lv (.int (iI z) :: .ref (ad i) :: st) := by
  intro H locs ls hP hD hS hl
  refine va_lald C.1 C.2.1 C.2.2.2.2.2.1.1 hP i 3 (wd_is hi he) rfl (iI_in hz hj hn) hd ?_
  rw [iI_clamp hz (by omega)]
  exact k H locs ls hP hD hS hl
theorem n_last (C : Cx p s m args meth c G A nL cc own Ts) {i n j : Nat} {z : Int} {x : Int64} {f : Nat → Int64} (hd : decode cc pc = .ok (.lastore, 1)) (hi : i < N) (he : ev i = .inl (G.2.2.2.2, n, .inr (.inl f))) (hz : z = (j : Int)) (hj : j < n) (hn : n ≤ 2147483648) (k : ∀ e1 : Nat → va_E, e1 i = .inl (G.2.2.2.2, n, .inr (.inl (vp_updL f j x))) → (∀ j9, j9 ≠ i → e1 j9 = ev j9) → V p l E R s m args below meth c G A nL Q N ad e1 cells slots (pc + 1) lv st) : V p l E R s m args below meth c G A nL Q N ad ev cells slots pc lv (.long x :: .int (iI z) :: .ref (ad i) :: st) := by
  intro H locs ls hP hD hS hl
  refine va_last C.1 C.2.1 C.2.2.2.2.2.1.1 hP hD hS i 3 (wd_is hi he) rfl (iI_in hz hj hn) hd fun H1 locs1 hP1 hD1 hS1 => ?_
  rw [wd_set, iI_clamp hz (by omega)] at hP1 hD1
  exact k _ (va_up_self _ _ _) (fun j hj => va_up_ne _ _ hj) H1 locs1 ls hP1 hD1 hS1 hl
/-- the script: L ints xs at b -/
def Sx (A : Nat → Prop) (b L : Nat) (xs : Nat → Int32) (s : State) : Prop := va_X b L xs s s.heap ∧ b < s.heap.size ∧ ¬ A b
theorem n_sld (C : Cx p s m args meth c G A nL cc own Ts) {b L j : Nat} {xs : Nat → Int32} {z : Int} (hX : Sx A b L xs s) (hd : decode cc pc = .ok (.iaload, 1)) (hz : z = (j : Int)) (hj : j < L) (hn : L ≤ 2147483648) (k : V p l E R s m args below meth c G A nL Q N ad ev cells slots (pc + 1) lv (.int (xs j) :: st)) : V p l E R s m args below meth c G A nL Q N ad ev cells slots pc lv (.int (iI z) :: .ref b :: st) := by
  intro H locs ls hP hD hS hl
  refine va_sld C.1 C.2.1 hX.1 hX.2.1 hX.2.2 hS (iI_in hz hj hn) hd ?_
  rw [iI_clamp hz (by omega)]
  exact k H locs ls hP hD hS hl
theorem n_slen (C : Cx p s m args meth c G A nL cc own Ts) {b L : Nat} {xs : Nat → Int32} (hX : Sx A b L xs s) (hd : decode cc pc = .ok (.arraylength, 1)) (k : V p l E R s m args below meth c G A nL Q N ad ev cells slots (pc + 1) lv (.int (iI (L : Int)) :: st)) : V p l E R s m args below meth c G A nL Q N ad ev cells slots pc lv (.ref b :: st) := by
  intro H locs ls hP hD hS hl
  refine va_slen C.1 C.2.1 hX.1 hX.2.1 hX.2.2 hS hd ?_
  rw [iI_nI]
  exact k H locs ls hP hD hS hl
/-- a method that reads the script -/
def Cs (l : Launch) (y : MethodName) (ws : List Cond) (rm : Room) (av : List Value) (G : GG) (N : Nat) (ad : Nat → Nat) (ev : Nat → va_E) (b L : Nat) (xs : Nat → Int32) (mc ms : Nat) (post : Option Value → (Nat → va_E) → Prop) : Prop :=
  ∀ sz : Nat, Met l y ws rm (va_Pc av (fun U => U.heap.size = sz ∧ va_P G.1 vwCl (wd N ad ev) U.heap ∧ KW G U ∧ nInj N ad ∧ Sx (nA N ad sz) b L xs U)) (Qg G N ad (nA N ad sz) post) mc ms (nA N ad sz)
theorem n_callSs (C : Cx p s m args meth c G A nL cc own Ts) {b L : Nat} {xs : Nat → Int32} (hX : Sx A b L xs s) {y : MethodName} {bytes : ByteArray} {maxL mc ms n idx : Nat} {ret : Option FieldType} {ws : List Cond} {rm : Room} {As rest : List Value} {post : Option Value → (Nat → va_E) → Prop} (hd : decode cc pc = .ok (.invokestatic idx, 3)) (hM : Cs l y ws rm As G N ad ev b L xs mc ms post) (cw : CallB R s args own idx y bytes maxL ret ws rm mc ms n ∧ (Cond.static y).before args s = true) (hn : As.length = n) (hst : st = As.reverse ++ rest) (hrm : (rest.map fun v => v.category).sum ≤ 8) (hf : cells + mc ≤ R.cells ∧ slots + ms ≤ R.slots)
    (kk : ∀ (v : Option Value) (e2 : Nat → va_E), post v e2 → V p l E R s m args below meth c G A nL Q N ad e2 (cells + mc) (slots + ms) (pc + 3) lv (v.toList ++ rest)) : V p l E R s m args below meth c G A nL Q N ad ev cells slots pc lv st := by
  intro H locs ls hP hD hS hl
  refine n_back C hD hS hl (va_runS (As := As) (rest := rest) ⟨C.1, C.2.1, C.2.2.1, C.2.2.2.1, C.2.2.2.2.1⟩ (hM H.size) cw
    ⟨fun a U g mk q => ⟨q.1, q.2.1, q.2.2.1, q.2.2.2.1.same (Vm.Alike.refl U.vm) rfl, q.2.2.2.2.1, q.2.2.2.2.2.1.moved (Vm.Alike.refl U.vm), q.2.2.2.2.2.2⟩,
     fun U hU hW => ⟨rfl, by rw [hU], by rw [hU]; exact hP, C.2.2.2.2.2.1.warm hW, wd_inj hD, by rw [hU]; exact (hX.1.kept (hS.2.1 b hX.2.1 hX.2.2)).moved hW.alike, by rw [hU]; exact Nat.lt_of_lt_of_le hX.2.1 hS.1, fun h => by
       rcases h with ⟨i, hi, e⟩ | h
       · exact hX.2.2 (by rw [e]; exact wd_A hD i hi)
       · exact absurd (Nat.lt_of_lt_of_le hX.2.1 hS.1) (Nat.not_lt.mpr h)⟩⟩ rfl hn hl.1 hst (lv_room hrm) hd hf) kk
end Rows4
theorem Cs_of {l : Launch} {y : MethodName} {ws ws' : List Cond} {rm : Room} {av : List Value} {G : GG} {N : Nat} {ad : Nat → Nat} {ev : Nat → va_E} {b L : Nat} {xs : Nat → Int32} {mc ms : Nat} {post : Option Value → (Nat → va_E) → Prop} {cc : ByteArray} {maxL : Nat} {ret : Option FieldType} {lv : List (Nat × Value)}
    (hy : plainName y.cls = true) (hw : ws = Cond.code y cc maxL ret :: ws') (hav : (lg_sl av).length ≤ maxL) (hlv : lv_args 0 av = lv)
    (body : ∀ (p : Program) (E : Env) (s : State) (m : MethodId) (args : Array Value) (below : List Frame) (meth : Method) (c : Code) (A : Nat → Prop), Cx p s m args meth c G A maxL cc y.cls ws → meth.sig.returnType = ret → Sx A b L xs s →
      V p l E rm s m args below meth c G A maxL (MQ below (Qg G N ad A post) args s mc ms A) N ad ev 0 0 0 lv []) : Cs l y ws rm av G N ad ev b L xs mc ms post := by
  intro sz
  refine Met.ofW (cc := cc) (maxL := maxL) (ret := ret) hy hw ?_
  intro p e s m args below meth c s₁ B hml hv
  obtain ⟨rfl, hsz, hP, hK, hI, hX⟩ := hv
  subst hsz
  have hts := atoms_spec (ws := ws) B.pre
  have hl := lv_entry av hav
  rw [lg_entry_eq]
  rw [hlv] at hl
  exact body p e s m av.toArray below meth c (nA N ad s.heap.size) ⟨B.exec, B.bytes, hml, findClass_of_methodNamed B.named, hts, hK, fun q h => Or.inr h, B.notSynchronized⟩ B.returns hX s.heap [] _ hP (wd_D hI (fun i hi => Or.inl ⟨i, hi, rfl⟩)) va_S.rf hl
theorem lg_self (x : Int64) : lg_cmp x x = iI 0 := by
  unfold lg_cmp
  simp
  rfl
theorem DeskAt.obj {G : GG} {ad : Nat → Nat} {ev : Nat → va_E} {lim : Int} {R : Nat → List Int32} {ops : List Tr} {ls : List Op} {lsz : Nat} {rs : List Int32} (h : DeskAt G ad ev lim R ops ls lsz rs) : ∃ fs, ev 0 = .inr (5, fs) := by
  obtain ⟨rc, dc, ds, g, hb, k0, -⟩ := h
  exact ⟨_, k0⟩
theorem MdlAt.obj {G : GG} {ad : Nat → Nat} {ev : Nat → va_E} {lim thr : Int} {R : Nat → List Int32} {ops : List Tr} {ls : List Op} {lsz : Nat} {rs : List Int32} (h : MdlAt G ad ev lim thr R ops ls lsz rs) : ∃ fs, ev 53 = .inr (6, fs) := by
  obtain ⟨cmp, fz, fy, fk, fp, fs, mk, mp, fr, fq, w1, w2, fd, hb, k53, -⟩ := h
  exact ⟨_, k53⟩
theorem al_d0 : ∀ a, a < 41 → ∀ b, b < 41 → b ≠ 0 → vf_n64 (FP.f2d (FP.fdiv (FP.i2f (Int32.ofNat a)) (FP.i2f (Int32.ofNat b)))) := by
  unfold vf_n64
  decide +kernel
theorem alN_d {n m r : Nat} (h2 : n + m ≤ 40) : vf_n64 (FP.f2d (alN n m r)) := by
  unfold alN
  split
  · unfold vf_n64; decide +kernel
  · rw [← iI_nI, ← iI_nI]
    exact al_d0 _ (by omega) _ (by omega) (by omega)
theorem alS_d {R : Nat → List Int32} (h : ∀ j, j < 3 → (R j).length ≤ 20) (a b : Int) : vf_n64 (FP.f2d (alS R a b)) := by
  unfold alS
  split
  · rename_i c
    rw [Bool.and_eq_true] at c
    have c1 := of_decide_eq_true c.1
    have c2 := of_decide_eq_true c.2
    have h1 := h a.toNat (by omega)
    have h2 := h b.toNat (by omega)
    exact alN_d (by omega)
  · unfold vf_n64; decide +kernel
theorem DeskAt.len {G : GG} {ad : Nat → Nat} {ev : Nat → va_E} {lim : Int} {R : Nat → List Int32} {ops : List Tr} {ls : List Op} {lsz : Nat} {rs : List Int32} (h : DeskAt G ad ev lim R ops ls lsz rs) : ∀ j, j < 3 → (R j).length ≤ 20 := by
  obtain ⟨rc, dc, ds, g, hb, k0, k1, hg, hr9, -⟩ := h
  exact fun j hj => (hr9 j hj).le.1
