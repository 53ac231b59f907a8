section Rows2
variable {p : Program} {l : Launch} {E : Env} {R : Room} {s : State} {m : MethodId} {args : Array Value} {below : List Frame} {meth : Method} {c : Code} {G : GG} {A : Nat → Prop} {nL : Nat} {Q : State → Prop} {N : Nat} {ad : Nat → Nat} {ev : Nat → va_E} {cells slots pc : Nat} {lv lv' : List (Nat × Value)} {st : List Value} {cc : ByteArray} {own : String} {Ts : List Cond}
theorem n_iconst (C : Cx p s m args meth c G A nL cc own Ts) {n : Int} (hd : decode cc pc = .ok (.iconst n, 1)) (k : V p l E R s m args below meth c G A nL Q N ad ev cells slots (pc + 1) lv (.int (iI n) :: st)) : V p l E R s m args below meth c G A nL Q N ad ev cells slots pc lv st := fun H locs ls hP hD hS hl => lv_iconst C.1 C.2.1 hd rfl (k H locs ls hP hD hS hl)
theorem n_bipush (C : Cx p s m args meth c G A nL cc own Ts) {n : Int} (hd : decode cc pc = .ok (.bipush n, 2)) (hv : (Int8.ofInt n).toInt32 = iI n) (k : V p l E R s m args below meth c G A nL Q N ad ev cells slots (pc + 2) lv (.int (iI n) :: st)) : V p l E R s m args below meth c G A nL Q N ad ev cells slots pc lv st := fun H locs ls hP hD hS hl => lv_bipush C.1 C.2.1 hd hv (k H locs ls hP hD hS hl)
theorem n_sipush (C : Cx p s m args meth c G A nL cc own Ts) {n : Int} (hd : decode cc pc = .ok (.sipush n, 3)) (hv : (Int16.ofInt n).toInt32 = iI n) (k : V p l E R s m args below meth c G A nL Q N ad ev cells slots (pc + 3) lv (.int (iI n) :: st)) : V p l E R s m args below meth c G A nL Q N ad ev cells slots pc lv st := fun H locs ls hP hD hS hl => lv_sipush C.1 C.2.1 hd hv (k H locs ls hP hD hS hl)
theorem n_iload_n (C : Cx p s m args meth c G A nL cc own Ts) {k9 : Fin 4} {i : Nat} {x : Int32} (hd : decode cc pc = .ok (.iload_n k9, 1)) (j : Nat) (hi : (k9 : Nat) = i) (hj : lv[j]? = some (i, .int x)) (k : V p l E R s m args below meth c G A nL Q N ad ev cells slots (pc + 1) lv (.int x :: st)) : V p l E R s m args below meth c G A nL Q N ad ev cells slots pc lv st := fun H locs ls hP hD hS hl => lv_iload_n C.1 C.2.1 hd hi (lv_at hl j hj) (k H locs ls hP hD hS hl)
theorem n_iload (C : Cx p s m args meth c G A nL cc own Ts) {i : Nat} {x : Int32} (hd : decode cc pc = .ok (.iload i, 2)) (j : Nat) (hj : lv[j]? = some (i, .int x)) (k : V p l E R s m args below meth c G A nL Q N ad ev cells slots (pc + 2) lv (.int x :: st)) : V p l E R s m args below meth c G A nL Q N ad ev cells slots pc lv st := fun H locs ls hP hD hS hl => lv_iload C.1 C.2.1 hd (lv_at hl j hj) (k H locs ls hP hD hS hl)
theorem n_aload_n (C : Cx p s m args meth c G A nL cc own Ts) {k9 : Fin 4} {i : Nat} {x : Nat} (hd : decode cc pc = .ok (.aload_n k9, 1)) (j : Nat) (hi : (k9 : Nat) = i) (hj : lv[j]? = some (i, .ref x)) (k : V p l E R s m args below meth c G A nL Q N ad ev cells slots (pc + 1) lv (.ref x :: st)) : V p l E R s m args below meth c G A nL Q N ad ev cells slots pc lv st := fun H locs ls hP hD hS hl => lv_aload_n C.1 C.2.1 hd hi (lv_at hl j hj) (k H locs ls hP hD hS hl)
theorem n_aload (C : Cx p s m args meth c G A nL cc own Ts) {i : Nat} {x : Nat} (hd : decode cc pc = .ok (.aload i, 2)) (j : Nat) (hj : lv[j]? = some (i, .ref x)) (k : V p l E R s m args below meth c G A nL Q N ad ev cells slots (pc + 2) lv (.ref x :: st)) : V p l E R s m args below meth c G A nL Q N ad ev cells slots pc lv st := fun H locs ls hP hD hS hl => lv_aload C.1 C.2.1 hd (lv_at hl j hj) (k H locs ls hP hD hS hl)
theorem n_dload (C : Cx p s m args meth c G A nL cc own Ts) {i : Nat} {x : UInt64} (hd : decode cc pc = .ok (.dload i, 2)) (j : Nat) (hj : lv[j]? = some (i, .double x)) (k : V p l E R s m args below meth c G A nL Q N ad ev cells slots (pc + 2) lv (.double x :: st)) : V p l E R s m args below meth c G A nL Q N ad ev cells slots pc lv st := fun H locs ls hP hD hS hl => lv_dload C.1 C.2.1 hd (lv_at hl j hj) (k H locs ls hP hD hS hl)
theorem n_istore_n (C : Cx p s m args meth c G A nL cc own Ts) {k9 : Fin 4} {i : Nat} {x : Int32} (hd : decode cc pc = .ok (.istore_n k9, 1)) (hi : (k9 : Nat) = i) (hn : i < nL) (h9 : lins i (.int x) lv = lv') (k : V p l E R s m args below meth c G A nL Q N ad ev cells slots (pc + 1) lv' st) : V p l E R s m args below meth c G A nL Q N ad ev cells slots pc lv (.int x :: st) := fun H locs ls hP hD hS hl => lv_istore_n C.1 C.2.1 hd hi hl hn rfl (fun ls2 hl2 => k H locs ls2 hP hD hS (lins_has h9 hl2))
theorem n_istore (C : Cx p s m args meth c G A nL cc own Ts) {i : Nat} {x : Int32} (hd : decode cc pc = .ok (.istore i, 2)) (hn : i < nL) (h9 : lins i (.int x) lv = lv') (k : V p l E R s m args below meth c G A nL Q N ad ev cells slots (pc + 2) lv' st) : V p l E R s m args below meth c G A nL Q N ad ev cells slots pc lv (.int x :: st) := fun H locs ls hP hD hS hl => lv_istore C.1 C.2.1 hd hl hn rfl (fun ls2 hl2 => k H locs ls2 hP hD hS (lins_has h9 hl2))
theorem n_astore_n (C : Cx p s m args meth c G A nL cc own Ts) {k9 : Fin 4} {i : Nat} {x : Nat} (hd : decode cc pc = .ok (.astore_n k9, 1)) (hi : (k9 : Nat) = i) (hn : i < nL) (h9 : lins i (.ref x) lv = lv') (k : V p l E R s m args below meth c G A nL Q N ad ev cells slots (pc + 1) lv' st) : V p l E R s m args below meth c G A nL Q N ad ev cells slots pc lv (.ref x :: st) := fun H locs ls hP hD hS hl => lv_astore_n C.1 C.2.1 hd hi hl hn rfl (fun ls2 hl2 => k H locs ls2 hP hD hS (lins_has h9 hl2))
theorem n_astore (C : Cx p s m args meth c G A nL cc own Ts) {i : Nat} {x : Nat} (hd : decode cc pc = .ok (.astore i, 2)) (hn : i < nL) (h9 : lins i (.ref x) lv = lv') (k : V p l E R s m args below meth c G A nL Q N ad ev cells slots (pc + 2) lv' st) : V p l E R s m args below meth c G A nL Q N ad ev cells slots pc lv (.ref x :: st) := fun H locs ls hP hD hS hl => lv_astore C.1 C.2.1 hd hl hn rfl (fun ls2 hl2 => k H locs ls2 hP hD hS (lins_has h9 hl2))
theorem n_iinc (C : Cx p s m args meth c G A nL cc own Ts) {i : Nat} {n z : Int} (hd : decode cc pc = .ok (.iinc i n, 3)) (j : Nat) (hj : lv[j]? = some (i, .int (iI z))) (hn : i < nL) (h9 : lins i (.int (iI (z + n))) lv = lv') (k : V p l E R s m args below meth c G A nL Q N ad ev cells slots (pc + 3) lv' st) : V p l E R s m args below meth c G A nL Q N ad ev cells slots pc lv st := fun H locs ls hP hD hS hl => lv_iinc C.1 C.2.1 hd hl hj (iI_add z n) hn rfl (fun ls2 hl2 => k H locs ls2 hP hD hS (lins_has h9 hl2))
theorem n_iadd (C : Cx p s m args meth c G A nL cc own Ts) {a b : Int} (hd : decode cc pc = .ok (.iadd, 1)) (k : V p l E R s m args below meth c G A nL Q N ad ev cells slots (pc + 1) lv (.int (iI (a + b)) :: st)) : V p l E R s m args below meth c G A nL Q N ad ev cells slots pc lv (.int (iI b) :: .int (iI a) :: st) := fun H locs ls hP hD hS hl => lv_iadd C.1 C.2.1 hd (by rw [iI_add]; exact k H locs ls hP hD hS hl)
theorem n_isub (C : Cx p s m args meth c G A nL cc own Ts) {a b : Int} (hd : decode cc pc = .ok (.isub, 1)) (k : V p l E R s m args below meth c G A nL Q N ad ev cells slots (pc + 1) lv (.int (iI (a - b)) :: st)) : V p l E R s m args below meth c G A nL Q N ad ev cells slots pc lv (.int (iI b) :: .int (iI a) :: st) := fun H locs ls hP hD hS hl => lv_isub C.1 C.2.1 hd (by rw [iI_sub]; exact k H locs ls hP hD hS hl)
theorem n_imul (C : Cx p s m args meth c G A nL cc own Ts) {a b : Int} (hd : decode cc pc = .ok (.imul, 1)) (k : V p l E R s m args below meth c G A nL Q N ad ev cells slots (pc + 1) lv (.int (iI (a * b)) :: st)) : V p l E R s m args below meth c G A nL Q N ad ev cells slots pc lv (.int (iI b) :: .int (iI a) :: st) := fun H locs ls hP hD hS hl => lv_imul C.1 C.2.1 hd (by rw [iI_mul]; exact k H locs ls hP hD hS hl)
theorem n_dup (C : Cx p s m args meth c G A nL cc own Ts) {w : Value} (hd : decode cc pc = .ok (.dup, 1)) (hw : w.category = 1) (k : V p l E R s m args below meth c G A nL Q N ad ev cells slots (pc + 1) lv (w :: w :: st)) : V p l E R s m args below meth c G A nL Q N ad ev cells slots pc lv (w :: st) := fun H locs ls hP hD hS hl => lv_dup C.1 C.2.1 hd hw (k H locs ls hP hD hS hl)
theorem n_dup2 (C : Cx p s m args meth c G A nL cc own Ts) {w w2 : Value} (hd : decode cc pc = .ok (.dup2, 1)) (hw : w.category = 1) (hw2 : w2.category = 1) (k : V p l E R s m args below meth c G A nL Q N ad ev cells slots (pc + 1) lv (w :: w2 :: w :: w2 :: st)) : V p l E R s m args below meth c G A nL Q N ad ev cells slots pc lv (w :: w2 :: st) := fun H locs ls hP hD hS hl => lv_dup2_11 C.1 C.2.1 hd hw hw2 (k H locs ls hP hD hS hl)
theorem n_idiv (C : Cx p s m args meth c G A nL cc own Ts) {a d : Nat} (hd : decode cc pc = .ok (.idiv, 1)) (ha : a < 2147483648) (h0 : 0 < d) (hdd : d < 2147483648) (k : V p l E R s m args below meth c G A nL Q N ad ev cells slots (pc + 1) lv (.int (iI ((a / d : Nat) : Int)) :: st)) : V p l E R s m args below meth c G A nL Q N ad ev cells slots pc lv (.int (iI (d : Int)) :: .int (iI (a : Int)) :: st) := fun H locs ls hP hD hS hl => lv_idiv C.1 C.2.1 hd (by rw [← iI_nI]; exact nI_ne0 h0 hdd) (by rw [← iI_nI, ← iI_nI]; show W p l E R s m args below meth c H locs cells slots Q (F0 m (pc + 1) ls (.int (nI a / nI d) :: st)); rw [pk_div ha h0 hdd]; show W p l E R s m args below meth c H locs cells slots Q (F0 m (pc + 1) ls (.int (Int32.ofNat (a / d)) :: st)); rw [iI_nI]; exact k H locs ls hP hD hS hl)
theorem n_pop (C : Cx p s m args meth c G A nL cc own Ts) {w : Value} (hd : decode cc pc = .ok (.pop, 1)) (hw : w.category = 1) (k : V p l E R s m args below meth c G A nL Q N ad ev cells slots (pc + 1) lv st) : V p l E R s m args below meth c G A nL Q N ad ev cells slots pc lv (w :: st) := fun H locs ls hP hD hS hl => lv_pop C.1 C.2.1 hd hw (k H locs ls hP hD hS hl)
theorem n_i2s (C : Cx p s m args meth c G A nL cc own Ts) {z : Int} (hd : decode cc pc = .ok (.i2s, 1)) (h1 : -32768 ≤ z) (h2 : z < 32768) (k : V p l E R s m args below meth c G A nL Q N ad ev cells slots (pc + 1) lv (.int (iI z) :: st)) : V p l E R s m args below meth c G A nL Q N ad ev cells slots pc lv (.int (iI z) :: st) := fun H locs ls hP hD hS hl => lv_i2s C.1 C.2.1 hd (iI_i16 h1 h2) (k H locs ls hP hD hS hl)
theorem n_i2sR (C : Cx p s m args meth c G A nL cc own Ts) {x : Int32} (hd : decode cc pc = .ok (.i2s, 1)) (k : V p l E R s m args below meth c G A nL Q N ad ev cells slots (pc + 1) lv (.int x.toInt16.toInt32 :: st)) : V p l E R s m args below meth c G A nL Q N ad ev cells slots pc lv (.int x :: st) := fun H locs ls hP hD hS hl => lv_i2s C.1 C.2.1 hd rfl (k H locs ls hP hD hS hl)
theorem n_goto (C : Cx p s m args meth c G A nL cc own Ts) {off : Int} {tgt : Nat} (hd : decode cc pc = .ok (.goto off, 3)) (ht : (pc : Int) + off = (tgt : Int)) (k : V p l E R s m args below meth c G A nL Q N ad ev cells slots tgt lv st) : V p l E R s m args below meth c G A nL Q N ad ev cells slots pc lv st := fun H locs ls hP hD hS hl => lv_goto C.1 C.2.1 hd ht (k H locs ls hP hD hS hl)
theorem n_icmp_eq (C : Cx p s m args meth c G A nL cc own Ts) {a b : Int} {off : Int} {tgt : Nat} (hd : decode cc pc = .ok (.if_icmp .eq off, 3)) (ht : (pc : Int) + off = (tgt : Int)) (h1 : -2147483648 ≤ a) (h2 : a < 2147483648) (h3 : -2147483648 ≤ b) (h4 : b < 2147483648)
    (kt : a = b → V p l E R s m args below meth c G A nL Q N ad ev cells slots tgt lv st) (kf : a ≠ b → V p l E R s m args below meth c G A nL Q N ad ev cells slots (pc + 3) lv st) : V p l E R s m args below meth c G A nL Q N ad ev cells slots pc lv (.int (iI b) :: .int (iI a) :: st) := by
  intro H locs ls hP hD hS hl
  refine lv_icmp_eq C.1 C.2.1 hd ht (fun h => kt ?_ H locs ls hP hD hS hl) (fun h => kf ?_ H locs ls hP hD hS hl)
  · have e1 := iI_lt h1 h2 h3 h4; have e2 := iI_le h1 h2 h3 h4; have e3 := iI_inj h1 h2 h3 h4; have e4 := iI_lt h3 h4 h1 h2; have e5 := iI_le h3 h4 h1 h2
    simp only [e1, e2, e3, e4, e5, ne_eq] at h
    omega
  · have e1 := iI_lt h1 h2 h3 h4; have e2 := iI_le h1 h2 h3 h4; have e3 := iI_inj h1 h2 h3 h4; have e4 := iI_lt h3 h4 h1 h2; have e5 := iI_le h3 h4 h1 h2
    simp only [e1, e2, e3, e4, e5, ne_eq] at h
    omega
theorem n_if_eq (C : Cx p s m args meth c G A nL cc own Ts) {a : Int} {off : Int} {tgt : Nat} (hd : decode cc pc = .ok (.ifCond .eq off, 3)) (ht : (pc : Int) + off = (tgt : Int)) (h1 : -2147483648 ≤ a) (h2 : a < 2147483648)
    (kt : a = 0 → V p l E R s m args below meth c G A nL Q N ad ev cells slots tgt lv st) (kf : a ≠ 0 → V p l E R s m args below meth c G A nL Q N ad ev cells slots (pc + 3) lv st) : V p l E R s m args below meth c G A nL Q N ad ev cells slots pc lv (.int (iI a) :: st) := by
  intro H locs ls hP hD hS hl
  refine lv_if_eq C.1 C.2.1 hd ht (fun h => kt ?_ H locs ls hP hD hS hl) (fun h => kf ?_ H locs ls hP hD hS hl)
  · have e1 := iI_lt h1 h2 (b := 0) (by omega) (by omega); have e2 := iI_le h1 h2 (b := 0) (by omega) (by omega); have e3 := iI_inj h1 h2 (b := 0) (by omega) (by omega); have e4 := iI_lt (a := 0) (by omega) (by omega) h1 h2; have e5 := iI_le (a := 0) (by omega) (by omega) h1 h2
    simp only [iI_0, e1, e2, e3, e4, e5, ne_eq] at h
    omega
  · have e1 := iI_lt h1 h2 (b := 0) (by omega) (by omega); have e2 := iI_le h1 h2 (b := 0) (by omega) (by omega); have e3 := iI_inj h1 h2 (b := 0) (by omega) (by omega); have e4 := iI_lt (a := 0) (by omega) (by omega) h1 h2; have e5 := iI_le (a := 0) (by omega) (by omega) h1 h2
    simp only [iI_0, e1, e2, e3, e4, e5, ne_eq] at h
    omega
theorem n_icmp_ne (C : Cx p s m args meth c G A nL cc own Ts) {a b : Int} {off : Int} {tgt : Nat} (hd : decode cc pc = .ok (.if_icmp .ne off, 3)) (ht : (pc : Int) + off = (tgt : Int)) (h1 : -2147483648 ≤ a) (h2 : a < 2147483648) (h3 : -2147483648 ≤ b) (h4 : b < 2147483648)
    (kt : a ≠ b → V p l E R s m args below meth c G A nL Q N ad ev cells slots tgt lv st) (kf : a = b → V p l E R s m args below meth c G A nL Q N ad ev cells slots (pc + 3) lv st) : V p l E R s m args below meth c G A nL Q N ad ev cells slots pc lv (.int (iI b) :: .int (iI a) :: st) := by
  intro H locs ls hP hD hS hl
  refine lv_icmp_ne C.1 C.2.1 hd ht (fun h => kt ?_ H locs ls hP hD hS hl) (fun h => kf ?_ H locs ls hP hD hS hl)
  · have e1 := iI_lt h1 h2 h3 h4; have e2 := iI_le h1 h2 h3 h4; have e3 := iI_inj h1 h2 h3 h4; have e4 := iI_lt h3 h4 h1 h2; have e5 := iI_le h3 h4 h1 h2
    simp only [e1, e2, e3, e4, e5, ne_eq] at h
    omega
  · have e1 := iI_lt h1 h2 h3 h4; have e2 := iI_le h1 h2 h3 h4; have e3 := iI_inj h1 h2 h3 h4; have e4 := iI_lt h3 h4 h1 h2; have e5 := iI_le h3 h4 h1 h2
    simp only [e1, e2, e3, e4, e5, ne_eq] at h
    omega
theorem n_if_ne (C : Cx p s m args meth c G A nL cc own Ts) {a : Int} {off : Int} {tgt : Nat} (hd : decode cc pc = .ok (.ifCond .ne off, 3)) (ht : (pc : Int) + off = (tgt : Int)) (h1 : -2147483648 ≤ a) (h2 : a < 2147483648)
    (kt : a ≠ 0 → V p l E R s m args below meth c G A nL Q N ad ev cells slots tgt lv st) (kf : a = 0 → V p l E R s m args below meth c G A nL Q N ad ev cells slots (pc + 3) lv st) : V p l E R s m args below meth c G A nL Q N ad ev cells slots pc lv (.int (iI a) :: st) := by
  intro H locs ls hP hD hS hl
  refine lv_if_ne C.1 C.2.1 hd ht (fun h => kt ?_ H locs ls hP hD hS hl) (fun h => kf ?_ H locs ls hP hD hS hl)
  · have e1 := iI_lt h1 h2 (b := 0) (by omega) (by omega); have e2 := iI_le h1 h2 (b := 0) (by omega) (by omega); have e3 := iI_inj h1 h2 (b := 0) (by omega) (by omega); have e4 := iI_lt (a := 0) (by omega) (by omega) h1 h2; have e5 := iI_le (a := 0) (by omega) (by omega) h1 h2
    simp only [iI_0, e1, e2, e3, e4, e5, ne_eq] at h
    omega
  · have e1 := iI_lt h1 h2 (b := 0) (by omega) (by omega); have e2 := iI_le h1 h2 (b := 0) (by omega) (by omega); have e3 := iI_inj h1 h2 (b := 0) (by omega) (by omega); have e4 := iI_lt (a := 0) (by omega) (by omega) h1 h2; have e5 := iI_le (a := 0) (by omega) (by omega) h1 h2
    simp only [iI_0, e1, e2, e3, e4, e5, ne_eq] at h
    omega
theorem n_icmp_lt (C : Cx p s m args meth c G A nL cc own Ts) {a b : Int} {off : Int} {tgt : Nat} (hd : decode cc pc = .ok (.if_icmp .lt off, 3)) (ht : (pc : Int) + off = (tgt : Int)) (h1 : -2147483648 ≤ a) (h2 : a < 2147483648) (h3 : -2147483648 ≤ b) (h4 : b < 2147483648)
    (kt : a < b → V p l E R s m args below meth c G A nL Q N ad ev cells slots tgt lv st) (kf : a ≥ b → V p l E R s m args below meth c G A nL Q N ad ev cells slots (pc + 3) lv st) : V p l E R s m args below meth c G A nL Q N ad ev cells slots pc lv (.int (iI b) :: .int (iI a) :: st) := by
  intro H locs ls hP hD hS hl
  refine lv_icmp_lt C.1 C.2.1 hd ht (fun h => kt ?_ H locs ls hP hD hS hl) (fun h => kf ?_ H locs ls hP hD hS hl)
  · have e1 := iI_lt h1 h2 h3 h4; have e2 := iI_le h1 h2 h3 h4; have e3 := iI_inj h1 h2 h3 h4; have e4 := iI_lt h3 h4 h1 h2; have e5 := iI_le h3 h4 h1 h2
    simp only [e1, e2, e3, e4, e5, ne_eq] at h
    omega
  · have e1 := iI_lt h1 h2 h3 h4; have e2 := iI_le h1 h2 h3 h4; have e3 := iI_inj h1 h2 h3 h4; have e4 := iI_lt h3 h4 h1 h2; have e5 := iI_le h3 h4 h1 h2
    simp only [e1, e2, e3, e4, e5, ne_eq] at h
    omega
theorem n_if_lt (C : Cx p s m args meth c G A nL cc own Ts) {a : Int} {off : Int} {tgt : Nat} (hd : decode cc pc = .ok (.ifCond .lt off, 3)) (ht : (pc : Int) + off = (tgt : Int)) (h1 : -2147483648 ≤ a) (h2 : a < 2147483648)
    (kt : a < 0 → V p l E R s m args below meth c G A nL Q N ad ev cells slots tgt lv st) (kf : a ≥ 0 → V p l E R s m args below meth c G A nL Q N ad ev cells slots (pc + 3) lv st) : V p l E R s m args below meth c G A nL Q N ad ev cells slots pc lv (.int (iI a) :: st) := by
  intro H locs ls hP hD hS hl
  refine lv_if_lt C.1 C.2.1 hd ht (fun h => kt ?_ H locs ls hP hD hS hl) (fun h => kf ?_ H locs ls hP hD hS hl)
  · have e1 := iI_lt h1 h2 (b := 0) (by omega) (by omega); have e2 := iI_le h1 h2 (b := 0) (by omega) (by omega); have e3 := iI_inj h1 h2 (b := 0) (by omega) (by omega); have e4 := iI_lt (a := 0) (by omega) (by omega) h1 h2; have e5 := iI_le (a := 0) (by omega) (by omega) h1 h2
    simp only [iI_0, e1, e2, e3, e4, e5, ne_eq] at h
    omega
  · have e1 := iI_lt h1 h2 (b := 0) (by omega) (by omega); have e2 := iI_le h1 h2 (b := 0) (by omega) (by omega); have e3 := iI_inj h1 h2 (b := 0) (by omega) (by omega); have e4 := iI_lt (a := 0) (by omega) (by omega) h1 h2; have e5 := iI_le (a := 0) (by omega) (by omega) h1 h2
    simp only [iI_0, e1, e2, e3, e4, e5, ne_eq] at h
    omega
theorem n_icmp_ge (C : Cx p s m args meth c G A nL cc own Ts) {a b : Int} {off : Int} {tgt : Nat} (hd : decode cc pc = .ok (.if_icmp .ge off, 3)) (ht : (pc : Int) + off = (tgt : Int)) (h1 : -2147483648 ≤ a) (h2 : a < 2147483648) (h3 : -2147483648 ≤ b) (h4 : b < 2147483648)
    (kt : a ≥ b → V p l E R s m args below meth c G A nL Q N ad ev cells slots tgt lv st) (kf : a < b → V p l E R s m args below meth c G A nL Q N ad ev cells slots (pc + 3) lv st) : V p l E R s m args below meth c G A nL Q N ad ev cells slots pc lv (.int (iI b) :: .int (iI a) :: st) := by
  intro H locs ls hP hD hS hl
  refine lv_icmp_ge C.1 C.2.1 hd ht (fun h => kt ?_ H locs ls hP hD hS hl) (fun h => kf ?_ H locs ls hP hD hS hl)
  · have e1 := iI_lt h1 h2 h3 h4; have e2 := iI_le h1 h2 h3 h4; have e3 := iI_inj h1 h2 h3 h4; have e4 := iI_lt h3 h4 h1 h2; have e5 := iI_le h3 h4 h1 h2
    simp only [e1, e2, e3, e4, e5, ne_eq] at h
    omega
  · have e1 := iI_lt h1 h2 h3 h4; have e2 := iI_le h1 h2 h3 h4; have e3 := iI_inj h1 h2 h3 h4; have e4 := iI_lt h3 h4 h1 h2; have e5 := iI_le h3 h4 h1 h2
    simp only [e1, e2, e3, e4, e5, ne_eq] at h
    omega
theorem n_if_ge (C : Cx p s m args meth c G A nL cc own Ts) {a : Int} {off : Int} {tgt : Nat} (hd : decode cc pc = .ok (.ifCond .ge off, 3)) (ht : (pc : Int) + off = (tgt : Int)) (h1 : -2147483648 ≤ a) (h2 : a < 2147483648)
    (kt : a ≥ 0 → V p l E R s m args below meth c G A nL Q N ad ev cells slots tgt lv st) (kf : a < 0 → V p l E R s m args below meth c G A nL Q N ad ev cells slots (pc + 3) lv st) : V p l E R s m args below meth c G A nL Q N ad ev cells slots pc lv (.int (iI a) :: st) := by
  intro H locs ls hP hD hS hl
  refine lv_if_ge C.1 C.2.1 hd ht (fun h => kt ?_ H locs ls hP hD hS hl) (fun h => kf ?_ H locs ls hP hD hS hl)
  · have e1 := iI_lt h1 h2 (b := 0) (by omega) (by omega); have e2 := iI_le h1 h2 (b := 0) (by omega) (by omega); have e3 := iI_inj h1 h2 (b := 0) (by omega) (by omega); have e4 := iI_lt (a := 0) (by omega) (by omega) h1 h2; have e5 := iI_le (a := 0) (by omega) (by omega) h1 h2
    simp only [iI_0, e1, e2, e3, e4, e5, ne_eq] at h
    omega
  · have e1 := iI_lt h1 h2 (b := 0) (by omega) (by omega); have e2 := iI_le h1 h2 (b := 0) (by omega) (by omega); have e3 := iI_inj h1 h2 (b := 0) (by omega) (by omega); have e4 := iI_lt (a := 0) (by omega) (by omega) h1 h2; have e5 := iI_le (a := 0) (by omega) (by omega) h1 h2
    simp only [iI_0, e1, e2, e3, e4, e5, ne_eq] at h
    omega
theorem n_icmp_gt (C : Cx p s m args meth c G A nL cc own Ts) {a b : Int} {off : Int} {tgt : Nat} (hd : decode cc pc = .ok (.if_icmp .gt off, 3)) (ht : (pc : Int) + off = (tgt : Int)) (h1 : -2147483648 ≤ a) (h2 : a < 2147483648) (h3 : -2147483648 ≤ b) (h4 : b < 2147483648)
    (kt : a > b → V p l E R s m args below meth c G A nL Q N ad ev cells slots tgt lv st) (kf : a ≤ b → V p l E R s m args below meth c G A nL Q N ad ev cells slots (pc + 3) lv st) : V p l E R s m args below meth c G A nL Q N ad ev cells slots pc lv (.int (iI b) :: .int (iI a) :: st) := by
  intro H locs ls hP hD hS hl
  refine lv_icmp_gt C.1 C.2.1 hd ht (fun h => kt ?_ H locs ls hP hD hS hl) (fun h => kf ?_ H locs ls hP hD hS hl)
  · have e1 := iI_lt h1 h2 h3 h4; have e2 := iI_le h1 h2 h3 h4; have e3 := iI_inj h1 h2 h3 h4; have e4 := iI_lt h3 h4 h1 h2; have e5 := iI_le h3 h4 h1 h2
    simp only [e1, e2, e3, e4, e5, ne_eq] at h
    omega
  · have e1 := iI_lt h1 h2 h3 h4; have e2 := iI_le h1 h2 h3 h4; have e3 := iI_inj h1 h2 h3 h4; have e4 := iI_lt h3 h4 h1 h2; have e5 := iI_le h3 h4 h1 h2
    simp only [e1, e2, e3, e4, e5, ne_eq] at h
    omega
theorem n_if_gt (C : Cx p s m args meth c G A nL cc own Ts) {a : Int} {off : Int} {tgt : Nat} (hd : decode cc pc = .ok (.ifCond .gt off, 3)) (ht : (pc : Int) + off = (tgt : Int)) (h1 : -2147483648 ≤ a) (h2 : a < 2147483648)
    (kt : a > 0 → V p l E R s m args below meth c G A nL Q N ad ev cells slots tgt lv st) (kf : a ≤ 0 → V p l E R s m args below meth c G A nL Q N ad ev cells slots (pc + 3) lv st) : V p l E R s m args below meth c G A nL Q N ad ev cells slots pc lv (.int (iI a) :: st) := by
  intro H locs ls hP hD hS hl
  refine lv_if_gt C.1 C.2.1 hd ht (fun h => kt ?_ H locs ls hP hD hS hl) (fun h => kf ?_ H locs ls hP hD hS hl)
  · have e1 := iI_lt h1 h2 (b := 0) (by omega) (by omega); have e2 := iI_le h1 h2 (b := 0) (by omega) (by omega); have e3 := iI_inj h1 h2 (b := 0) (by omega) (by omega); have e4 := iI_lt (a := 0) (by omega) (by omega) h1 h2; have e5 := iI_le (a := 0) (by omega) (by omega) h1 h2
    simp only [iI_0, e1, e2, e3, e4, e5, ne_eq] at h
    omega
  · have e1 := iI_lt h1 h2 (b := 0) (by omega) (by omega); have e2 := iI_le h1 h2 (b := 0) (by omega) (by omega); have e3 := iI_inj h1 h2 (b := 0) (by omega) (by omega); have e4 := iI_lt (a := 0) (by omega) (by omega) h1 h2; have e5 := iI_le (a := 0) (by omega) (by omega) h1 h2
    simp only [iI_0, e1, e2, e3, e4, e5, ne_eq] at h
    omega
theorem n_icmp_le (C : Cx p s m args meth c G A nL cc own Ts) {a b : Int} {off : Int} {tgt : Nat} (hd : decode cc pc = .ok (.if_icmp .le off, 3)) (ht : (pc : Int) + off = (tgt : Int)) (h1 : -2147483648 ≤ a) (h2 : a < 2147483648) (h3 : -2147483648 ≤ b) (h4 : b < 2147483648)
    (kt : a ≤ b → V p l E R s m args below meth c G A nL Q N ad ev cells slots tgt lv st) (kf : a > b → V p l E R s m args below meth c G A nL Q N ad ev cells slots (pc + 3) lv st) : V p l E R s m args below meth c G A nL Q N ad ev cells slots pc lv (.int (iI b) :: .int (iI a) :: st) := by
  intro H locs ls hP hD hS hl
  refine lv_icmp_le C.1 C.2.1 hd ht (fun h => kt ?_ H locs ls hP hD hS hl) (fun h => kf ?_ H locs ls hP hD hS hl)
  · have e1 := iI_lt h1 h2 h3 h4; have e2 := iI_le h1 h2 h3 h4; have e3 := iI_inj h1 h2 h3 h4; have e4 := iI_lt h3 h4 h1 h2; have e5 := iI_le h3 h4 h1 h2
    simp only [e1, e2, e3, e4, e5, ne_eq] at h
    omega
  · have e1 := iI_lt h1 h2 h3 h4; have e2 := iI_le h1 h2 h3 h4; have e3 := iI_inj h1 h2 h3 h4; have e4 := iI_lt h3 h4 h1 h2; have e5 := iI_le h3 h4 h1 h2
    simp only [e1, e2, e3, e4, e5, ne_eq] at h
    omega
theorem n_if_le (C : Cx p s m args meth c G A nL cc own Ts) {a : Int} {off : Int} {tgt : Nat} (hd : decode cc pc = .ok (.ifCond .le off, 3)) (ht : (pc : Int) + off = (tgt : Int)) (h1 : -2147483648 ≤ a) (h2 : a < 2147483648)
    (kt : a ≤ 0 → V p l E R s m args below meth c G A nL Q N ad ev cells slots tgt lv st) (kf : a > 0 → V p l E R s m args below meth c G A nL Q N ad ev cells slots (pc + 3) lv st) : V p l E R s m args below meth c G A nL Q N ad ev cells slots pc lv (.int (iI a) :: st) := by
  intro H locs ls hP hD hS hl
  refine lv_if_le C.1 C.2.1 hd ht (fun h => kt ?_ H locs ls hP hD hS hl) (fun h => kf ?_ H locs ls hP hD hS hl)
  · have e1 := iI_lt h1 h2 (b := 0) (by omega) (by omega); have e2 := iI_le h1 h2 (b := 0) (by omega) (by omega); have e3 := iI_inj h1 h2 (b := 0) (by omega) (by omega); have e4 := iI_lt (a := 0) (by omega) (by omega) h1 h2; have e5 := iI_le (a := 0) (by omega) (by omega) h1 h2
    simp only [iI_0, e1, e2, e3, e4, e5, ne_eq] at h
    omega
  · have e1 := iI_lt h1 h2 (b := 0) (by omega) (by omega); have e2 := iI_le h1 h2 (b := 0) (by omega) (by omega); have e3 := iI_inj h1 h2 (b := 0) (by omega) (by omega); have e4 := iI_lt (a := 0) (by omega) (by omega) h1 h2; have e5 := iI_le (a := 0) (by omega) (by omega) h1 h2
    simp only [iI_0, e1, e2, e3, e4, e5, ne_eq] at h
    omega
theorem n_icmp_eqR (C : Cx p s m args meth c G A nL cc own Ts) {x y : Int32} {off : Int} {tgt : Nat} (hd : decode cc pc = .ok (.if_icmp .eq off, 3)) (ht : (pc : Int) + off = (tgt : Int))
    (kt : x = y → V p l E R s m args below meth c G A nL Q N ad ev cells slots tgt lv st) (kf : x ≠ y → V p l E R s m args below meth c G A nL Q N ad ev cells slots (pc + 3) lv st) : V p l E R s m args below meth c G A nL Q N ad ev cells slots pc lv (.int y :: .int x :: st) := by
  intro H locs ls hP hD hS hl
  refine lv_icmp_eq C.1 C.2.1 hd ht (fun h => kt ?_ H locs ls hP hD hS hl) (fun h => kf ?_ H locs ls hP hD hS hl)
  · first | exact h | simpa using h
  · first | exact h | simpa using h
theorem n_icmp_neR (C : Cx p s m args meth c G A nL cc own Ts) {x y : Int32} {off : Int} {tgt : Nat} (hd : decode cc pc = .ok (.if_icmp .ne off, 3)) (ht : (pc : Int) + off = (tgt : Int))
    (kt : x ≠ y → V p l E R s m args below meth c G A nL Q N ad ev cells slots tgt lv st) (kf : x = y → V p l E R s m args below meth c G A nL Q N ad ev cells slots (pc + 3) lv st) : V p l E R s m args below meth c G A nL Q N ad ev cells slots pc lv (.int y :: .int x :: st) := by
  intro H locs ls hP hD hS hl
  refine lv_icmp_ne C.1 C.2.1 hd ht (fun h => kt ?_ H locs ls hP hD hS hl) (fun h => kf ?_ H locs ls hP hD hS hl)
  · first | exact h | simpa using h
  · first | exact h | simpa using h
theorem n_if_eqR (C : Cx p s m args meth c G A nL cc own Ts) {x : Int32} {off : Int} {tgt : Nat} (hd : decode cc pc = .ok (.ifCond .eq off, 3)) (ht : (pc : Int) + off = (tgt : Int))
    (kt : x = iI 0 → V p l E R s m args below meth c G A nL Q N ad ev cells slots tgt lv st) (kf : x ≠ iI 0 → V p l E R s m args below meth c G A nL Q N ad ev cells slots (pc + 3) lv st) : V p l E R s m args below meth c G A nL Q N ad ev cells slots pc lv (.int x :: st) := by
  intro H locs ls hP hD hS hl
  refine lv_if_eq C.1 C.2.1 hd ht (fun h => kt ?_ H locs ls hP hD hS hl) (fun h => kf ?_ H locs ls hP hD hS hl)
  · first | exact h | (rw [iI_0] at h; simpa using h)
  · first | exact h | (rw [iI_0] at h; simpa using h)
theorem n_if_neR (C : Cx p s m args meth c G A nL cc own Ts) {x : Int32} {off : Int} {tgt : Nat} (hd : decode cc pc = .ok (.ifCond .ne off, 3)) (ht : (pc : Int) + off = (tgt : Int))
    (kt : x ≠ iI 0 → V p l E R s m args below meth c G A nL Q N ad ev cells slots tgt lv st) (kf : x = iI 0 → V p l E R s m args below meth c G A nL Q N ad ev cells slots (pc + 3) lv st) : V p l E R s m args below meth c G A nL Q N ad ev cells slots pc lv (.int x :: st) := by
  intro H locs ls hP hD hS hl
  refine lv_if_ne C.1 C.2.1 hd ht (fun h => kt ?_ H locs ls hP hD hS hl) (fun h => kf ?_ H locs ls hP hD hS hl)
  · first | exact h | (rw [iI_0] at h; simpa using h)
  · first | exact h | (rw [iI_0] at h; simpa using h)
def bI (b : Bool) : Int32 := if b then 1 else 0
theorem bI_1 : bI true = iI 1 := rfl
theorem bI_0 : bI false = iI 0 := rfl
theorem n_if_eqB (C : Cx p s m args meth c G A nL cc own Ts) {b : Bool} {off : Int} {tgt : Nat} (hd : decode cc pc = .ok (.ifCond .eq off, 3)) (ht : (pc : Int) + off = (tgt : Int))
    (kt : b = false → V p l E R s m args below meth c G A nL Q N ad ev cells slots tgt lv st) (kf : b = true → V p l E R s m args below meth c G A nL Q N ad ev cells slots (pc + 3) lv st) : V p l E R s m args below meth c G A nL Q N ad ev cells slots pc lv (.int (bI b) :: st) := by
  intro H locs ls hP hD hS hl
  refine lv_if_eq C.1 C.2.1 hd ht (fun h => kt ?_ H locs ls hP hD hS hl) (fun h => kf ?_ H locs ls hP hD hS hl)
  · cases b <;> simp [bI] at h ⊢
  · cases b <;> simp [bI] at h ⊢
theorem n_if_neB (C : Cx p s m args meth c G A nL cc own Ts) {b : Bool} {off : Int} {tgt : Nat} (hd : decode cc pc = .ok (.ifCond .ne off, 3)) (ht : (pc : Int) + off = (tgt : Int))
    (kt : b = true → V p l E R s m args below meth c G A nL Q N ad ev cells slots tgt lv st) (kf : b = false → V p l E R s m args below meth c G A nL Q N ad ev cells slots (pc + 3) lv st) : V p l E R s m args below meth c G A nL Q N ad ev cells slots pc lv (.int (bI b) :: st) := by
  intro H locs ls hP hD hS hl
  refine lv_if_ne C.1 C.2.1 hd ht (fun h => kt ?_ H locs ls hP hD hS hl) (fun h => kf ?_ H locs ls hP hD hS hl)
  · cases b <;> simp [bI] at h ⊢
  · cases b <;> simp [bI] at h ⊢
theorem n_top {w w2 : Value} (h : w = w2) (k : V p l E R s m args below meth c G A nL Q N ad ev cells slots pc lv (w2 :: st)) : V p l E R s m args below meth c G A nL Q N ad ev cells slots pc lv (w :: st) := by subst h; exact k
theorem n_topI {x y : Int32} (h : x = y) (k : V p l E R s m args below meth c G A nL Q N ad ev cells slots pc lv (.int y :: st)) : V p l E R s m args below meth c G A nL Q N ad ev cells slots pc lv (.int x :: st) := by subst h; exact k
theorem n_st {st2 : List Value} (h : st = st2) (k : V p l E R s m args below meth c G A nL Q N ad ev cells slots pc lv st2) : V p l E R s m args below meth c G A nL Q N ad ev cells slots pc lv st := by subst h; exact k
theorem n_pc {pc2 : Nat} (h : pc = pc2) (k : V p l E R s m args below meth c G A nL Q N ad ev cells slots pc2 lv st) : V p l E R s m args below meth c G A nL Q N ad ev cells slots pc lv st := by subst h; exact k
theorem n_lv {lv2 : List (Nat × Value)} (h : lv = lv2) (k : V p l E R s m args below meth c G A nL Q N ad ev cells slots pc lv2 st) : V p l E R s m args below meth c G A nL Q N ad ev cells slots pc lv st := by subst h; exact k
theorem n_ev {e2 : Nat → va_E} (h : ev = e2) (k : V p l E R s m args below meth c G A nL Q N ad e2 cells slots pc lv st) : V p l E R s m args below meth c G A nL Q N ad ev cells slots pc lv st := by subst h; exact k
theorem n_sub {lv2 : List (Nat × Value)} (ks : List Nat) (h : lv_pick lv ks = lv2) (k : V p l E R s m args below meth c G A nL Q N ad ev cells slots pc lv2 st) : V p l E R s m args below meth c G A nL Q N ad ev cells slots pc lv st := fun H locs ls hP hD hS hl => k H locs ls hP hD hS (lv_sub hl ks h)
theorem n_widen {c2 s2 : Nat} (h1 : cells ≤ c2) (h2 : slots ≤ s2) (k : V p l E R s m args below meth c G A nL Q N ad ev c2 s2 pc lv st) : V p l E R s m args below meth c G A nL Q N ad ev cells slots pc lv st := fun H locs ls hP hD hS hl => W.widen h1 h2 (k H locs ls hP hD hS hl)
theorem n_tswIn (C : Cx p s m args meth c G A nL cc own Ts) {z dflt lo hi off : Int} {offs : Array Int} {len tgt : Nat} (hd : decode cc pc = .ok (.tableswitch dflt lo hi offs, len)) (h1 : -2147483648 ≤ z) (h2 : z < 2147483648) (hlo : lo ≤ z) (hhi : z ≤ hi) (ho : offs[(z - lo).toNat]? = some off) (ht : (pc : Int) + off = (tgt : Int)) (k : V p l E R s m args below meth c G A nL Q N ad ev cells slots tgt lv st) : V p l E R s m args below meth c G A nL Q N ad ev cells slots pc lv (.int (iI z) :: st) :=
  fun H locs ls hP hD hS hl => lv_tableIn C.1 C.2.1 hd (by rw [iI_toInt h1 h2]; omega) (by rw [iI_toInt h1 h2]; omega) (by rw [iI_toInt h1 h2]; exact ho) ht (k H locs ls hP hD hS hl)
theorem n_tswOut (C : Cx p s m args meth c G A nL cc own Ts) {z dflt lo hi : Int} {offs : Array Int} {len tgt : Nat} (hd : decode cc pc = .ok (.tableswitch dflt lo hi offs, len)) (h1 : -2147483648 ≤ z) (h2 : z < 2147483648) (ho : z < lo ∨ hi < z) (ht : (pc : Int) + dflt = (tgt : Int)) (k : V p l E R s m args below meth c G A nL Q N ad ev cells slots tgt lv st) : V p l E R s m args below meth c G A nL Q N ad ev cells slots pc lv (.int (iI z) :: st) :=
  fun H locs ls hP hD hS hl => lv_tableOut C.1 C.2.1 hd (by rw [iI_toInt h1 h2]; exact ho) ht (k H locs ls hP hD hS hl)
theorem n_ldcf (C : Cx p s m args meth c G A nL cc own Ts) {idx : Nat} {x : UInt32} (hd : decode cc pc = .ok (.ldc idx, 2)) (hc : Cond.constantFloat own idx x ∈ Ts) (k : V p l E R s m args below meth c G A nL Q N ad ev cells slots (pc + 2) lv (.float x :: st)) : V p l E R s m args below meth c G A nL Q N ad ev cells slots pc lv st := fun H locs ls hP hD hS hl => lv_ldcf C.1 C.2.1 C.2.2.2.1 (C.2.2.2.2.1 _ hc) hd (k H locs ls hP hD hS hl)
theorem n_fconst1 (C : Cx p s m args meth c G A nL cc own Ts) (hd : decode cc pc = .ok (.fconst 1, 1)) (k : V p l E R s m args below meth c G A nL Q N ad ev cells slots (pc + 1) lv (.float FP.fconst1 :: st)) : V p l E R s m args below meth c G A nL Q N ad ev cells slots pc lv st := fun H locs ls hP hD hS hl => lv_fconst1 C.1 C.2.1 hd (k H locs ls hP hD hS hl)
theorem n_i2f (C : Cx p s m args meth c G A nL cc own Ts) {x : Int32} (hd : decode cc pc = .ok (.i2f, 1)) (k : V p l E R s m args below meth c G A nL Q N ad ev cells slots (pc + 1) lv (.float (FP.i2f x) :: st)) : V p l E R s m args below meth c G A nL Q N ad ev cells slots pc lv (.int x :: st) := fun H locs ls hP hD hS hl => lv_i2f C.1 C.2.1 hd (k H locs ls hP hD hS hl)
theorem n_fdiv (C : Cx p s m args meth c G A nL cc own Ts) {x y : UInt32} (hd : decode cc pc = .ok (.fdiv, 1)) (hne : vf_n32 (FP.fdiv x y)) (k : V p l E R s m args below meth c G A nL Q N ad ev cells slots (pc + 1) lv (.float (FP.fdiv x y) :: st)) : V p l E R s m args below meth c G A nL Q N ad ev cells slots pc lv (.float y :: .float x :: st) := fun H locs ls hP hD hS hl => lv_fdiv C.1 C.2.1 hd hne (k H locs ls hP hD hS hl)
theorem n_f2d (C : Cx p s m args meth c G A nL cc own Ts) {x : UInt32} (hd : decode cc pc = .ok (.f2d, 1)) (hne : vf_n64 (FP.f2d x)) (k : V p l E R s m args below meth c G A nL Q N ad ev cells slots (pc + 1) lv (.double (FP.f2d x) :: st)) : V p l E R s m args below meth c G A nL Q N ad ev cells slots pc lv (.float x :: st) := fun H locs ls hP hD hS hl => lv_f2d C.1 C.2.1 hd hne (k H locs ls hP hD hS hl)
theorem n_get (C : Cx p s m args meth c G A nL cc own Ts) {i ci idx Nf k9 : Nat} {fs : List Value} {Cn : String} {T : u_T} {v : Value} (hd : decode cc pc = .ok (.getfield idx, 3)) (hi : i < N) (he : ev i = .inr (ci, fs)) (hin : ∀ w ∈ u_ws Cn T Nf, w ∈ Ts) (hc : vwCl[ci]? = some (Cn, T, Nf)) (hk : k9 < Nf)
    (hlk : Cond.fieldLink own idx (T k9).1 (T k9).2.1 (T k9).2.2.1 ∈ Ts) (hv : fs[k9]? = some v) (k : V p l E R s m args below meth c G A nL Q N ad ev cells slots (pc + 3) lv (v :: st)) : V p l E R s m args below meth c G A nL Q N ad ev cells slots pc lv (.ref (ad i) :: st) :=
  fun H locs ls hP hD hS hl => va_get C.1 C.2.1 C.2.2.2.2.1 hin C.2.2.2.1 C.2.2.2.2.2.1.1 hP i (wd_is hi he) hc k9 hk (C.2.2.2.2.1 _ hlk) (fun _ h9 => h9) hv hd (k H locs ls hP hD hS hl)
theorem n_getN (C : Cx p s m args meth c G A nL cc own Ts) {i ci idx Nf k9 : Nat} {fs : List Value} {Cn : String} {T : u_T} {v : Value} (hd : decode cc pc = .ok (.getfield idx, 3)) (hi : i < N) (he : ev i = .inr (ci, fs)) (hin : ∀ w ∈ u_ws Cn T Nf, w ∈ Ts) (hc : vwCl[ci]? = some (Cn, T, Nf)) (hk : k9 < Nf)
    (hlk : Cond.fieldLinkNest own idx (T k9).1 (T k9).2.1 (T k9).2.2.1 "DiffDesk" ∈ nW) (hv : fs[k9]? = some v) (k : V p l E R s m args below meth c G A nL Q N ad ev cells slots (pc + 3) lv (v :: st)) : V p l E R s m args below meth c G A nL Q N ad ev cells slots pc lv (.ref (ad i) :: st) :=
  fun H locs ls hP hD hS hl => va_getN C.1 C.2.1 C.2.2.2.2.1 hin C.2.2.2.1 C.2.2.2.2.2.1.1 hP i (wd_is hi he) hc k9 hk (va_Nw.use rfl (C.2.2.2.2.2.1.2 _ hlk)) (fun _ h9 => h9) hv hd (k H locs ls hP hD hS hl)
theorem n_put (C : Cx p s m args meth c G A nL cc own Ts) {i ci idx Nf k9 : Nat} {fs fs2 : List Value} {Cn : String} {T : u_T} {v : Value} {ty0 : Nat → FieldType} (hd : decode cc pc = .ok (.putfield idx, 3)) (hi : i < N) (he : ev i = .inr (ci, fs)) (hin : ∀ w ∈ u_ws Cn T Nf, w ∈ Ts) (hty : ∀ k, k < Nf → parseFieldDescriptor (T k).2.2.1 = some (ty0 k)) (hnm : ∀ a, a < Nf → ∀ b, b < Nf → a ≠ b → (T a).2.1 ≠ (T b).2.1) (hc : vwCl[ci]? = some (Cn, T, Nf)) (hk : k9 < Nf)
    (hlk : Cond.fieldLink own idx (T k9).1 (T k9).2.1 (T k9).2.2.1 ∈ Ts) (hfin : (T k9).2.2.2 = false) (hn : narrow (ty0 k9) v = v) (hfit : fits (ty0 k9) v = true) (hl : k9 < fs.length) (hfs : fs.set k9 v = fs2) (k : ∀ e1 : Nat → va_E, e1 i = .inr (ci, fs2) → (∀ j9, j9 ≠ i → e1 j9 = ev j9) → V p l E R s m args below meth c G A nL Q N ad e1 cells slots (pc + 3) lv st) : V p l E R s m args below meth c G A nL Q N ad ev cells slots pc lv (v :: .ref (ad i) :: st) := by
  intro H locs ls hP hD hS hl9
  refine va_put C.1 C.2.1 C.2.2.2.2.1 hin ty0 hty hnm C.2.2.2.1 C.2.2.2.2.2.1.1 hP hD hS i (wd_is hi he) hc k9 hk (C.2.2.2.2.1 _ hlk) (fun _ h9 => h9) hfin (hty k9 hk) hn hfit hl hd fun H1 locs1 hP1 hD1 hS1 => ?_
  rw [wd_set, hfs] at hP1 hD1
  exact k _ (va_up_self _ _ _) (fun j hj => va_up_ne _ _ hj) H1 locs1 ls hP1 hD1 hS1 hl9
theorem n_putF (C : Cx p s m args meth c G A nL cc own Ts) {i ci idx Nf k9 : Nat} {fs fs2 : List Value} {Cn : String} {T : u_T} {v : Value} {ty0 : Nat → FieldType} (hd : decode cc pc = .ok (.putfield idx, 3)) (hi : i < N) (he : ev i = .inr (ci, fs)) (hin : ∀ w ∈ u_ws Cn T Nf, w ∈ Ts) (hty : ∀ k, k < Nf → parseFieldDescriptor (T k).2.2.1 = some (ty0 k)) (hnm : ∀ a, a < Nf → ∀ b, b < Nf → a ≠ b → (T a).2.1 ≠ (T b).2.1) (hc : vwCl[ci]? = some (Cn, T, Nf)) (hk : k9 < Nf)
    (hlk : Cond.fieldLink own idx (T k9).1 (T k9).2.1 (T k9).2.2.1 ∈ Ts) (hfin : (T k9).2.2.2 = true) (hin2 : meth.name = "<init>") (hdecl : (T k9).1 = own) (hn : narrow (ty0 k9) v = v) (hfit : fits (ty0 k9) v = true) (hl : k9 < fs.length) (hfs : fs.set k9 v = fs2) (k : ∀ e1 : Nat → va_E, e1 i = .inr (ci, fs2) → (∀ j9, j9 ≠ i → e1 j9 = ev j9) → V p l E R s m args below meth c G A nL Q N ad e1 cells slots (pc + 3) lv st) : V p l E R s m args below meth c G A nL Q N ad ev cells slots pc lv (v :: .ref (ad i) :: st) := by
  intro H locs ls hP hD hS hl9
  refine va_putF C.1 C.2.1 C.2.2.2.2.1 hin ty0 hty hnm C.2.2.2.1 C.2.2.2.2.2.1.1 hP hD hS i (wd_is hi he) hc k9 hk (C.2.2.2.2.1 _ hlk) (fun _ h9 => h9) hfin hin2 hdecl (hty k9 hk) hn hfit hl hd fun H1 locs1 hP1 hD1 hS1 => ?_
  rw [wd_set, hfs] at hP1 hD1
  exact k _ (va_up_self _ _ _) (fun j hj => va_up_ne _ _ hj) H1 locs1 ls hP1 hD1 hS1 hl9
theorem n_iald (C : Cx p s m args meth c G A nL cc own Ts) {i n j : Nat} {z : Int} {f : Nat → Int32} (hd : decode cc pc = .ok (.iaload, 1)) (hi : i < N) (he : ev i = .inl (G.2.1, n, .inl f)) (hz : z = (j : Int)) (hj : j < n) (hn : n ≤ 2147483648) (k : V p l E R s m args below meth c G A nL Q N ad ev cells slots (pc + 1) lv (.int (f j) :: st)) : V p l E R s m args below meth c G A nL Q N ad ev cells slots pc lv (.int (iI z) :: .ref (ad i) :: st) := by
  intro H locs ls hP hD hS hl
  refine va_iald C.1 C.2.1 C.2.2.2.2.2.1.1 hP i 0 (wd_is hi he) rfl (iI_in hz hj hn) hd ?_
  rw [iI_clamp hz (by omega)]
  exact k H locs ls hP hD hS hl
theorem n_iast (C : Cx p s m args meth c G A nL cc own Ts) {i n j : Nat} {z : Int} {x : Int32} {f : Nat → Int32} (hd : decode cc pc = .ok (.iastore, 1)) (hi : i < N) (he : ev i = .inl (G.2.1, n, .inl f)) (hz : z = (j : Int)) (hj : j < n) (hn : n ≤ 2147483648) (k : ∀ e1 : Nat → va_E, e1 i = .inl (G.2.1, n, .inl (upd f j x)) → (∀ j9, j9 ≠ i → e1 j9 = ev j9) → V p l E R s m args below meth c G A nL Q N ad e1 cells slots (pc + 1) lv st) : V p l E R s m args below meth c G A nL Q N ad ev cells slots pc lv (.int x :: .int (iI z) :: .ref (ad i) :: st) := by
  intro H locs ls hP hD hS hl
  refine va_iast C.1 C.2.1 C.2.2.2.2.2.1.1 hP hD hS i 0 (wd_is hi he) rfl (iI_in hz hj hn) hd fun H1 locs1 hP1 hD1 hS1 => ?_
  rw [wd_set, iI_clamp hz (by omega)] at hP1 hD1
  exact k _ (va_up_self _ _ _) (fun j hj => va_up_ne _ _ hj) H1 locs1 ls hP1 hD1 hS1 hl
theorem n_alen (C : Cx p s m args meth c G A nL cc own Ts) {i : Nat} {x : vp_A} (hd : decode cc pc = .ok (.arraylength, 1)) (hi : i < N) (he : ev i = .inl (G.2.1, x)) (k : V p l E R s m args below meth c G A nL Q N ad ev cells slots (pc + 1) lv (.int (iI (x.1 : Int)) :: st)) : V p l E R s m args below meth c G A nL Q N ad ev cells slots pc lv (.ref (ad i) :: st) :=
  fun H locs ls hP hD hS hl => va_alen C.1 C.2.1 C.2.2.2.2.2.1.1 hP i 0 (wd_is hi he) rfl (iI_nI x.1) hd (k H locs ls hP hD hS hl)
theorem n_aald (C : Cx p s m args meth c G A nL cc own Ts) {i n j q : Nat} {z : Int} {g : Nat → Option Nat} (hd : decode cc pc = .ok (.aaload, 1)) (hi : i < N) (he : ev i = .inl (G.2.2.1, n, .inr (.inr (.inr (.inr g))))) (hz : z = (j : Int)) (hj : j < n) (hn : n ≤ 2147483648) (hg : g j = some q) (k : V p l E R s m args below meth c G A nL Q N ad ev cells slots (pc + 1) lv (.ref q :: st)) : V p l E R s m args below meth c G A nL Q N ad ev cells slots pc lv (.int (iI z) :: .ref (ad i) :: st) := by
  intro H locs ls hP hD hS hl
  refine va_aldq C.1 C.2.1 C.2.2.2.2.2.1.1 hP i 1 (wd_is hi he) rfl (iI_in hz hj hn) hd ?_
  rw [iI_clamp hz (by omega), hg]
  exact k H locs ls hP hD hS hl
theorem n_aaldI (C : Cx p s m args meth c G A nL cc own Ts) {i n j q : Nat} {z : Int} {g : Nat → Option Nat} (hd : decode cc pc = .ok (.aaload, 1)) (hi : i < N) (he : ev i = .inl (G.2.2.2.1, n, .inr (.inr (.inr (.inr g))))) (hz : z = (j : Int)) (hj : j < n) (hn : n ≤ 2147483648) (hg : g j = some q) (k : V p l E R s m args below meth c G A nL Q N ad ev cells slots (pc + 1) lv (.ref q :: st)) : V p l E R s m args below meth c G A nL Q N ad ev cells slots pc lv (.int (iI z) :: .ref (ad i) :: st) := by
  intro H locs ls hP hD hS hl
  have hlt : (iI z).toNatClampNeg < n := by rw [iI_clamp hz (by omega)]; exact hj
  refine W.aald (v := va_rf (g (iI z).toNatClampNeg)) (ty := .array .int) C.1 C.2.1 (hP i _ (wd_is hi he)) ((C.2.2.2.2.2.1.1.2 2 _ rfl).1 n (fun j => va_rf (g j))) rfl (fun q => by cases q) (by show ¬ (iI z < 0 ∨ (arrV _ _ _).slots.size ≤ _); rw [arrV_size]; exact iI_in hz hj hn) (by show (arrV _ _ _).slots[_]? = _; rw [arrV_read _ _ hlt]) rfl rfl hd ?_
  rw [iI_clamp hz (by omega), hg]
  exact k H locs ls hP hD hS hl
theorem n_mmin (C : Cx p s m args meth c G A nL cc own Ts) {a b : Int} {idx : Nat} (hd : decode cc pc = .ok (.invokestatic idx, 3)) (g1 : Cond.methodLink own idx Lib.Math.min.name ∈ Ts) (g2 : Cond.static Lib.Math.min.name ∈ Ts) (g3 : Cond.initialized "java/lang/Math" ∈ Ts) (g4 : Cond.code Lib.Math.min.name Lib.Math.min.code 2 (some .int) ∈ Ts)
    (hf : 1 ≤ R.frames) (hlo : (st.map fun v => v.category).sum + 13 ≤ R.locals) (hc : cells ≤ R.cells) (hs : slots ≤ R.slots) (h1 : -2147483648 ≤ a) (h2 : a < 2147483648) (h3 : -2147483648 ≤ b) (h4 : b < 2147483648) (k : V p l E R s m args below meth c G A nL Q N ad ev cells slots (pc + 3) lv (.int (iI (min a b)) :: st)) : V p l E R s m args below meth c G A nL Q N ad ev cells slots pc lv (.int (iI b) :: .int (iI a) :: st) := by
  intro H locs ls hP hD hS hl
  refine va_mmin C.1 C.2.1 (C.2.2.1.trans hl.1.symm) C.2.2.2.1 (C.2.2.2.2.1 _ g1) (C.2.2.2.2.1 _ g2) (C.2.2.2.2.1 _ g3) (C.2.2.2.2.1 _ g4) hf hlo hc hs hd ?_
  have e : (if iI b < iI a then iI b else iI a) = iI (min a b) := by
    by_cases h : iI b < iI a
    · rw [if_pos h]
      rw [iI_lt (by assumption) (by assumption) (by assumption) (by assumption)] at h
      congr 1
      omega
    · rw [if_neg h]
      rw [iI_lt (by assumption) (by assumption) (by assumption) (by assumption)] at h
      congr 1
      omega
  rw [e]
  exact k H locs ls hP hD hS hl
theorem n_mmax (C : Cx p s m args meth c G A nL cc own Ts) {a b : Int} {idx : Nat} (hd : decode cc pc = .ok (.invokestatic idx, 3)) (g1 : Cond.methodLink own idx Lib.Math.max.name ∈ Ts) (g2 : Cond.static Lib.Math.max.name ∈ Ts) (g3 : Cond.initialized "java/lang/Math" ∈ Ts) (g4 : Cond.code Lib.Math.max.name Lib.Math.max.code 2 (some .int) ∈ Ts)
    (hf : 1 ≤ R.frames) (hlo : (st.map fun v => v.category).sum + 13 ≤ R.locals) (hc : cells ≤ R.cells) (hs : slots ≤ R.slots) (h1 : -2147483648 ≤ a) (h2 : a < 2147483648) (h3 : -2147483648 ≤ b) (h4 : b < 2147483648) (k : V p l E R s m args below meth c G A nL Q N ad ev cells slots (pc + 3) lv (.int (iI (max a b)) :: st)) : V p l E R s m args below meth c G A nL Q N ad ev cells slots pc lv (.int (iI b) :: .int (iI a) :: st) := by
  intro H locs ls hP hD hS hl
  refine va_mmax C.1 C.2.1 (C.2.2.1.trans hl.1.symm) C.2.2.2.1 (C.2.2.2.2.1 _ g1) (C.2.2.2.2.1 _ g2) (C.2.2.2.2.1 _ g3) (C.2.2.2.2.1 _ g4) hf hlo hc hs hd ?_
  have e : (if iI a < iI b then iI b else iI a) = iI (max a b) := by
    by_cases h : iI a < iI b
    · rw [if_pos h]
      rw [iI_lt (by assumption) (by assumption) (by assumption) (by assumption)] at h
      congr 1
      omega
    · rw [if_neg h]
      rw [iI_lt (by assumption) (by assumption) (by assumption) (by assumption)] at h
      congr 1
      omega
  rw [e]
  exact k H locs ls hP hD hS hl
/-- a method's end: it has answered v and left the world e2 -/
def Qg (G : GG) (N : Nat) (ad : Nat → Nat) (A : Nat → Prop) (post : Option Value → (Nat → va_E) → Prop) : Array Value → State → Outcome → State → Prop := fun _ st oc t =>
  (∃ (v : Option Value) (e2 : Nat → va_E), oc = .returned v ∧ post v e2 ∧ va_P G.1 vwCl (wd N ad e2) t.heap) ∧ va_F A st t
/-- a method's contract -/
def Ct (l : Launch) (y : MethodName) (ws : List Cond) (rm : Room) (av : List Value) (G : GG) (N : Nat) (ad : Nat → Nat) (ev : Nat → va_E) (mc ms : Nat) (post : Option Value → (Nat → va_E) → Prop) : Prop :=
  ∀ sz : Nat, Met l y ws rm (va_Pc av (fun U => U.heap.size = sz ∧ va_P G.1 vwCl (wd N ad ev) U.heap ∧ KW G U ∧ nInj N ad)) (Qg G N ad (nA N ad sz) post) mc ms (nA N ad sz)
theorem n_iret (C : Cx p s m args meth c G A nL cc own Ts) {post : Option Value → (Nat → va_E) → Prop} {x : Int32} (hr : meth.sig.returnType = some .int) (hd : decode cc pc = .ok (.ireturn, 1)) (hp : post (some (.int x)) ev) : V p l E R s m args below meth c G A nL (MQ below (Qg G N ad A post) args s cells slots A) N ad ev cells slots pc lv [.int x] :=
  fun H locs ls hP hD hS hl => W.iret C.1 C.2.1 hr (fun t ht hW => ⟨⟨_, ev, rfl, hp, by rw [ht]; exact hP⟩, hS.F ht⟩) hS.2.2 hd C.2.2.2.2.2.2.2
theorem n_iretX (C : Cx p s m args meth c G A nL cc own Ts) {post : Option Value → (Nat → va_E) → Prop} {XC : String → State → State → Prop} {x : Int32} (hr : meth.sig.returnType = some .int) (hd : decode cc pc = .ok (.ireturn, 1)) (hp : post (some (.int x)) ev) : V p l E R s m args below meth c G A nL (vx_MQ below (Qg G N ad A post) XC args s cells slots A) N ad ev cells slots pc lv [.int x] :=
  fun H locs ls hP hD hS hl => vx_ret (W.iret C.1 C.2.1 hr (fun t ht hW => ⟨⟨_, ev, rfl, hp, by rw [ht]; exact hP⟩, hS.F ht⟩) hS.2.2 hd C.2.2.2.2.2.2.2)
theorem n_vret (C : Cx p s m args meth c G A nL cc own Ts) {post : Option Value → (Nat → va_E) → Prop}  (hr : meth.sig.returnType = none) (hd : decode cc pc = .ok (.return_, 1)) (hp : post (none) ev) : V p l E R s m args below meth c G A nL (MQ below (Qg G N ad A post) args s cells slots A) N ad ev cells slots pc lv [] :=
  fun H locs ls hP hD hS hl => W.vret C.1 C.2.1 hr (fun t ht hW => ⟨⟨_, ev, rfl, hp, by rw [ht]; exact hP⟩, hS.F ht⟩) hS.2.2 hd C.2.2.2.2.2.2.2
theorem n_vretX (C : Cx p s m args meth c G A nL cc own Ts) {post : Option Value → (Nat → va_E) → Prop} {XC : String → State → State → Prop}  (hr : meth.sig.returnType = none) (hd : decode cc pc = .ok (.return_, 1)) (hp : post (none) ev) : V p l E R s m args below meth c G A nL (vx_MQ below (Qg G N ad A post) XC args s cells slots A) N ad ev cells slots pc lv [] :=
  fun H locs ls hP hD hS hl => vx_ret (W.vret C.1 C.2.1 hr (fun t ht hW => ⟨⟨_, ev, rfl, hp, by rw [ht]; exact hP⟩, hS.F ht⟩) hS.2.2 hd C.2.2.2.2.2.2.2)
theorem n_fret (C : Cx p s m args meth c G A nL cc own Ts) {post : Option Value → (Nat → va_E) → Prop} {x : UInt32} (hr : meth.sig.returnType = some .float) (hd : decode cc pc = .ok (.freturn, 1)) (hp : post (some (.float x)) ev) : V p l E R s m args below meth c G A nL (MQ below (Qg G N ad A post) args s cells slots A) N ad ev cells slots pc lv [.float x] :=
  fun H locs ls hP hD hS hl => W.fret C.1 C.2.1 hr (fun t ht hW => ⟨⟨_, ev, rfl, hp, by rw [ht]; exact hP⟩, hS.F ht⟩) hS.2.2 hd C.2.2.2.2.2.2.2
theorem n_fretX (C : Cx p s m args meth c G A nL cc own Ts) {post : Option Value → (Nat → va_E) → Prop} {XC : String → State → State → Prop} {x : UInt32} (hr : meth.sig.returnType = some .float) (hd : decode cc pc = .ok (.freturn, 1)) (hp : post (some (.float x)) ev) : V p l E R s m args below meth c G A nL (vx_MQ below (Qg G N ad A post) XC args s cells slots A) N ad ev cells slots pc lv [.float x] :=
  fun H locs ls hP hD hS hl => vx_ret (W.fret C.1 C.2.1 hr (fun t ht hW => ⟨⟨_, ev, rfl, hp, by rw [ht]; exact hP⟩, hS.F ht⟩) hS.2.2 hd C.2.2.2.2.2.2.2)
theorem n_zret (C : Cx p s m args meth c G A nL cc own Ts) {post : Option Value → (Nat → va_E) → Prop} {x : Int32} {ty : FieldType} (hr : meth.sig.returnType = some ty) (hd : decode cc pc = .ok (.ireturn, 1)) (hn : narrow ty (.int x) = .int x) (hp : post (some (.int x)) ev) : V p l E R s m args below meth c G A nL (MQ below (Qg G N ad A post) args s cells slots A) N ad ev cells slots pc lv [.int x] :=
  fun H locs ls hP hD hS hl => W.zret C.1 C.2.1 hr hn (fun t ht hW => ⟨⟨_, ev, rfl, hp, by rw [ht]; exact hP⟩, hS.F ht⟩) hS.2.2 hd C.2.2.2.2.2.2.2
theorem n_pre {rest As : List Value} {H : Heap} {locs : List Loc} (C : Cx p s m args meth c G A nL cc own Ts) {av : List Value} (hP : va_P G.1 vwCl (wd N ad ev) H) (hD : va_D A (wd N ad ev)) : ∀ U : State, U.heap = H → s.WarmedH U.vm → va_Pc av (fun U => U.heap.size = H.size ∧ va_P G.1 vwCl (wd N ad ev) U.heap ∧ KW G U ∧ nInj N ad) av.toArray U :=
  fun U hU hW => ⟨rfl, by rw [hU], by rw [hU]; exact hP, C.2.2.2.2.2.1.warm hW, wd_inj hD⟩
theorem n_blind {av : List Value} {sz : Nat} : FrameBlind (va_Pc av (fun U => U.heap.size = sz ∧ va_P G.1 vwCl (wd N ad ev) U.heap ∧ KW G U ∧ nInj N ad)) :=
  fun a U g mk q => ⟨q.1, q.2.1, q.2.2.1, q.2.2.2.1.same (Vm.Alike.refl U.vm) rfl, q.2.2.2.2⟩
theorem n_nA {H : Heap} {locs : List Loc} (C : Cx p s m args meth c G A nL cc own Ts) (hD : va_D A (wd N ad ev)) (hS : va_S A s.heap H locs) : ∀ q, nA N ad H.size q → A q := by
  rintro q (⟨i, hi, rfl⟩ | h)
  · exact wd_A hD i hi
  · exact C.2.2.2.2.2.2.1 q (Nat.le_trans hS.1 h)
/-- behind a call -/
theorem n_back (C : Cx p s m args meth c G A nL cc own Ts) {mc ms : Nat} {rest : List Value} {a : Array Value} {post : Option Value → (Nat → va_E) → Prop} {H : Heap} {locs : List Loc} {ls : Array Slot} (hD : va_D A (wd N ad ev)) (hS : va_S A s.heap H locs) (hl : lv_has ls nL lv)
    (hr : va_Run p l E R s m args below meth c H locs cells slots mc ms (F0 m pc ls st) rest (Qg G N ad (nA N ad H.size) post a) (nA N ad H.size))
    (kk : ∀ (v : Option Value) (e2 : Nat → va_E), post v e2 → V p l E R s m args below meth c G A nL Q N ad e2 (cells + mc) (slots + ms) (pc + 3) lv (v.toList ++ rest)) : W p l E R s m args below meth c H locs cells slots Q (F0 m pc ls st) := by
  have hA := n_nA C hD hS
  intro T hT X
  obtain ⟨v, st₀, t, T', L, h0, X', hL, e1, e2, ⟨⟨v2, ev2, hv, hp, hb⟩, hz, hk⟩, stp⟩ := hr T hT X
  cases hv
  rw [h0] at hz hk
  obtain ⟨t2, a1, b1⟩ := kk _ ev2 hp T'.heap (locs ++ L) ls (by rw [e1]; exact hb) (wd_D2 hD)
    ⟨Nat.le_trans hS.1 (by rw [e1]; exact hz), fun q h1 h2 => by rw [e1, hk q (Nat.lt_of_lt_of_le h1 hS.1) (fun z => h2 (hA q z))]; exact hS.2.1 q h1 h2, fun q hq => by
      rcases List.mem_append.mp hq with h | h
      · exact hS.2.2 q h
      · exact hA _ (hL q h)⟩ hl T' rfl X'
  exact ⟨t2, stp t2 a1, b1⟩
theorem n_callV (C : Cx p s m args meth c G A nL cc own Ts) {y : MethodName} {bytes : ByteArray} {maxL mc ms n idx : Nat} {ret : Option FieldType} {ws : List Cond} {rm : Room} {As rest : List Value} {post : Option Value → (Nat → va_E) → Prop} {i ci Nf : Nat} {fs : List Value} {Cn : String} {T : u_T} (hd : decode cc pc = .ok (.invokevirtual idx, 3)) (hM : Ct l y ws rm (.ref (ad i) :: As) G N ad ev mc ms post) (cw : CallW R s args own Cn idx y bytes maxL ret ws rm mc ms n) (hi : i < N) (he : ev i = .inr (ci, fs)) (hc : vwCl[ci]? = some (Cn, T, Nf)) (hn : As.length = n) (hst : st = As.reverse ++ .ref (ad i) :: rest) (hrm : (rest.map fun v => v.category).sum ≤ 8) (hf : cells + mc ≤ R.cells ∧ slots + ms ≤ R.slots)
    (kk : ∀ (v : Option Value) (e2 : Nat → va_E), post v e2 → V p l E R s m args below meth c G A nL Q N ad e2 (cells + mc) (slots + ms) (pc + 3) lv (v.toList ++ rest)) : V p l E R s m args below meth c G A nL Q N ad ev cells slots pc lv st := by
  intro H locs ls hP hD hS hl
  refine n_back C hD hS hl (va_runV (As := As) (rest := rest) (b := ad i) ⟨C.1, C.2.1, C.2.2.1, C.2.2.2.1, C.2.2.2.2.1⟩ (hM H.size) cw ⟨n_blind, va_recv C.2.2.2.2.2.1.1 hP hc (wd_is hi he), n_pre (rest := []) (As := []) (locs := []) C hP hD⟩ rfl hn hl.1 hst (lv_room hrm) hd hf) kk
theorem n_callS (C : Cx p s m args meth c G A nL cc own Ts) {y : MethodName} {bytes : ByteArray} {maxL mc ms n idx : Nat} {ret : Option FieldType} {ws : List Cond} {rm : Room} {As rest : List Value} {post : Option Value → (Nat → va_E) → Prop} (hd : decode cc pc = .ok (.invokestatic idx, 3)) (hM : Ct l y ws rm As G N ad ev mc ms post) (cw : CallB R s args own idx y bytes maxL ret ws rm mc ms n ∧ (Cond.static y).before args s = true) (hn : As.length = n) (hst : st = As.reverse ++ rest) (hrm : (rest.map fun v => v.category).sum ≤ 8) (hf : cells + mc ≤ R.cells ∧ slots + ms ≤ R.slots)
    (kk : ∀ (v : Option Value) (e2 : Nat → va_E), post v e2 → V p l E R s m args below meth c G A nL Q N ad e2 (cells + mc) (slots + ms) (pc + 3) lv (v.toList ++ rest)) : V p l E R s m args below meth c G A nL Q N ad ev cells slots pc lv st := by
  intro H locs ls hP hD hS hl
  refine n_back C hD hS hl (va_runS (As := As) (rest := rest) ⟨C.1, C.2.1, C.2.2.1, C.2.2.2.1, C.2.2.2.2.1⟩ (hM H.size) cw ⟨n_blind, n_pre (rest := []) (As := []) (locs := []) C hP hD⟩ rfl hn hl.1 hst (lv_room hrm) hd hf) kk
end Rows2
/-- a contract out of its body -/
theorem Ct_of {l : Launch} {y : MethodName} {ws ws' : List Cond} {rm : Room} {av : List Value} {G : GG} {N : Nat} {ad : Nat → Nat} {ev : Nat → va_E} {mc ms : Nat} {post : Option Value → (Nat → va_E) → Prop} {cc : ByteArray} {maxL : Nat} {ret : Option FieldType} {lv : List (Nat × Value)}
    (hy : plainName y.cls = true) (hw : ws = Cond.code y cc maxL ret :: ws') (hav : (lg_sl av).length ≤ maxL) (hlv : lv_args 0 av = lv)
    (body : ∀ (p : Program) (E : Env) (s : State) (m : MethodId) (args : Array Value) (below : List Frame) (meth : Method) (c : Code) (A : Nat → Prop), Cx p s m args meth c G A maxL cc y.cls ws → meth.sig.returnType = ret → meth.name = y.name →
      V p l E rm s m args below meth c G A maxL (MQ below (Qg G N ad A post) args s mc ms A) N ad ev 0 0 0 lv []) : Ct l y ws rm av G N ad ev mc ms post := by
  intro sz
  refine Met.ofW (cc := cc) (maxL := maxL) (ret := ret) hy hw ?_
  intro p e s m args below meth c s₁ B hml hv
  obtain ⟨rfl, hsz, hP, hK, hI⟩ := hv
  subst hsz
  have hts := atoms_spec (ws := ws) B.pre
  have hin : meth.name = y.name := (name_of_methodNamed B.named B.method).1
  have hl := lv_entry av hav
  rw [lg_entry_eq]
  rw [hlv] at hl
  exact body p e s m av.toArray below meth c (nA N ad s.heap.size) ⟨B.exec, B.bytes, hml, findClass_of_methodNamed B.named, hts, hK, fun q h => Or.inr h, B.notSynchronized⟩ B.returns hin s.heap [] _ hP (wd_D hI (fun i hi => Or.inl ⟨i, hi, rfl⟩)) va_S.rf hl
