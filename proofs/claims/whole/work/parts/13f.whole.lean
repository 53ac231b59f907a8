/-! the entry: what the tables and the start say -/
theorem nW_in : ∀ w ∈ nW, w ∈ lw_tbl := by decide +kernel
theorem nW_on : ∀ w ∈ nW, w.onTables = true := by decide +kernel
theorem xW_in : ∀ w ∈ xW, w ∈ lw_tbl := by decide +kernel
theorem xW_on : ∀ w ∈ xW, w.onTables = true := by decide +kernel
theorem xSt_in : ∀ q ∈ xSt, Cond.stringRef RX5 q.1 q.2 ∈ lw_tbl := by decide +kernel
theorem xNc_in : ∀ q ∈ xNc, Cond.not (.castable q.1 q.2) ∈ flatC (Jvm.Cond.and given_1 narrow_1) := by decide +kernel
theorem xZ_in : Cond.isRef (.static Bundle.tN "UNASSIGNED_STACK" Bundle.steD) ∈ flatC (Jvm.Cond.and given_1 narrow_1) ∧ Cond.isRef (.static Bundle.tN "SUPPRESSED_SENTINEL" Bundle.listD) ∈ flatC (Jvm.Cond.and given_1 narrow_1) := by decide +kernel
theorem xL_in : Cond.laysStatic Bundle.tN "UNASSIGNED_STACK" Bundle.steD ∈ lw_tbl ∧ Cond.laysStatic Bundle.tN "SUPPRESSED_SENTINEL" Bundle.listD ∈ lw_tbl ∧ Cond.initialized Bundle.tN ∈ lw_tbl := by decide +kernel
theorem xA_in : Cond.arrayClass .int ∈ lw_tbl ∧ Cond.arrayClass .long ∈ lw_tbl ∧ Cond.arrayOver (.object RX2) ∈ lw_tbl ∧ Cond.arrayOver (.array .int) ∈ lw_tbl := by decide +kernel
/-- from the entry, for every script of at most 2049 ints, the law comes to its end with true -/
theorem whole_start {p : Program} {e : Env} {s : State} {m : MethodId} {below : List Frame} {meth : Method} {c : Code} (l : Launch) (hlt : l.stackTraces = false) {b L : Nat} {xs : Nat → Int32} (hL : L ≤ 2049) (C0 : lw_At p s m meth c b L xs) : W p l e room_1 s m #[Value.ref b] below meth c s.heap [] 0 0 (lw_Z below #[Value.ref b] s) (entryFrame m ([Value.ref b] : List Value).toArray 9) := by
  obtain ⟨hexec, hcode, hret, hml, hown, hts, hXs, hbl, hlk, hgv⟩ := C0
  obtain ⟨c0, i0, K0⟩ := u_known hts inX0 (hts (Cond.instantiable RX0 3) (by decide +kernel))
  obtain ⟨c1, i1, K1⟩ := u_known hts inX1 (hts (Cond.instantiable RX1 5) (by decide +kernel))
  obtain ⟨c2, i2, K2⟩ := u_known hts inX2 (hts (Cond.instantiable RX2 2) (by decide +kernel))
  obtain ⟨c3, i3, K3⟩ := u_known hts inX3 (hts (Cond.instantiable RX3 4) (by decide +kernel))
  obtain ⟨c4, i4, K4⟩ := u_known hts inX4 (hts (Cond.instantiable RX4 3) (by decide +kernel))
  obtain ⟨c5, i5, K5⟩ := u_known hts inX5 (hts (Cond.instantiable RX5 9) (by decide +kernel))
  obtain ⟨c6, i6, K6⟩ := u_known hts inX6 (hts (Cond.instantiable RX6 19) (by decide +kernel))
  obtain ⟨cI, kI, pI, a1, a2, a3⟩ := Cond.arrayClass_spec (hts _ xA_in.1)
  obtain ⟨cJ, kJ, pJ, j1, j2, j3⟩ := Cond.arrayClass_spec (hts _ xA_in.2.1)
  obtain ⟨pQ, cQ, kQ, b1, b2, b3, b4, b5⟩ := Cond.arrayOver_spec (hts _ xA_in.2.2.1)
  obtain ⟨pT, cT, kT, d1, d2, d3, d4, d5⟩ := arrayOver_specB (hts _ xA_in.2.2.2)
  let D : va_G := (fun k => match k with | 0 => c0 | 1 => c1 | 2 => c2 | 3 => c3 | 4 => c4 | 5 => c5 | _ => c6, fun k => match k with | 0 => i0 | 1 => i1 | 2 => i2 | 3 => i3 | 4 => i4 | 5 => i5 | _ => i6)
  let G : GG := (D, cI, cQ, cT, cJ)
  have hK1 : ∀ (k : Nat) (q : vw_C), vwCl[k]? = some q → u_Kn s q.1 q.2.1 q.2.2 (D.1 k) (D.2 k) := fun k q hq => match k, q, hq with
    | 0, q, hq => by
      obtain rfl : (RX0, TX0, 3) = q := Option.some.inj hq
      exact K0
    | 1, q, hq => by
      obtain rfl : (RX1, TX1, 5) = q := Option.some.inj hq
      exact K1
    | 2, q, hq => by
      obtain rfl : (RX2, TX2, 2) = q := Option.some.inj hq
      exact K2
    | 3, q, hq => by
      obtain rfl : (RX3, TX3, 4) = q := Option.some.inj hq
      exact K3
    | 4, q, hq => by
      obtain rfl : (RX4, TX4, 3) = q := Option.some.inj hq
      exact K4
    | 5, q, hq => by
      obtain rfl : (RX5, TX5, 9) = q := Option.some.inj hq
      exact K5
    | 6, q, hq => by
      obtain rfl : (RX6, TX6, 19) = q := Option.some.inj hq
      exact K6
    | k + 7, q, hq => absurd hq (by simp [vwCl])
  have hK2 : ∀ (k : Nat) (q : ClassId × FieldType), (tyG G)[k]? = some q → ArrOfT s q.1 q.2 ∧ va_RA s q.1 q.2 := fun k q hq => match k, q, hq with
    | 0, q, hq => by
      obtain rfl : (cI, FieldType.int) = q := Option.some.inj hq
      exact ⟨fun n z => ⟨fun k h => (by cases h), kI, a2, pI, a3⟩, a1⟩
    | 1, q, hq => by
      obtain rfl : (cQ, FieldType.object RX2) = q := Option.some.inj hq
      exact ⟨fun n z => ⟨fun k h => (by cases h), kQ, b3, pQ, b4⟩, kQ, pQ, b3, b4, b1, b5⟩
    | 2, q, hq => by
      obtain rfl : (cT, FieldType.array .int) = q := Option.some.inj hq
      exact ⟨fun n z => ⟨fun k h => (by cases h), kT, d3, pT, d4⟩, d5⟩
    | 3, q, hq => by
      obtain rfl : (cJ, FieldType.long) = q := Option.some.inj hq
      exact ⟨fun n z => ⟨fun k h => (by cases h), kJ, j2, pJ, j3⟩, j1⟩
    | k + 4, q, hq => absurd hq (by simp [tyG])
  have hKW : KW G s := ⟨⟨hK1, hK2⟩, fun w hw => va_Nw.of (nW_on w hw) (hts w (nW_in w hw))⟩
  have hX : KX s := ⟨va_AO.of (hts _ xA_in.2.2.1), va_AOA.of (hts _ xA_in.2.2.2)⟩
  have hfl := flat_of_before _ hgv
  have hA9 : ∀ a : Nat, a < s.heap.size → ¬ (fun q => s.heap.size ≤ q) a := fun a ha => Nat.not_le.mpr ha
  have hXB : XB (fun q => s.heap.size ≤ q) s s.heap := ⟨fun w hw => va_Nw.of (xW_on w hw) (hts w (xW_in w hw)), fun q hq => by
      have h1 := hts _ (xSt_in q hq)
      obtain ⟨-, -, -, a, -, -, -, -, -, hev⟩ := Cond.stringRef_spec K5.2.1 h1
      exact ⟨a, vk_R.of h1 hev⟩, vx_Zqof (hts _ xL_in.1) (hts _ xL_in.2.2) (hfl _ xZ_in.1) hA9, vx_Zqof (hts _ xL_in.2.1) (hts _ xL_in.2.2) (hfl _ xZ_in.2) hA9, fun q hq => va_Nc.of (hfl _ (xNc_in q hq))⟩
  have hl := lv_entry [Value.ref b] (n := 9) (Nat.le_of_ble_eq_true rfl)
  rw [lg_entry_eq]
  exact law_init (ad0 := fun _ => 0) (e0 := fun _ => .inl (cI, 0, .inl (fun _ => 0))) l (G := G) (A := fun q => s.heap.size ≤ q) ⟨hexec, hcode, hml, hown, fun w h => hts w (wsL_law_in w h), hKW, fun q h => h, hlk⟩ hlt hret hX hXB ⟨hXs, hbl, Nat.not_le.mpr hbl⟩ hL (fun q h => h) s.heap [] _ (fun k q h => by simp [wd] at h) ⟨fun i j x y h => by simp [wd] at h, fun k q h => by simp [wd] at h⟩ va_S.rf hl
set_option maxHeartbeats 4000000 in
theorem lw_walk (l : Launch) (hlt : l.stackTraces = false) (b : Addr) (xs : List Int32) : MetFree l x (headSpec (Jvm.Cond.code x code maxLocals ret :: tables_1) room_1) (lw_P b xs) (fun _ _ _ _ _ => True) lw_Q := by
  refine MetFree.of_bodyS (code := code) (maxLocals := maxLocals) (ret := ret) (by decide) ?_ ?_
  · intro args s m h hn
    obtain ⟨meth, c, h1, h2, h3, h4, h5, h6, -, -⟩ := Cond.code_spec hn (atoms_spec (ws := Jvm.Cond.code x code maxLocals ret :: tables_1) h _ List.mem_cons_self)
    exact ⟨meth, c, h1, h2, h3, h4, h5, h6⟩
  · intro p e s m args below meth c s₁ B hml0 hP _
    obtain ⟨rfl, hx, hbd, hgv⟩ := hP
    obtain ⟨scr, harrAt, hlist, hof, hsmall⟩ := hx
    obtain ⟨hcb, hkn, -, -⟩ := State.arrayAt?_spec harrAt
    have hown : s.vm.findClass R_law = some m.cls := findClass_of_methodNamed B.named
    have hts0 : ∀ c ∈ (Jvm.Cond.code x code maxLocals ret :: tables_1), c.before #[Value.ref b] s = true := atoms_spec (ws := Jvm.Cond.code x code maxLocals ret :: tables_1) B.pre
    have hts : ∀ w ∈ lw_tbl, w.before #[Value.ref b] s = true := k2_hts_sels lw_privs (fun w hw => hts0 w (List.mem_cons_of_mem _ hw)) lw_privs_ok
    have hml : c.maxLocals = 9 := B.maxLocals_eq (hts0 _ List.mem_cons_self)
    have X₀ : Stand p l e room_1 s m #[Value.ref b] below meth c s₁ [] 0 0 := Stand.of_body B
    have hh0 : s₁.heap = s.heap := by rw [B.state]; rfl
    have hsz : scr.slots.size = xs.length := by rw [← Array.length_toList, hlist, List.length_map]
    have hval : ∀ j : Nat, j < xs.length → scr.slots[j]? = some (.int (xs.getD j 0)) := fun j hj => by
      rw [← Array.getElem?_toList, hlist]
      simp [hj]
    have hbl : b < s.heap.size := (Array.getElem?_eq_some_iff.mp hcb).1
    have hX : va_X b xs.length (fun j => xs.getD j 0) s s.heap := ⟨scr, hcb, hof, hkn, hsz, hval⟩
    have K : W p l e room_1 s m #[Value.ref b] below meth c s₁.heap [] 0 0 (lw_Z below #[Value.ref b] s) (entryFrame m ([Value.ref b] : List Value).toArray 9) := by
      rw [hh0]
      exact whole_start l hlt hbd ⟨B.exec, B.bytes, B.returns, hml, hown, hts, hX, hbl, B.notSynchronized, hgv⟩
    obtain ⟨t, a1, o, b1, b2, b3⟩ := K s₁ rfl X₀
    exact ⟨t, o, a1, b1, b2, b3⟩
theorem lw_pre_spec {args : Array Value} {s : State} (h : (Jvm.Cond.and given_1 narrow_1).before args s = true) (hr : rest_1_c.before args s = true) : ∃ (b : Addr) (xs : List Int32), lw_P b xs args s := by
  have hs := flat_of_before _ h
  have hq := flat_of_before _ hr
  have hc : (Cond.count 1).before args s = true := hs _ (by decide +kernel)
  have harr : (Cond.arrayOf (.arg 0) .int).before args s = true := hs _ (by decide +kernel)
  have hle : (Cond.le (.length (.arg 0)) (.int 2049)).before args s = true := hs _ (by decide +kernel)
  have hlen : (Cond.isInt (.length (.arg 0))).before args s = true := hq _ (by decide +kernel)
  have hall : (Cond.all (.arg 0) (.isInt (.elem (.arg 0) (.index 0)))).before args s = true := hq _ (by decide +kernel)
  obtain ⟨b, xs, hb, hx⟩ := State.ints_of_pre rfl harr hlen hall
  have hsm : xs.length < 2 ^ 31 := hx.choose_spec.2.2.2
  have hev : (Term.length (.arg 0)).eval args s none [] s = some (.int xs.length.toInt32) := hx.length_eval hb
  have hv := Cond.le_ints hev (show (Term.int 2049).eval args s none [] s = some (.int 2049) from rfl)
  have hd : xs.length.toInt32 ≤ 2049 := by
    simpa [Cond.before, Cond.holds, hv] using hle
  have hN : xs.length ≤ 2049 := (Int32.ofNat_le_ofNat hsm (by decide)).mp (show Int32.ofNat xs.length ≤ Int32.ofNat 2049 from hd)
  exact ⟨b, xs, Cond.one_arg hc (show args[0]? = some (.ref b) from hb), hx, hN, h⟩
theorem lw_comes (l : Launch) (hlt : l.stackTraces = false) : Comes l x (Jvm.Cond.code x code maxLocals ret :: tables_1) room_1 (fun tb e args s => Calls_1 tb e args s ∧ rest_1 tb e args s ∧ Pre_1 tb e args s)
    (fun _ _ args s o t => lw_Q args s o t) := by
  intro p e ha hc hk s m args below hf hfit hheap happ hpre
  obtain ⟨b, xs, hP⟩ := lw_pre_spec hpre.2.2 hpre.2.1
  obtain ⟨k, o, h1, h2, h3, hQ⟩ := lw_walk l hlt b xs p e ha hc hk s m args below hf ((Spec.applies_iff_loose hf).mp happ).1 hP trivial
  exact ⟨k, o, h1, h2, h3, hQ⟩
theorem lw_frame {s t : State} {o : Outcome} {args : Array Value} (h : Framed s o t [] 601024 7293000) :
    Framed s o t (fieldLocs frame_1_writes args s ++ arrayLocs frame_1_arrays args s ++ staticLocs frame_1_statics s) 601024 7293000 := h
theorem lw_limb (L : Cond) (hL : ∀ (args : Array Value) (s t : State), L.after args s (.returned (some (.int 1))) t = true) :
    ArmFor flags0 classFile x code maxLocals ret World_1 tables_1 room_1 Calls_1 rest_1 Pre_1
      (fun tb e a s o t => postC L tb e a s o t ∧ Framed s o t (fieldLocs frame_1_writes a s ++ arrayLocs frame_1_arrays a s ++ staticLocs frame_1_statics s) 601024 7293000) := by
  intro l hfl _ _ p e ha hc hk s m args below hf hfit hheap happ hpre
  have hlt : l.stackTraces = false := by
    unfold Launch.stackTraces
    rw [hfl]
    decide +kernel
  obtain ⟨k, o, h1, h2, h3, rfl, hF⟩ := lw_comes l hlt p e ha hc hk s m args below hf hfit hheap happ hpre
  exact ⟨k, _, h1, h2, h3, hL args s _, lw_frame hF⟩
theorem i_vc : Claimed_1_1 ∧ Claimed_1_2 := ⟨lw_limb limb_1_1 (fun args s t => by simp [limb_1_1, Cond.after, Cond.holds, Cond.value]), lw_limb limb_1_2 (fun args s t => Cond.after_iff.mpr (by
  first | (rw [show limb_1_2 = Cond.eq .result (.int 1) from rfl, Cond.eq_ints (x := 1) (y := 1) rfl rfl]; simp; done) | (simp [limb_1_2, Cond.value, Term.eval]; done)))⟩
