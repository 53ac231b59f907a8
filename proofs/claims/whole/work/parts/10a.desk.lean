/-! DiffDesk: cells 0 .. 52 -/
/-- the object as its parts: rc, dc the cells of result and draft -/
def DeskB (G : GG) (ad : Nat → Nat) (ev : Nat → va_E) (lim : Int) (R : Nat → List Int32) (ops : List Tr) (ls : List Op) (lsz : Nat) (rc dc : Nat) (rs ds : List Int32) (g : Nat → Option Nat) : Prop :=
  (0 ≤ lim ∧ lim ≤ 40 ∧ lsz ≤ 20 ∧ Sm ls ∧ ((rc = 49 ∧ dc = 51) ∨ (rc = 51 ∧ dc = 49))) ∧ ev 0 = .inr (5, [.int (iI lim), .ref (ad 1), .ref (ad 8), .ref (ad 12), .int (iI (lsz : Int)), .ref (ad 16), .ref (ad 41), .ref (ad rc), .ref (ad dc)]) ∧ ev 1 = .inl (G.2.2.1, 3, .inr (.inr (.inr (.inr g)))) ∧ (∀ j, j < 3 → g j = some (ad (2 + 2 * j))) ∧ (∀ j, j < 3 → RowAt G ad ev (2 + 2 * j) (R j) 20) ∧ ScrAt G ad ev 8 ops ∧ ScrAt G ad ev 12 (ls.map encO) ∧ WrkAt G ad ev ∧ RowAt G ad ev rc rs 123 ∧ RowAt G ad ev dc ds 123
def DeskAt (G : GG) (ad : Nat → Nat) (ev : Nat → va_E) (lim : Int) (R : Nat → List Int32) (ops : List Tr) (ls : List Op) (lsz : Nat) (rs : List Int32) : Prop :=
  ∃ (rc dc : Nat) (ds : List Int32) (g : Nat → Option Nat), DeskB G ad ev lim R ops ls lsz rc dc rs ds g
def dS : Nat → Prop := fun j => j < 53
/-- a row that is one -/
def isR (z : Int) : Bool := decide (0 ≤ z ∧ z < 3)
def isS (z : Int) : Bool := decide (0 ≤ z ∧ z ≤ 30000)
def isA (z : Int) : Bool := decide (0 ≤ z ∧ z ≤ 9)
theorem DeskB.rows {G : GG} {ad : Nat → Nat} {ev e2 : Nat → va_E} {lim : Int} {R : Nat → List Int32} {ops : List Tr} {ls : List Op} {lsz rc dc : Nat} {rs ds : List Int32} {g : Nat → Option Nat} {j : Nat} {xs : List Int32} (h : DeskB G ad ev lim R ops ls lsz rc dc rs ds g) (hj : j < 3) (hr : RowAt G ad e2 (2 + 2 * j) xs 20) (hF : Fr e2 ev (fun k => k = 2 + 2 * j ∨ k = 2 + 2 * j + 1)) : DeskB G ad e2 lim (va_up R j xs) ops ls lsz rc dc rs ds g := by
  obtain ⟨hb, k0, k1, hg, hr9, h8, h12, hw, hrr, hdd⟩ := h
  refine ⟨hb, (hF _ (by omega)).trans k0, (hF _ (by omega)).trans k1, hg, fun i hi => ?_, h8.fr hF (by omega) (by omega) (by omega) (by omega), h12.fr hF (by omega) (by omega) (by omega) (by omega), hw.fr hF (fun i q => by omega), hrr.fr hF (by omega) (by omega), hdd.fr hF (by omega) (by omega)⟩
  by_cases e : i = j
  · subst e; rw [va_up_self]; exact hr
  · rw [va_up_ne _ _ e]; exact (hr9 i hi).fr hF (by omega) (by omega)
theorem DeskB.ops {G : GG} {ad : Nat → Nat} {ev e2 : Nat → va_E} {lim : Int} {R : Nat → List Int32} {ops ops2 : List Tr} {ls : List Op} {lsz rc dc : Nat} {rs ds : List Int32} {g : Nat → Option Nat} (h : DeskB G ad ev lim R ops ls lsz rc dc rs ds g) (hs : ScrAt G ad e2 8 ops2) (hF : Fr e2 ev (fun k => k = 8 ∨ k = 8 + 1 ∨ k = 8 + 2 ∨ k = 8 + 3)) : DeskB G ad e2 lim R ops2 ls lsz rc dc rs ds g := by
  obtain ⟨hb, k0, k1, hg, hr9, h8, h12, hw, hrr, hdd⟩ := h
  exact ⟨hb, (hF _ (by omega)).trans k0, (hF _ (by omega)).trans k1, hg, fun i hi => (hr9 i hi).fr hF (by omega) (by omega), hs, h12.fr hF (by omega) (by omega) (by omega) (by omega), hw.fr hF (fun i q => by omega), hrr.fr hF (by omega) (by omega), hdd.fr hF (by omega) (by omega)⟩

def pX5_isRow (ev : Nat → va_E) (z : Int) : Option Value → (Nat → va_E) → Prop := fun v e2 => v = some (.int (bI (isR z))) ∧ ev = e2

set_option maxHeartbeats 4000000 in
set_option maxRecDepth 100000 in
theorem TX5_isRow (l : Launch) {G : GG} {N : Nat} {ad : Nat → Nat} {ev : Nat → va_E} {z : Int} (hz1 : -2147483648 ≤ z) (hz2 : z < 2147483648) : Ct l yX5_isRow wsX5_isRow rmX5_isRow [.int (iI z)] G N ad ev 0 0 (pX5_isRow ev z) := by
  unfold pX5_isRow isR
  refine Ct_of (cc := cX5_isRow) (maxL := 1) (ret := some .boolean) (lv := [(0, .int (iI z))]) (by decide) rfl (Nat.le_of_ble_eq_true rfl) rfl ?_
  intro p E s m args below meth c A C hr hnm
  refine n_iload_n C dX5_isRow_0 0 rfl rfl ?_
  refine n_if_lt C dX5_isRow_1 (by decide) (by omega) (by omega) (tgt := 13) (fun c1 => ?_) (fun c1 => ?_)
  · refine n_iconst C dX5_isRow_13 ?_
    exact n_zret C hr dX5_isRow_14 (by decide) (⟨by rw [decide_eq_false (by omega)]; rfl, rfl⟩)
  · refine n_iload_n C dX5_isRow_4 0 rfl rfl ?_
    refine n_iconst C dX5_isRow_5 ?_
    refine n_icmp_ge C dX5_isRow_6 (by decide) (by omega) (by omega) (by omega) (by omega) (tgt := 13) (fun c2 => ?_) (fun c2 => ?_)
    · refine n_iconst C dX5_isRow_13 ?_
      exact n_zret C hr dX5_isRow_14 (by decide) (⟨by rw [decide_eq_false (by omega)]; rfl, rfl⟩)
    · refine n_iconst C dX5_isRow_9 ?_
      refine n_goto (tgt := 14) C dX5_isRow_10 (by decide) ?_
      exact n_zret C hr dX5_isRow_14 (by decide) (⟨by rw [decide_eq_true (by omega)]; rfl, rfl⟩)

def pX5_isSymbol (ev : Nat → va_E) (z : Int) : Option Value → (Nat → va_E) → Prop := fun v e2 => v = some (.int (bI (isS z))) ∧ ev = e2

set_option maxHeartbeats 4000000 in
set_option maxRecDepth 100000 in
theorem TX5_isSymbol (l : Launch) {G : GG} {N : Nat} {ad : Nat → Nat} {ev : Nat → va_E} {z : Int} (hz1 : -2147483648 ≤ z) (hz2 : z < 2147483648) : Ct l yX5_isSymbol wsX5_isSymbol rmX5_isSymbol [.int (iI z)] G N ad ev 0 0 (pX5_isSymbol ev z) := by
  unfold pX5_isSymbol isS
  refine Ct_of (cc := cX5_isSymbol) (maxL := 1) (ret := some .boolean) (lv := [(0, .int (iI z))]) (by decide) rfl (Nat.le_of_ble_eq_true rfl) rfl ?_
  intro p E s m args below meth c A C hr hnm
  refine n_iload_n C dX5_isSymbol_0 0 rfl rfl ?_
  refine n_if_lt C dX5_isSymbol_1 (by decide) (by omega) (by omega) (tgt := 15) (fun c1 => ?_) (fun c1 => ?_)
  · refine n_iconst C dX5_isSymbol_15 ?_
    exact n_zret C hr dX5_isSymbol_16 (by decide) (⟨by rw [decide_eq_false (by omega)]; rfl, rfl⟩)
  · refine n_iload_n C dX5_isSymbol_4 0 rfl rfl ?_
    refine n_sipush C dX5_isSymbol_5 (by decide) ?_
    refine n_icmp_gt C dX5_isSymbol_8 (by decide) (by omega) (by omega) (by omega) (by omega) (tgt := 15) (fun c2 => ?_) (fun c2 => ?_)
    · refine n_iconst C dX5_isSymbol_15 ?_
      exact n_zret C hr dX5_isSymbol_16 (by decide) (⟨by rw [decide_eq_false (by omega)]; rfl, rfl⟩)
    · refine n_iconst C dX5_isSymbol_11 ?_
      refine n_goto (tgt := 16) C dX5_isSymbol_12 (by decide) ?_
      exact n_zret C hr dX5_isSymbol_16 (by decide) (⟨by rw [decide_eq_true (by omega)]; rfl, rfl⟩)

def pX5_isAround (ev : Nat → va_E) (z : Int) : Option Value → (Nat → va_E) → Prop := fun v e2 => v = some (.int (bI (isA z))) ∧ ev = e2

set_option maxHeartbeats 4000000 in
set_option maxRecDepth 100000 in
theorem TX5_isAround (l : Launch) {G : GG} {N : Nat} {ad : Nat → Nat} {ev : Nat → va_E} {z : Int} (hz1 : -2147483648 ≤ z) (hz2 : z < 2147483648) : Ct l yX5_isAround wsX5_isAround rmX5_isAround [.int (iI z)] G N ad ev 0 0 (pX5_isAround ev z) := by
  unfold pX5_isAround isA
  refine Ct_of (cc := cX5_isAround) (maxL := 1) (ret := some .boolean) (lv := [(0, .int (iI z))]) (by decide) rfl (Nat.le_of_ble_eq_true rfl) rfl ?_
  intro p E s m args below meth c A C hr hnm
  refine n_iload_n C dX5_isAround_0 0 rfl rfl ?_
  refine n_if_lt C dX5_isAround_1 (by decide) (by omega) (by omega) (tgt := 14) (fun c1 => ?_) (fun c1 => ?_)
  · refine n_iconst C dX5_isAround_14 ?_
    exact n_zret C hr dX5_isAround_15 (by decide) (⟨by rw [decide_eq_false (by omega)]; rfl, rfl⟩)
  · refine n_iload_n C dX5_isAround_4 0 rfl rfl ?_
    refine n_bipush C dX5_isAround_5 (by decide) ?_
    refine n_icmp_gt C dX5_isAround_7 (by decide) (by omega) (by omega) (by omega) (by omega) (tgt := 14) (fun c2 => ?_) (fun c2 => ?_)
    · refine n_iconst C dX5_isAround_14 ?_
      exact n_zret C hr dX5_isAround_15 (by decide) (⟨by rw [decide_eq_false (by omega)]; rfl, rfl⟩)
    · refine n_iconst C dX5_isAround_10 ?_
      refine n_goto (tgt := 15) C dX5_isAround_11 (by decide) ?_
      exact n_zret C hr dX5_isAround_15 (by decide) (⟨by rw [decide_eq_true (by omega)]; rfl, rfl⟩)

def fdB (R : Nat → List Int32) (z y : Int) : Bool := isR z && (isS y && decide ((R z.toNat).length < 20))
def fdR (R : Nat → List Int32) (z y : Int) : Nat → List Int32 := if fdB R z y then va_up R z.toNat (R z.toNat ++ [iI y]) else R
def pX5_feed (G : GG) (ad : Nat → Nat) (ev : Nat → va_E) (lim : Int) (R : Nat → List Int32) (ops : List Tr) (ls : List Op) (lsz : Nat) (rs : List Int32) (z y : Int) : Option Value → (Nat → va_E) → Prop := fun v e2 => v = some (.int (bI (fdB R z y))) ∧ DeskAt G ad e2 lim (fdR R z y) ops ls lsz rs ∧ Fr e2 ev (fun j => j < 53)

set_option maxHeartbeats 4000000 in
set_option maxRecDepth 100000 in
theorem TX5_feed (l : Launch) {G : GG} {N : Nat} {ad : Nat → Nat} {ev : Nat → va_E} {lim : Int} {R9 : Nat → List Int32} {ops : List Tr} {ls : List Op} {lsz : Nat} {rs9 : List Int32} {z y : Int} (hN : 53 ≤ N) (hD : DeskAt G ad ev lim R9 ops ls lsz rs9) (hza : -2147483648 ≤ z) (hzb : z < 2147483648) (hya : -2147483648 ≤ y) (hyb : y < 2147483648) : Ct l yX5_feed wsX5_feed rmX5_feed [.ref (ad 0), .int (iI z), .int (iI y)] G N ad ev 0 0 (pX5_feed G ad ev lim R9 ops ls lsz rs9 z y) := by
  obtain ⟨rc, dc, ds, g, hB⟩ := hD
  obtain ⟨⟨hli1, hli2, hlsz, hsm, hrd⟩, k0, k1, hg, hr9, h8, h12, hwk, hrr, hdd⟩ := id hB
  refine Ct_of (cc := cX5_feed) (maxL := 3) (ret := some .boolean) (lv := [(0, .ref (ad 0)), (1, .int (iI z)), (2, .int (iI y))]) (by decide) rfl (Nat.le_of_ble_eq_true rfl) rfl ?_
  intro p E s m args below meth c A C hr hnm
  refine n_iload_n C dX5_feed_0 1 rfl rfl ?_
  refine n_callS (rest := []) C dX5_feed_1 (TX5_isRow l hza hzb) (cwS 1 C.2.2.2.2.1 gX5_feed_X5_isRow rfl rfl rfl cdX5_isRow ⟨Nat.le_of_ble_eq_true rfl, Nat.le_of_ble_eq_true rfl⟩) rfl rfl (Nat.le_of_ble_eq_true rfl) ⟨Nat.le_of_ble_eq_true rfl, Nat.le_of_ble_eq_true rfl⟩ ?_
  rintro _ _ ⟨rfl, rfl⟩
  refine n_pc (pc2 := 4) rfl (n_st (st2 := [.int (bI (isR z))]) rfl ?_)
  refine n_if_eqB C dX5_feed_4 (by decide) (tgt := 31) (fun c1 => ?_) (fun c1 => ?_)
  · refine n_iconst C dX5_feed_31 ?_
    have h9 : fdB R9 z y = false := by unfold fdB; rw [c1]; rfl
    exact n_zret C hr dX5_feed_32 (by decide) (⟨by rw [h9]; rfl, by unfold fdR; rw [h9]; exact ⟨rc, dc, ds, g, hB⟩, Fr.rf⟩)
  · refine n_iload_n C dX5_feed_7 2 rfl rfl ?_
    refine n_callS (rest := []) C dX5_feed_8 (TX5_isSymbol l hya hyb) (cwS 1 C.2.2.2.2.1 gX5_feed_X5_isSymbol rfl rfl rfl cdX5_isSymbol ⟨Nat.le_of_ble_eq_true rfl, Nat.le_of_ble_eq_true rfl⟩) rfl rfl (Nat.le_of_ble_eq_true rfl) ⟨Nat.le_of_ble_eq_true rfl, Nat.le_of_ble_eq_true rfl⟩ ?_
    rintro _ _ ⟨rfl, rfl⟩
    refine n_pc (pc2 := 11) rfl (n_st (st2 := [.int (bI (isS y))]) rfl ?_)
    refine n_if_eqB C dX5_feed_11 (by decide) (tgt := 31) (fun c2 => ?_) (fun c2 => ?_)
    · refine n_iconst C dX5_feed_31 ?_
      have h9 : fdB R9 z y = false := by unfold fdB; rw [c1, c2]; rfl
      exact n_zret C hr dX5_feed_32 (by decide) (⟨by rw [h9]; rfl, by unfold fdR; rw [h9]; exact ⟨rc, dc, ds, g, hB⟩, Fr.rf⟩)
    · have c1w := of_decide_eq_true c1
      obtain ⟨j, rfl⟩ : ∃ j : Nat, z = (j : Int) := ⟨z.toNat, by omega⟩
      have hrj := hr9 j (by omega)
      refine n_aload_n C dX5_feed_14 0 rfl rfl ?_
      refine n_get (k9 := 1) C dX5_feed_15 (by omega) k0 hX5_feed_X5 rfl (by decide) kX5_feed_24 rfl ?_
      refine n_iload_n C dX5_feed_18 1 rfl rfl ?_
      refine n_aald (j := j) (q := ad (2 + 2 * j)) C dX5_feed_19 (by omega) k1 (by omega) (by omega) (by omega) (hg j (by omega)) ?_
      refine n_iload_n C dX5_feed_20 2 rfl rfl ?_
      refine n_callV (rest := []) C dX5_feed_21 (TX2_add l (i := 2 + 2 * j) (by omega) hrj (x := iI y)) (cwV 1 C.2.2.2.2.1 gX5_feed_X2_add rfl rfl rfl cdX2_add ⟨Nat.le_of_ble_eq_true rfl, Nat.le_of_ble_eq_true rfl⟩) (by omega) hrj.obj rfl rfl rfl (Nat.le_of_ble_eq_true rfl) ⟨Nat.le_of_ble_eq_true rfl, Nat.le_of_ble_eq_true rfl⟩ ?_
      rintro _ e1 ⟨rfl, hq, hF⟩
      refine n_pc (pc2 := 24) rfl (n_st (st2 := [.int (bI (decide ((R9 j).length < 20)))]) rfl ?_)
      refine n_if_eqB C dX5_feed_24 (by decide) (tgt := 31) (fun c3 => ?_) (fun c3 => ?_)
      · refine n_iconst C dX5_feed_31 ?_
        have c4 := of_decide_eq_false c3
        have h9 : fdB R9 (j : Int) y = false := by unfold fdB; rw [c1, c2, Int.toNat_natCast, c3]; rfl
        rw [if_neg c4] at hq
        have hB2 := hB.rows (by omega) hq hF
        have e9 : va_up R9 j (R9 j) = R9 := funext fun k => by by_cases e : k = j <;> simp [va_up, e]
        rw [e9] at hB2
        exact n_zret C hr dX5_feed_32 (by decide) (⟨by rw [h9]; rfl, by unfold fdR; rw [h9]; exact ⟨rc, dc, ds, g, hB2⟩, hF.mono (fun k hk => by omega)⟩)
      · refine n_iconst C dX5_feed_27 ?_
        refine n_goto (tgt := 32) C dX5_feed_28 (by decide) ?_
        have c4 := of_decide_eq_true c3
        have h9 : fdB R9 (j : Int) y = true := by unfold fdB; rw [c1, c2, Int.toNat_natCast, c3]; rfl
        rw [if_pos c4] at hq
        have hB2 := hB.rows (by omega) hq hF
        exact n_zret C hr dX5_feed_32 (by decide) (⟨by rw [h9]; rfl, by unfold fdR; rw [h9, if_pos rfl, Int.toNat_natCast]; exact ⟨rc, dc, ds, g, hB2⟩, hF.mono (fun k hk => by omega)⟩)

def clR (R : Nat → List Int32) (z : Int) : Nat → List Int32 := if isR z then va_up R z.toNat [] else R
def pX5_clear (G : GG) (ad : Nat → Nat) (ev : Nat → va_E) (lim : Int) (R : Nat → List Int32) (ops : List Tr) (ls : List Op) (lsz : Nat) (rs : List Int32) (z : Int) : Option Value → (Nat → va_E) → Prop := fun v e2 => v = some (.int (bI (isR z))) ∧ DeskAt G ad e2 lim (clR R z) ops ls lsz rs ∧ Fr e2 ev (fun j => j < 53)

set_option maxHeartbeats 4000000 in
set_option maxRecDepth 100000 in
theorem TX5_clear (l : Launch) {G : GG} {N : Nat} {ad : Nat → Nat} {ev : Nat → va_E} {lim : Int} {R9 : Nat → List Int32} {ops : List Tr} {ls : List Op} {lsz : Nat} {rs9 : List Int32} {z : Int} (hN : 53 ≤ N) (hD : DeskAt G ad ev lim R9 ops ls lsz rs9) (hza : -2147483648 ≤ z) (hzb : z < 2147483648) : Ct l yX5_clear wsX5_clear rmX5_clear [.ref (ad 0), .int (iI z)] G N ad ev 0 0 (pX5_clear G ad ev lim R9 ops ls lsz rs9 z) := by
  obtain ⟨rc, dc, ds, g, hB⟩ := hD
  obtain ⟨⟨hli1, hli2, hlsz, hsm, hrd⟩, k0, k1, hg, hr9, h8, h12, hwk, hrr, hdd⟩ := id hB
  refine Ct_of (cc := cX5_clear) (maxL := 2) (ret := some .boolean) (lv := [(0, .ref (ad 0)), (1, .int (iI z))]) (by decide) rfl (Nat.le_of_ble_eq_true rfl) rfl ?_
  intro p E s m args below meth c A C hr hnm
  refine n_iload_n C dX5_clear_0 1 rfl rfl ?_
  refine n_callS (rest := []) C dX5_clear_1 (TX5_isRow l hza hzb) (cwS 1 C.2.2.2.2.1 gX5_clear_X5_isRow rfl rfl rfl cdX5_isRow ⟨Nat.le_of_ble_eq_true rfl, Nat.le_of_ble_eq_true rfl⟩) rfl rfl (Nat.le_of_ble_eq_true rfl) ⟨Nat.le_of_ble_eq_true rfl, Nat.le_of_ble_eq_true rfl⟩ ?_
  rintro _ _ ⟨rfl, rfl⟩
  refine n_pc (pc2 := 4) rfl (n_st (st2 := [.int (bI (isR z))]) rfl ?_)
  refine n_if_neB C dX5_clear_4 (by decide) (tgt := 9) (fun c1 => ?_) (fun c1 => ?_)
  · have c1w := of_decide_eq_true c1
    obtain ⟨j, rfl⟩ : ∃ j : Nat, z = (j : Int) := ⟨z.toNat, by omega⟩
    have hrj := hr9 j (by omega)
    refine n_aload_n C dX5_clear_9 0 rfl rfl ?_
    refine n_get (k9 := 1) C dX5_clear_10 (by omega) k0 hX5_clear_X5 rfl (by decide) kX5_clear_24 rfl ?_
    refine n_iload_n C dX5_clear_13 1 rfl rfl ?_
    refine n_aald (j := j) (q := ad (2 + 2 * j)) C dX5_clear_14 (by omega) k1 (by omega) (by omega) (by omega) (hg j (by omega)) ?_
    refine n_callV (rest := []) C dX5_clear_15 (TX2_empty l (i := 2 + 2 * j) (by omega) hrj) (cwV 0 C.2.2.2.2.1 gX5_clear_X2_empty rfl rfl rfl cdX2_empty ⟨Nat.le_of_ble_eq_true rfl, Nat.le_of_ble_eq_true rfl⟩) (by omega) hrj.obj rfl rfl rfl (Nat.le_of_ble_eq_true rfl) ⟨Nat.le_of_ble_eq_true rfl, Nat.le_of_ble_eq_true rfl⟩ ?_
    rintro _ e1 ⟨rfl, hq, hF⟩
    refine n_pc (pc2 := 18) rfl (n_st (st2 := []) rfl ?_)
    refine n_iconst C dX5_clear_18 ?_
    exact n_zret C hr dX5_clear_19 (by decide) (⟨by rw [c1]; rfl, by unfold clR; rw [c1, if_pos rfl, Int.toNat_natCast]; exact ⟨rc, dc, ds, g, hB.rows (by omega) hq hF⟩, hF.mono (fun k hk => by omega)⟩)
  · refine n_iconst C dX5_clear_7 ?_
    exact n_zret C hr dX5_clear_8 (by decide) (⟨by rw [c1]; rfl, by unfold clR; rw [c1]; exact ⟨rc, dc, ds, g, hB⟩, Fr.rf⟩)

def szS (R : Nat → List Int32) (z : Int) : Int := if isR z then ((R z.toNat).length : Int) else -1
def pX5_size (ev : Nat → va_E) (R : Nat → List Int32) (z : Int) : Option Value → (Nat → va_E) → Prop := fun v e2 => v = some (.int (iI (szS R z))) ∧ ev = e2

set_option maxHeartbeats 4000000 in
set_option maxRecDepth 100000 in
theorem TX5_size (l : Launch) {G : GG} {N : Nat} {ad : Nat → Nat} {ev : Nat → va_E} {lim : Int} {R9 : Nat → List Int32} {ops : List Tr} {ls : List Op} {lsz : Nat} {rs9 : List Int32} {z : Int} (hN : 53 ≤ N) (hD : DeskAt G ad ev lim R9 ops ls lsz rs9) (hza : -2147483648 ≤ z) (hzb : z < 2147483648) : Ct l yX5_size wsX5_size rmX5_size [.ref (ad 0), .int (iI z)] G N ad ev 0 0 (pX5_size ev R9 z) := by
  obtain ⟨rc, dc, ds, g, hB⟩ := hD
  obtain ⟨⟨hli1, hli2, hlsz, hsm, hrd⟩, k0, k1, hg, hr9, h8, h12, hwk, hrr, hdd⟩ := id hB
  refine Ct_of (cc := cX5_size) (maxL := 2) (ret := some .int) (lv := [(0, .ref (ad 0)), (1, .int (iI z))]) (by decide) rfl (Nat.le_of_ble_eq_true rfl) rfl ?_
  intro p E s m args below meth c A C hr hnm
  refine n_iload_n C dX5_size_0 1 rfl rfl ?_
  refine n_callS (rest := []) C dX5_size_1 (TX5_isRow l hza hzb) (cwS 1 C.2.2.2.2.1 gX5_size_X5_isRow rfl rfl rfl cdX5_isRow ⟨Nat.le_of_ble_eq_true rfl, Nat.le_of_ble_eq_true rfl⟩) rfl rfl (Nat.le_of_ble_eq_true rfl) ⟨Nat.le_of_ble_eq_true rfl, Nat.le_of_ble_eq_true rfl⟩ ?_
  rintro _ _ ⟨rfl, rfl⟩
  refine n_pc (pc2 := 4) rfl (n_st (st2 := [.int (bI (isR z))]) rfl ?_)
  refine n_if_eqB C dX5_size_4 (by decide) (tgt := 19) (fun c1 => ?_) (fun c1 => ?_)
  · refine n_iconst C dX5_size_19 ?_
    exact n_iret C hr dX5_size_20 (⟨by unfold szS; rw [c1]; rfl, rfl⟩)
  · have c1w := of_decide_eq_true c1
    obtain ⟨j, rfl⟩ : ∃ j : Nat, z = (j : Int) := ⟨z.toNat, by omega⟩
    have hrj := hr9 j (by omega)
    refine n_aload_n C dX5_size_7 0 rfl rfl ?_
    refine n_get (k9 := 1) C dX5_size_8 (by omega) k0 hX5_size_X5 rfl (by decide) kX5_size_24 rfl ?_
    refine n_iload_n C dX5_size_11 1 rfl rfl ?_
    refine n_aald (j := j) (q := ad (2 + 2 * j)) C dX5_size_12 (by omega) k1 (by omega) (by omega) (by omega) (hg j (by omega)) ?_
    refine n_getN (k9 := 1) C dX5_size_13 (by omega) hrj.obj hX5_size_X2 rfl (by decide) kn_X5_78 rfl ?_
    refine n_goto (tgt := 20) C dX5_size_16 (by decide) ?_
    exact n_iret C hr dX5_size_20 (⟨by unfold szS; rw [c1, Int.toNat_natCast]; rfl, rfl⟩)

def syS (R : Nat → List Int32) (z k : Int) : Int32 := (if isR z then atD (R z.toNat) k (iI (-1)) else iI (-1)).toInt16.toInt32
def pX5_symbol (ev : Nat → va_E) (R : Nat → List Int32) (z k : Int) : Option Value → (Nat → va_E) → Prop := fun v e2 => v = some (.int (syS R z k)) ∧ ev = e2

set_option maxHeartbeats 4000000 in
set_option maxRecDepth 100000 in
theorem TX5_symbol (l : Launch) {G : GG} {N : Nat} {ad : Nat → Nat} {ev : Nat → va_E} {lim : Int} {R9 : Nat → List Int32} {ops : List Tr} {ls : List Op} {lsz : Nat} {rs9 : List Int32} {z k : Int} (hN : 53 ≤ N) (hD : DeskAt G ad ev lim R9 ops ls lsz rs9) (hza : -2147483648 ≤ z) (hzb : z < 2147483648) (hka : -2147483648 ≤ k) (hkb : k < 2147483648) : Ct l yX5_symbol wsX5_symbol rmX5_symbol [.ref (ad 0), .int (iI z), .int (iI k)] G N ad ev 0 0 (pX5_symbol ev R9 z k) := by
  obtain ⟨rc, dc, ds, g, hB⟩ := hD
  obtain ⟨⟨hli1, hli2, hlsz, hsm, hrd⟩, k0, k1, hg, hr9, h8, h12, hwk, hrr, hdd⟩ := id hB
  refine Ct_of (cc := cX5_symbol) (maxL := 3) (ret := some .short) (lv := [(0, .ref (ad 0)), (1, .int (iI z)), (2, .int (iI k))]) (by decide) rfl (Nat.le_of_ble_eq_true rfl) rfl ?_
  intro p E s m args below meth c A C hr hnm
  refine n_iload_n C dX5_symbol_0 1 rfl rfl ?_
  refine n_callS (rest := []) C dX5_symbol_1 (TX5_isRow l hza hzb) (cwS 1 C.2.2.2.2.1 gX5_symbol_X5_isRow rfl rfl rfl cdX5_isRow ⟨Nat.le_of_ble_eq_true rfl, Nat.le_of_ble_eq_true rfl⟩) rfl rfl (Nat.le_of_ble_eq_true rfl) ⟨Nat.le_of_ble_eq_true rfl, Nat.le_of_ble_eq_true rfl⟩ ?_
  rintro _ _ ⟨rfl, rfl⟩
  refine n_pc (pc2 := 4) rfl (n_st (st2 := [.int (bI (isR z))]) rfl ?_)
  refine n_if_eqB C dX5_symbol_4 (by decide) (tgt := 22) (fun c1 => ?_) (fun c1 => ?_)
  · refine n_iconst C dX5_symbol_22 ?_
    exact n_zret C hr dX5_symbol_23 (by decide) (⟨by unfold syS; rw [c1]; rfl, rfl⟩)
  · have c1w := of_decide_eq_true c1
    obtain ⟨j, rfl⟩ : ∃ j : Nat, z = (j : Int) := ⟨z.toNat, by omega⟩
    have hrj := hr9 j (by omega)
    refine n_aload_n C dX5_symbol_7 0 rfl rfl ?_
    refine n_get (k9 := 1) C dX5_symbol_8 (by omega) k0 hX5_symbol_X5 rfl (by decide) kX5_symbol_24 rfl ?_
    refine n_iload_n C dX5_symbol_11 1 rfl rfl ?_
    refine n_aald (j := j) (q := ad (2 + 2 * j)) C dX5_symbol_12 (by omega) k1 (by omega) (by omega) (by omega) (hg j (by omega)) ?_
    refine n_iload_n C dX5_symbol_13 2 rfl rfl ?_
    refine n_iconst C dX5_symbol_14 ?_
    refine n_callV (rest := []) C dX5_symbol_15 (TX2_at l (i := 2 + 2 * j) (by omega) hrj hka hkb) (cwV 2 C.2.2.2.2.1 gX5_symbol_X2_at rfl rfl rfl cdX2_at ⟨Nat.le_of_ble_eq_true rfl, Nat.le_of_ble_eq_true rfl⟩) (by omega) hrj.obj rfl rfl rfl (Nat.le_of_ble_eq_true rfl) ⟨Nat.le_of_ble_eq_true rfl, Nat.le_of_ble_eq_true rfl⟩ ?_
    rintro _ _ ⟨rfl, rfl⟩
    refine n_pc (pc2 := 18) rfl (n_st (st2 := [.int (atD (R9 j) k (iI (-1)))]) rfl ?_)
    refine n_i2sR C dX5_symbol_18 ?_
    refine n_goto (tgt := 23) C dX5_symbol_19 (by decide) ?_
    exact n_zret C hr dX5_symbol_23 (pk_ns _) (⟨by unfold syS; rw [c1, Int.toNat_natCast]; rfl, rfl⟩)

def opS (ops : List Tr) (z q : Int) : Int32 := if 0 ≤ z ∧ z < ops.length then (if q = 0 then (ops.getD z.toNat (0, 0, 0)).1 else if q = 1 then (ops.getD z.toNat (0, 0, 0)).2.1 else if q = 2 then (ops.getD z.toNat (0, 0, 0)).2.2 else iI (-1)) else iI (-1)
theorem opS_in {ops : List Tr} {j : Nat} {q : Int} {t : Tr} (hj : j < ops.length) (ht : ops[j]? = some t) : opS ops (j : Int) q = if q = 0 then t.1 else if q = 1 then t.2.1 else if q = 2 then t.2.2 else iI (-1) := by
  unfold opS
  rw [if_pos ⟨by omega, by omega⟩]
  simp [List.getD, ht]
def pX5_operation (ev : Nat → va_E) (ops : List Tr) (z q : Int) : Option Value → (Nat → va_E) → Prop := fun v e2 => v = some (.int (opS ops z q)) ∧ ev = e2

set_option maxHeartbeats 4000000 in
set_option maxRecDepth 100000 in
theorem TX5_operation (l : Launch) {G : GG} {N : Nat} {ad : Nat → Nat} {ev : Nat → va_E} {lim : Int} {R9 : Nat → List Int32} {ops : List Tr} {ls : List Op} {lsz : Nat} {rs9 : List Int32} {z q : Int} (hN : 53 ≤ N) (hD : DeskAt G ad ev lim R9 ops ls lsz rs9) (hza : -2147483648 ≤ z) (hzb : z < 2147483648) (hqa : -2147483648 ≤ q) (hqb : q < 2147483648) : Ct l yX5_operation wsX5_operation rmX5_operation [.ref (ad 0), .int (iI z), .int (iI q)] G N ad ev 0 0 (pX5_operation ev ops z q) := by
  obtain ⟨rc, dc, ds, g, hB⟩ := hD
  obtain ⟨⟨hli1, hli2, hlsz, hsm, hrd⟩, k0, k1, hg, hr9, h8, h12, hwk, hrr, hdd⟩ := id hB
  obtain ⟨fk, fp, fs, -, g1, g2, g3, hf, hlc⟩ := id h8
  refine Ct_of (cc := cX5_operation) (maxL := 3) (ret := some .int) (lv := [(0, .ref (ad 0)), (1, .int (iI z)), (2, .int (iI q))]) (by decide) rfl (Nat.le_of_ble_eq_true rfl) rfl ?_
  intro p E s m args below meth c A C hr hnm
  refine n_aload_n C dX5_operation_0 0 rfl rfl ?_
  refine n_get (k9 := 2) C dX5_operation_1 (by omega) k0 hX5_operation_X5 rfl (by decide) kX5_operation_34 rfl ?_
  refine n_iload_n C dX5_operation_4 1 rfl rfl ?_
  refine n_callV (rest := []) C dX5_operation_5 (TX3_has l (i := 8) (by omega) h8 hza hzb) (cwV 1 C.2.2.2.2.1 gX5_operation_X3_has rfl rfl rfl cdX3_has ⟨Nat.le_of_ble_eq_true rfl, Nat.le_of_ble_eq_true rfl⟩) (by omega) h8.obj rfl rfl rfl (Nat.le_of_ble_eq_true rfl) ⟨Nat.le_of_ble_eq_true rfl, Nat.le_of_ble_eq_true rfl⟩ ?_
  rintro _ _ ⟨rfl, rfl⟩
  refine n_pc (pc2 := 8) rfl (n_st (st2 := [.int (bI (decide (0 ≤ z ∧ z < ops.length)))]) rfl ?_)
  refine n_if_neB C dX5_operation_8 (by decide) (tgt := 13) (fun c1 => ?_) (fun c1 => ?_)
  · have c2 := of_decide_eq_true c1
    obtain ⟨j, rfl⟩ : ∃ j : Nat, z = (j : Int) := ⟨z.toNat, by omega⟩
    have hj9 := opS_in (q := q) (show j < ops.length by omega) (hf j (by omega))
    refine n_iload_n C dX5_operation_13 2 rfl rfl ?_
    rcases (show q = 0 ∨ q = 1 ∨ q = 2 ∨ (q < 0 ∨ 2 < q) by omega) with rfl | rfl | rfl | hq
    · refine n_tswIn (off := 26) (tgt := 40) C dX5_operation_14 (by decide) (by decide) (by decide) (by decide) (by decide) (by decide) ?_
      refine n_aload_n C dX5_operation_40 0 rfl rfl ?_
      refine n_get (k9 := 2) C dX5_operation_41 (by omega) k0 hX5_operation_X5 rfl (by decide) kX5_operation_34 rfl ?_
      refine n_getN (k9 := 0) C dX5_operation_44 (by omega) h8.obj hX5_operation_X3 rfl (by decide) kn_X5_112 rfl ?_
      refine n_iload_n C dX5_operation_47 1 rfl rfl ?_
      refine n_iald (j := j) C dX5_operation_48 (by omega) g1 (by omega) (by omega) (by omega) ?_
      exact n_iret C hr dX5_operation_49 (⟨by rw [hj9]; rfl, rfl⟩)
    · refine n_tswIn (off := 36) (tgt := 50) C dX5_operation_14 (by decide) (by decide) (by decide) (by decide) (by decide) (by decide) ?_
      refine n_aload_n C dX5_operation_50 0 rfl rfl ?_
      refine n_get (k9 := 2) C dX5_operation_51 (by omega) k0 hX5_operation_X5 rfl (by decide) kX5_operation_34 rfl ?_
      refine n_getN (k9 := 1) C dX5_operation_54 (by omega) h8.obj hX5_operation_X3 rfl (by decide) kn_X5_116 rfl ?_
      refine n_iload_n C dX5_operation_57 1 rfl rfl ?_
      refine n_iald (j := j) C dX5_operation_58 (by omega) g2 (by omega) (by omega) (by omega) ?_
      exact n_iret C hr dX5_operation_59 (⟨by rw [hj9]; rfl, rfl⟩)
    · refine n_tswIn (off := 46) (tgt := 60) C dX5_operation_14 (by decide) (by decide) (by decide) (by decide) (by decide) (by decide) ?_
      refine n_aload_n C dX5_operation_60 0 rfl rfl ?_
      refine n_get (k9 := 2) C dX5_operation_61 (by omega) k0 hX5_operation_X5 rfl (by decide) kX5_operation_34 rfl ?_
      refine n_getN (k9 := 2) C dX5_operation_64 (by omega) h8.obj hX5_operation_X3 rfl (by decide) kn_X5_119 rfl ?_
      refine n_iload_n C dX5_operation_67 1 rfl rfl ?_
      refine n_iald (j := j) C dX5_operation_68 (by omega) g3 (by omega) (by omega) (by omega) ?_
      exact n_iret C hr dX5_operation_69 (⟨by rw [hj9]; rfl, rfl⟩)
    · refine n_tswOut (tgt := 70) C dX5_operation_14 (by omega) (by omega) hq (by decide) ?_
      refine n_iconst C dX5_operation_70 ?_
      exact n_iret C hr dX5_operation_71 (⟨by rw [hj9, if_neg (by omega), if_neg (by omega), if_neg (by omega)], rfl⟩)
  · refine n_iconst C dX5_operation_11 ?_
    exact n_iret C hr dX5_operation_12 (⟨by unfold opS; rw [if_neg (of_decide_eq_false c1)], rfl⟩)

def pX5_forget (G : GG) (ad : Nat → Nat) (ev : Nat → va_E) (lim : Int) (R : Nat → List Int32) (ls : List Op) (lsz : Nat) (rs : List Int32) : Option Value → (Nat → va_E) → Prop := fun v e2 => v = none ∧ DeskAt G ad e2 lim R [] ls lsz rs ∧ Fr e2 ev (fun j => j < 53)

set_option maxHeartbeats 4000000 in
set_option maxRecDepth 100000 in
theorem TX5_forget (l : Launch) {G : GG} {N : Nat} {ad : Nat → Nat} {ev : Nat → va_E} {lim : Int} {R9 : Nat → List Int32} {ops : List Tr} {ls : List Op} {lsz : Nat} {rs9 : List Int32} (hN : 53 ≤ N) (hD : DeskAt G ad ev lim R9 ops ls lsz rs9) : Ct l yX5_forget wsX5_forget rmX5_forget [.ref (ad 0)] G N ad ev 0 0 (pX5_forget G ad ev lim R9 ls lsz rs9) := by
  obtain ⟨rc, dc, ds, g, hB⟩ := hD
  obtain ⟨⟨hli1, hli2, hlsz, hsm, hrd⟩, k0, k1, hg, hr9, h8, h12, hwk, hrr, hdd⟩ := id hB
  refine Ct_of (cc := cX5_forget) (maxL := 1) (ret := none) (lv := [(0, .ref (ad 0))]) (by decide) rfl (Nat.le_of_ble_eq_true rfl) rfl ?_
  intro p E s m args below meth c A C hr hnm
  refine n_aload_n C dX5_forget_0 0 rfl rfl ?_
  refine n_get (k9 := 2) C dX5_forget_1 (by omega) k0 hX5_forget_X5 rfl (by decide) kX5_forget_34 rfl ?_
  refine n_callV (rest := []) C dX5_forget_4 (TX3_empty l (i := 8) (by omega) h8) (cwV 0 C.2.2.2.2.1 gX5_forget_X3_empty rfl rfl rfl cdX3_empty ⟨Nat.le_of_ble_eq_true rfl, Nat.le_of_ble_eq_true rfl⟩) (by omega) h8.obj rfl rfl rfl (Nat.le_of_ble_eq_true rfl) ⟨Nat.le_of_ble_eq_true rfl, Nat.le_of_ble_eq_true rfl⟩ ?_
  rintro _ e1 ⟨rfl, hq, hF⟩
  refine n_pc (pc2 := 7) rfl (n_st (st2 := []) rfl ?_)
  exact n_vret C hr dX5_forget_7 (⟨rfl, ⟨rc, dc, ds, g, hB.ops hq hF⟩, hF.mono (fun k hk => by omega)⟩)

def ldO (ops : List Tr) (x y z : Int32) : List Tr := if ops.length < 60 then ops ++ [(x, y, z)] else ops
def pX5_load (G : GG) (ad : Nat → Nat) (ev : Nat → va_E) (lim : Int) (R : Nat → List Int32) (ops : List Tr) (ls : List Op) (lsz : Nat) (rs : List Int32) (x y z : Int32) : Option Value → (Nat → va_E) → Prop := fun v e2 => v = some (.int (bI (decide (ops.length < 60)))) ∧ DeskAt G ad e2 lim R (ldO ops x y z) ls lsz rs ∧ Fr e2 ev (fun j => j < 53)
theorem nar_b (b : Bool) : narrow .boolean (.int (bI b)) = .int (bI b) := by cases b <;> decide

set_option maxHeartbeats 4000000 in
set_option maxRecDepth 100000 in
theorem TX5_load (l : Launch) {G : GG} {N : Nat} {ad : Nat → Nat} {ev : Nat → va_E} {lim : Int} {R9 : Nat → List Int32} {ops : List Tr} {ls : List Op} {lsz : Nat} {rs9 : List Int32} {x y z : Int32} (hN : 53 ≤ N) (hD : DeskAt G ad ev lim R9 ops ls lsz rs9) : Ct l yX5_load wsX5_load rmX5_load [.ref (ad 0), .int x, .int y, .int z] G N ad ev 0 0 (pX5_load G ad ev lim R9 ops ls lsz rs9 x y z) := by
  obtain ⟨rc, dc, ds, g, hB⟩ := hD
  obtain ⟨⟨hli1, hli2, hlsz, hsm, hrd⟩, k0, k1, hg, hr9, h8, h12, hwk, hrr, hdd⟩ := id hB
  refine Ct_of (cc := cX5_load) (maxL := 4) (ret := some .boolean) (lv := [(0, .ref (ad 0)), (1, .int x), (2, .int y), (3, .int z)]) (by decide) rfl (Nat.le_of_ble_eq_true rfl) rfl ?_
  intro p E s m args below meth c A C hr hnm
  refine n_aload_n C dX5_load_0 0 rfl rfl ?_
  refine n_get (k9 := 2) C dX5_load_1 (by omega) k0 hX5_load_X5 rfl (by decide) kX5_load_34 rfl ?_
  refine n_iload_n C dX5_load_4 1 rfl rfl ?_
  refine n_iload_n C dX5_load_5 2 rfl rfl ?_
  refine n_iload_n C dX5_load_6 3 rfl rfl ?_
  refine n_callV (rest := []) C dX5_load_7 (TX3_add l (i := 8) (by omega) h8) (cwV 3 C.2.2.2.2.1 gX5_load_X3_add rfl rfl rfl cdX3_add ⟨Nat.le_of_ble_eq_true rfl, Nat.le_of_ble_eq_true rfl⟩) (by omega) h8.obj rfl rfl rfl (Nat.le_of_ble_eq_true rfl) ⟨Nat.le_of_ble_eq_true rfl, Nat.le_of_ble_eq_true rfl⟩ ?_
  rintro _ e1 ⟨rfl, hq, hF⟩
  refine n_pc (pc2 := 10) rfl (n_st (st2 := [.int (bI (decide (ops.length < 60)))]) rfl ?_)
  exact n_zret C hr dX5_load_10 (nar_b _) (⟨rfl, ⟨rc, dc, ds, g, hB.ops hq hF⟩, hF.mono (fun k hk => by omega)⟩)

def pX5_result (ev : Nat → va_E) (rs : List Int32) (z : Int) : Option Value → (Nat → va_E) → Prop := fun v e2 => v = some (.int (atD rs z (iI (-40)))) ∧ ev = e2

set_option maxHeartbeats 4000000 in
set_option maxRecDepth 100000 in
theorem TX5_result (l : Launch) {G : GG} {N : Nat} {ad : Nat → Nat} {ev : Nat → va_E} {lim : Int} {R9 : Nat → List Int32} {ops : List Tr} {ls : List Op} {lsz : Nat} {rs9 : List Int32} {z : Int} (hN : 53 ≤ N) (hD : DeskAt G ad ev lim R9 ops ls lsz rs9) (hza : -2147483648 ≤ z) (hzb : z < 2147483648) : Ct l yX5_result wsX5_result rmX5_result [.ref (ad 0), .int (iI z)] G N ad ev 0 0 (pX5_result ev rs9 z) := by
  obtain ⟨rc, dc, ds, g, hB⟩ := hD
  obtain ⟨⟨hli1, hli2, hlsz, hsm, hrd⟩, k0, k1, hg, hr9, h8, h12, hwk, hrr, hdd⟩ := id hB
  refine Ct_of (cc := cX5_result) (maxL := 2) (ret := some .int) (lv := [(0, .ref (ad 0)), (1, .int (iI z))]) (by decide) rfl (Nat.le_of_ble_eq_true rfl) rfl ?_
  intro p E s m args below meth c A C hr hnm
  refine n_aload_n C dX5_result_0 0 rfl rfl ?_
  refine n_get (k9 := 7) C dX5_result_1 (by omega) k0 hX5_result_X5 rfl (by decide) kX5_result_58 rfl ?_
  refine n_iload_n C dX5_result_4 1 rfl rfl ?_
  refine n_bipush C dX5_result_5 (by decide) ?_
  refine n_callV (rest := []) C dX5_result_7 (TX2_at l (i := rc) (by omega) hrr hza hzb) (cwV 2 C.2.2.2.2.1 gX5_result_X2_at rfl rfl rfl cdX2_at ⟨Nat.le_of_ble_eq_true rfl, Nat.le_of_ble_eq_true rfl⟩) (by omega) hrr.obj rfl rfl rfl (Nat.le_of_ble_eq_true rfl) ⟨Nat.le_of_ble_eq_true rfl, Nat.le_of_ble_eq_true rfl⟩ ?_
  rintro _ _ ⟨rfl, rfl⟩
  refine n_pc (pc2 := 10) rfl (n_st (st2 := [.int (atD rs9 z (iI (-40)))]) rfl ?_)
  exact n_iret C hr dX5_result_10 (⟨rfl, rfl⟩)

def pX5_results (ev : Nat → va_E) (rs : List Int32) : Option Value → (Nat → va_E) → Prop := fun v e2 => v = some (.int (iI (rs.length : Int))) ∧ ev = e2

set_option maxHeartbeats 4000000 in
set_option maxRecDepth 100000 in
theorem TX5_results (l : Launch) {G : GG} {N : Nat} {ad : Nat → Nat} {ev : Nat → va_E} {lim : Int} {R9 : Nat → List Int32} {ops : List Tr} {ls : List Op} {lsz : Nat} {rs9 : List Int32} (hN : 53 ≤ N) (hD : DeskAt G ad ev lim R9 ops ls lsz rs9) : Ct l yX5_results wsX5_results rmX5_results [.ref (ad 0)] G N ad ev 0 0 (pX5_results ev rs9) := by
  obtain ⟨rc, dc, ds, g, hB⟩ := hD
  obtain ⟨⟨hli1, hli2, hlsz, hsm, hrd⟩, k0, k1, hg, hr9, h8, h12, hwk, hrr, hdd⟩ := id hB
  refine Ct_of (cc := cX5_results) (maxL := 1) (ret := some .int) (lv := [(0, .ref (ad 0))]) (by decide) rfl (Nat.le_of_ble_eq_true rfl) rfl ?_
  intro p E s m args below meth c A C hr hnm
  refine n_aload_n C dX5_results_0 0 rfl rfl ?_
  refine n_get (k9 := 7) C dX5_results_1 (by omega) k0 hX5_results_X5 rfl (by decide) kX5_results_58 rfl ?_
  refine n_getN (k9 := 1) C dX5_results_4 (by omega) hrr.obj hX5_results_X2 rfl (by decide) kn_X5_78 rfl ?_
  exact n_iret C hr dX5_results_7 (⟨rfl, rfl⟩)

def pX5_merge (G : GG) (ad : Nat → Nat) (ev : Nat → va_E) (lim : Int) (R : Nat → List Int32) (ops : List Tr) (ls : List Op) (lsz : Nat) : Option Value → (Nat → va_E) → Prop := fun v e2 => v = some (.int (iI ((mrg (R 0) (R 1) (R 2)).2 : Int))) ∧ DeskAt G ad e2 lim R ops ls lsz (mrg (R 0) (R 1) (R 2)).1 ∧ Fr e2 ev (fun j => j < 53)

set_option maxHeartbeats 4000000 in
set_option maxRecDepth 100000 in
theorem TX5_merge (l : Launch) {G : GG} {N : Nat} {ad : Nat → Nat} {ev : Nat → va_E} {lim : Int} {R9 : Nat → List Int32} {ops : List Tr} {ls : List Op} {lsz : Nat} {rs9 : List Int32} (hN : 53 ≤ N) (hD : DeskAt G ad ev lim R9 ops ls lsz rs9) : Ct l yX5_merge wsX5_merge rmX5_merge [.ref (ad 0)] G N ad ev 0 0 (pX5_merge G ad ev lim R9 ops ls lsz) := by
  obtain ⟨rc, dc, ds, g, hB⟩ := hD
  obtain ⟨⟨hli1, hli2, hlsz, hsm, hrd⟩, k0, k1, hg, hr9, h8, h12, hwk, hrr, hdd⟩ := id hB
  refine Ct_of (cc := cX5_merge) (maxL := 1) (ret := some .int) (lv := [(0, .ref (ad 0))]) (by decide) rfl (Nat.le_of_ble_eq_true rfl) rfl ?_
  intro p E s m args below meth c A C hr hnm
  refine n_aload_n C dX5_merge_0 0 rfl rfl ?_
  refine n_get (k9 := 7) C dX5_merge_1 (by omega) k0 hX5_merge_X5 rfl (by decide) kX5_merge_58 rfl ?_
  refine n_callV (rest := []) C dX5_merge_4 (TX2_empty l (i := rc) (by omega) hrr) (cwV 0 C.2.2.2.2.1 gX5_merge_X2_empty rfl rfl rfl cdX2_empty ⟨Nat.le_of_ble_eq_true rfl, Nat.le_of_ble_eq_true rfl⟩) (by omega) hrr.obj rfl rfl rfl (Nat.le_of_ble_eq_true rfl) ⟨Nat.le_of_ble_eq_true rfl, Nat.le_of_ble_eq_true rfl⟩ ?_
  rintro _ e1 ⟨rfl, hrr, hF⟩
  refine n_pc (pc2 := 7) rfl (n_st (st2 := []) rfl ?_)
  have r2 := (hr9 0 (by omega)).fr hF (by omega) (by omega)
  have r4 := (hr9 1 (by omega)).fr hF (by omega) (by omega)
  have r6 := (hr9 2 (by omega)).fr hF (by omega) (by omega)
  have hwk := hwk.fr hF (fun j q => by omega)
  have hdd := hdd.fr hF (by omega) (by omega)
  have k0 := (hF _ (by omega)).trans k0
  have k1 := (hF _ (by omega)).trans k1
  have h8 := h8.fr hF (by omega) (by omega) (by omega) (by omega)
  have h12 := h12.fr hF (by omega) (by omega) (by omega) (by omega)
  refine n_aload_n C dX5_merge_7 0 rfl rfl ?_
  refine n_get (k9 := 6) C dX5_merge_8 (by omega) k0 hX5_merge_X5 rfl (by decide) kX5_merge_54 rfl ?_
  refine n_aload_n C dX5_merge_11 0 rfl rfl ?_
  refine n_get (k9 := 1) C dX5_merge_12 (by omega) k0 hX5_merge_X5 rfl (by decide) kX5_merge_24 rfl ?_
  refine n_iconst C dX5_merge_15 ?_
  refine n_aald (j := 0) (q := ad 2) C dX5_merge_16 (by omega) k1 (by omega) (by omega) (by omega) (hg 0 (by omega)) ?_
  refine n_aload_n C dX5_merge_17 0 rfl rfl ?_
  refine n_get (k9 := 1) C dX5_merge_18 (by omega) k0 hX5_merge_X5 rfl (by decide) kX5_merge_24 rfl ?_
  refine n_iconst C dX5_merge_21 ?_
  refine n_aald (j := 1) (q := ad 4) C dX5_merge_22 (by omega) k1 (by omega) (by omega) (by omega) (hg 1 (by omega)) ?_
  refine n_aload_n C dX5_merge_23 0 rfl rfl ?_
  refine n_get (k9 := 1) C dX5_merge_24 (by omega) k0 hX5_merge_X5 rfl (by decide) kX5_merge_24 rfl ?_
  refine n_iconst C dX5_merge_27 ?_
  refine n_aald (j := 2) (q := ad 6) C dX5_merge_28 (by omega) k1 (by omega) (by omega) (by omega) (hg 2 (by omega)) ?_
  refine n_aload_n C dX5_merge_29 0 rfl rfl ?_
  refine n_get (k9 := 5) C dX5_merge_30 (by omega) k0 hX5_merge_X5 rfl (by decide) kX5_merge_47 rfl ?_
  refine n_callV (rest := []) C dX5_merge_33 (TX1_begin l hN hwk r2 r4 r6) (cwV 4 C.2.2.2.2.1 gX5_merge_X1_begin rfl rfl rfl cdX1_begin ⟨Nat.le_of_ble_eq_true rfl, Nat.le_of_ble_eq_true rfl⟩) (by omega) hwk.2.1 rfl rfl rfl (Nat.le_of_ble_eq_true rfl) ⟨Nat.le_of_ble_eq_true rfl, Nat.le_of_ble_eq_true rfl⟩ ?_
  rintro _ e2 ⟨rfl, ⟨M2, hc⟩, k41, r42, r44, s46, s47, s48, hF2⟩
  refine n_pc (pc2 := 36) rfl (n_st (st2 := []) rfl ?_)
  have hdd := hdd.fr hF2 (by omega) (by omega)
  have hrr := hrr.fr hF2 (by omega) (by omega)
  have r2 := r2.fr hF2 (by omega) (by omega)
  have r4 := r4.fr hF2 (by omega) (by omega)
  have r6 := r6.fr hF2 (by omega) (by omega)
  have k0 := (hF2 _ (by omega)).trans k0
  have k1 := (hF2 _ (by omega)).trans k1
  have h8 := h8.fr hF2 (by omega) (by omega) (by omega) (by omega)
  have h12 := h12.fr hF2 (by omega) (by omega) (by omega) (by omega)
  refine n_aload_n C dX5_merge_36 0 rfl rfl ?_
  refine n_get (k9 := 6) C dX5_merge_37 (by omega) k0 hX5_merge_X5 rfl (by decide) kX5_merge_54 rfl ?_
  refine n_aload_n C dX5_merge_40 0 rfl rfl ?_
  refine n_get (k9 := 7) C dX5_merge_41 (by omega) k0 hX5_merge_X5 rfl (by decide) kX5_merge_58 rfl ?_
  refine n_callV (rest := []) C dX5_merge_44 (TX1_mergeTo l hN hc k41 r42 r44 s46 s47 s48 r2 r4 r6 (r := rc) (by omega) (by omega) hrr) (cwV 1 C.2.2.2.2.1 gX5_merge_X1_mergeTo rfl rfl rfl cdX1_mergeTo ⟨Nat.le_of_ble_eq_true rfl, Nat.le_of_ble_eq_true rfl⟩) (by omega) k41 rfl rfl rfl (Nat.le_of_ble_eq_true rfl) ⟨Nat.le_of_ble_eq_true rfl, Nat.le_of_ble_eq_true rfl⟩ ?_
  rintro _ e3 ⟨rfl, hrr, hwk, hF3⟩
  refine n_pc (pc2 := 47) rfl (n_st (st2 := [.int (iI ((mrg (R9 0) (R9 1) (R9 2)).2 : Int))]) rfl ?_)
  have hdd := hdd.fr hF3 (by omega) (by omega)
  have k0 := (hF3 _ (by omega)).trans k0
  have k1 := (hF3 _ (by omega)).trans k1
  have h8 := h8.fr hF3 (by omega) (by omega) (by omega) (by omega)
  have h12 := h12.fr hF3 (by omega) (by omega) (by omega) (by omega)
  exact n_iret C hr dX5_merge_47 (⟨rfl, ⟨rc, dc, ds, g, ⟨hli1, hli2, hlsz, hsm, hrd⟩, k0, k1, hg, fun j hj => (((hr9 j hj).fr hF (by omega) (by omega)).fr hF2 (by omega) (by omega)).fr hF3 (by omega) (by omega), h8, h12, hwk, hrr, hdd⟩, fun j hj => (hF3 j (by omega)).trans ((hF2 j (by omega)).trans (hF j (by omega)))⟩)
