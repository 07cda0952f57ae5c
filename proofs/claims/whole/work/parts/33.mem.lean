-- ===== memory and registers of both sides as functions of the reference's state =====
def sx (b : Int32) : Int32 := b.toInt8.toInt32
def sxA (f : A32) : A32 := fun i => sx (f i)
/-- the memory of the reference, and the landed class's cells for it -/
abbrev mQ (q : SQ) : SM := (q_bytes q, q_slots q, q_pages q, q_lost q)
abbrev sMQ (q : SQ) (u : SM) : SQ := qs_lost (qs_pages (qs_slots (qs_bytes q (m_cells u)) (m_pn u)) (m_pages u)) (m_lost u)
abbrev mR (u : SM) : SM := (sxA (m_cells u), m_pn u, m_pages u, m_lost u)
abbrev rQ (q : SQ) : SR := (q_registers q, q_segments q, q_ip q)
/-- the landed class's parts, by the reference's state -/
abbrev pO (q : SQ) (cd : Int32) (k : SC) : SP := (q_halted q, q_repetitions q, cd, sxA (q_ports q), mR (mQ q), rQ q, q_flags q, k)
def InvM (u : SM) : Prop := (∀ i, rB (m_cells u i)) ∧ (∀ i, 0 ≤ (m_pn u i).toInt ∧ (m_pn u i).toInt ≤ (m_pages u).toInt) ∧ 0 ≤ (m_pages u).toInt ∧ (m_pages u).toInt ≤ 256
def InvR (u : SR) : Prop := (∀ i, rW (r_words u i)) ∧ (∀ i, rW (r_segments u i)) ∧ rW (r_ip u)
def InvP (f : A32) : Prop := ∀ i, rB (f i)
def Inv (q : SQ) : Prop := InvM (mQ q) ∧ InvR (rQ q) ∧ InvP (q_ports q)
def fPlace (s off : Int32) : Int32 := 16 * s + (off &&& 65535) &&& 1048575
def fIx (u : SM) (p : Int32) : Nat := ((256 : Int32) * (m_pn u (p >>> (8 &&& 31)).toNatClampNeg - 1) + (p &&& 255)).toNatClampNeg
def fLoad (u : SM) (p : Int32) : Int32 := if m_pn u (p >>> (8 &&& 31)).toNatClampNeg = 0 then 0 else m_cells u (fIx u p)
def fMade (u : SM) (p : Int32) : SM := ms_pages (ms_pn u (upd (m_pn u) (p >>> (8 &&& 31)).toNatClampNeg (m_pages u + 1))) (m_pages u + 1)
def fSet (u : SM) (p v : Int32) : SM := ms_cells u (upd (m_cells u) (fIx u p) (v &&& 255))
def fStore (u : SM) (p v : Int32) : SM := if m_pn u (p >>> (8 &&& 31)).toNatClampNeg = 0 then (if m_pages u = 256 then ms_lost u (m_lost u + 1) else fSet (fMade u p) p v) else fSet u p v
def fGet (u : SM) (s off w : Int32) : Int32 := if w = 0 then fLoad u (fPlace s off) else fLoad u (fPlace s off) ||| fLoad u (fPlace s (off + 1)) <<< (8 &&& 31)
def fPut (u : SM) (s off w v : Int32) : SM := if w = 0 then fStore u (fPlace s off) v else fStore (fStore u (fPlace s off) v) (fPlace s (off + 1)) (v >>> (8 &&& 31))
theorem sh4 (s : Int32) : s <<< ((4 : Int32) &&& 31) = 16 * s := by
  apply Int32.toBitVec_inj.mp
  apply BitVec.eq_of_toNat_eq
  rw [pk_shl s _ 4 rfl, Int32.toBitVec_mul, BitVec.toNat_mul]
  have : (Int32.toBitVec 16).toNat = 16 := rfl
  rw [this]; omega
def rP (p : Int32) : Prop := 0 ≤ p.toInt ∧ p.toInt ≤ 1048575
theorem rP_place (s off : Int32) : rP (fPlace s off) := by unfold rP fPlace; rw [ti_and1048575]; omega
theorem rP_hi {p : Int32} (h : rP p) : 0 ≤ (p >>> ((8 : Int32) &&& 31)).toInt ∧ (p >>> ((8 : Int32) &&& 31)).toInt ≤ 4095 := by
  rw [ti_shr8]; have := h.1; have := h.2; omega
theorem vp_hi {p : Int32} (h : rP p) : vp_in (p >>> ((8 : Int32) &&& 31)) 4096 := ti_in (rP_hi h).1 (by have := (rP_hi h).2; omega)
theorem ti_ix {a p : Int32} (h0 : 0 ≤ a.toInt) (h1 : a.toInt ≤ 256) (hne : ¬ a = 0) : (256 * (a - 1) + (p &&& 255)).toInt = 256 * (a.toInt - 1) + p.toInt % 256 ∧ 1 ≤ a.toInt := by
  have o : (1 : Int32).toInt = 1 := rfl
  have z : (0 : Int32).toInt = 0 := rfl
  have hp : 1 ≤ a.toInt := by
    rcases (show a.toInt = 0 ∨ 1 ≤ a.toInt by omega) with q | q
    · exact absurd (ti_ext (by rw [q, z])) hne
    · exact q
  have k : (256 : Int32).toInt = 256 := rfl
  have e1 : (a - 1).toInt = a.toInt - 1 := by rw [ti_sub (by omega) (by omega), o]
  have e2 : (256 * (a - 1)).toInt = 256 * (a.toInt - 1) := by rw [ti_mul (by rw [k, e1]; omega) (by rw [k, e1]; omega), k, e1]
  have e3 := ti_and255 p
  exact ⟨by rw [ti_add (by omega) (by omega), e2, e3], hp⟩
theorem vp_ix {a p : Int32} (h0 : 0 ≤ a.toInt) (h1 : a.toInt ≤ 256) (hne : ¬ a = 0) : vp_in (256 * (a - 1) + (p &&& 255)) 65536 := by
  obtain ⟨e, hp⟩ := ti_ix (p := p) h0 h1 hne
  exact ti_in (by rw [e]; omega) (by rw [e]; omega)
theorem ix_c {a p : Int32} (h0 : 0 ≤ a.toInt) (h1 : a.toInt ≤ 256) (hne : ¬ a = 0) : (((a - 1) <<< ((8 : Int32) &&& 31)) ||| (p &&& 255)) &&& 65535 = 256 * (a - 1) + (p &&& 255) := by
  obtain ⟨e, hp⟩ := ti_ix (p := p) h0 h1 hne
  have o : (1 : Int32).toInt = 1 := rfl
  have e1 : (a - 1).toInt = a.toInt - 1 := by rw [ti_sub (by omega) (by omega), o]
  obtain ⟨j, hj, ej⟩ := pk_andE p (m := 255) 8 rfl
  have ej2 : (p &&& 255).toInt = (j : Int) := by rw [ej, ti_nI (by omega)]
  have hp2 := ti_and255 p
  have hb : (((a - 1) <<< ((8 : Int32) &&& 31)) ||| (p &&& 255)).toBitVec.toNat = (a.toInt - 1).toNat * 256 + j := by
    rw [Int32.toBitVec_or, BitVec.toNat_or, pk_shl _ _ 8 rfl]
    have hn := ti_nat (a - 1)
    rw [e1] at hn
    have h3 : (a - 1).toBitVec.toNat = (a.toInt - 1).toNat := by split at hn <;> omega
    have h4 : (p &&& 255).toBitVec.toNat = j := by
      have hn2 := ti_nat (p &&& 255)
      rw [ej2] at hn2
      split at hn2 <;> omega
    rw [h3, h4, Nat.mod_eq_of_lt (by omega)]
    have := Nat.shiftLeft_add_eq_or_of_lt (b := j) (i := 8) (by omega) (a.toInt - 1).toNat
    rw [Nat.shiftLeft_eq] at this
    omega
  apply ti_ext
  rw [e, ti_and65535]
  have hn := ti_nat (((a - 1) <<< ((8 : Int32) &&& 31)) ||| (p &&& 255))
  rw [hb] at hn
  split at hn <;> omega
theorem nar_b (v : Int32) : vp_nar .byte v.toInt8.toInt32 = sx v := by
  rw [vp_nar_byte]
  apply ti_ext
  unfold sx
  rw [ti_i8, ti_i8, bm_8, bm_8]
  split <;> split <;> omega
theorem sx_255 (v : Int32) : sx (v &&& 255) = sx v := ti_ext (by
  unfold sx; rw [ti_i8, ti_i8, bm_8, bm_8, ti_and255]; split <;> split <;> omega)
theorem sx_and {b : Int32} (h : rB b) : sx b &&& 255 = b := ti_ext (by
  unfold sx; rw [ti_and255, ti_i8, bm_8]; have := h.1; have := h.2; split <;> omega)
theorem sxA_upd (f : A32) (k : Nat) (v : Int32) : upd (sxA f) k (sx v) = sxA (upd f k (v &&& 255)) := by
  funext i
  unfold sxA upd
  by_cases h : i = k
  · simp only [h, if_true]; rw [sx_255]
  · simp only [h, if_false]
-- ----- the reference's memory
theorem slot_rng {u : SM} (h : InvM u) (i : Nat) : 0 ≤ (m_pn u i).toInt ∧ (m_pn u i).toInt ≤ 256 := ⟨(h.2.1 i).1, by have := (h.2.1 i).2; have := h.2.2.2; omega⟩
theorem iX6_placeOf {s off : Int32} {P : Int32 → Unit → Prop} (h : P (fPlace s off) ()) : wX6_placeOf s off () P := h
theorem iX2_place {s off : Int32} {P : Int32 → Unit → Prop} (h : P (fPlace s off) ()) : wX2_place s off () P := by
  unfold wX2_place; rw [sh4]; exact h
theorem iX6_load {p : Int32} {q : SQ} {P : Int32 → SQ → Prop} (hI : InvM (mQ q)) (hp : rP p) (h : P (fLoad (mQ q) p) q) : wX6_load p q P := by
  unfold fLoad at h
  refine ⟨vp_hi hp, fun c => ?_, fun c => ⟨vp_ix (slot_rng hI _).1 (slot_rng hI _).2 c, ?_⟩⟩
  · rw [if_pos c] at h; exact h
  · rw [if_neg c] at h; exact h
theorem iX2_at {p : Int32} {u : SM} {P : Int32 → SM → Prop} (hI : InvM u) (hp : rP p) (h : P (fLoad u p) (mR u)) : wX2_at p (mR u) P := by
  have e : (p >>> ((8 : Int32) &&& 31)) &&& 4095 = p >>> ((8 : Int32) &&& 31) := ti_ext (by
    rw [ti_and4095]; have := rP_hi hp; omega)
  unfold wX2_at
  rw [e]
  unfold fLoad at h
  refine ⟨vp_hi hp, fun c => ?_, fun c => ?_⟩
  · rw [if_pos c] at h; exact h
  · rw [if_neg c] at h
    have e2 := ix_c (p := p) (slot_rng hI _).1 (slot_rng hI _).2 c
    rw [e2]
    refine ⟨vp_ix (slot_rng hI _).1 (slot_rng hI _).2 c, ?_⟩
    show P (sx (m_cells u (fIx u p)) &&& 255) (mR u)
    rw [sx_and (hI.1 _)]
    exact h
theorem inv_made {u : SM} {p : Int32} (h : InvM u) (hn : ¬ m_pages u = 256) : InvM (fMade u p) := by
  have o : (1 : Int32).toInt = 1 := rfl
  have k : (256 : Int32).toInt = 256 := rfl
  have hlt : (m_pages u).toInt < 256 := by
    rcases (show (m_pages u).toInt = 256 ∨ (m_pages u).toInt < 256 by have := h.2.2.2; omega) with c | c
    · exact absurd (ti_ext (by rw [c, k])) hn
    · exact c
  have e : (m_pages u + 1).toInt = (m_pages u).toInt + 1 := by rw [ti_add (by have := h.2.2.1; omega) (by omega), o]
  refine ⟨h.1, fun i => ?_, ?_, ?_⟩
  · show 0 ≤ (upd (m_pn u) _ (m_pages u + 1) i).toInt ∧ (upd (m_pn u) _ (m_pages u + 1) i).toInt ≤ (m_pages u + 1).toInt
    unfold upd
    have := h.2.1 i
    have := h.2.2.1
    split <;> omega
  · show 0 ≤ (m_pages u + 1).toInt
    have := h.2.2.1
    omega
  · show (m_pages u + 1).toInt ≤ 256
    omega
theorem inv_set {u : SM} {p v : Int32} (h : InvM u) : InvM (fSet u p v) := by
  refine ⟨fun i => ?_, h.2.1, h.2.2.1, h.2.2.2⟩
  show rB (upd (m_cells u) (fIx u p) (v &&& 255) i)
  unfold upd
  split
  · exact rB_and v
  · exact h.1 i
theorem inv_storeM {u : SM} {p v : Int32} (h : InvM u) : InvM (fStore u p v) := by
  unfold fStore
  split
  · split
    · exact h
    · exact inv_set (inv_made h (by assumption))
  · exact inv_set h
theorem made_ne {u : SM} {p : Int32} (h : InvM u) : ¬ m_pn (fMade u p) (p >>> (8 &&& 31)).toNatClampNeg = 0 := by
  have o : (1 : Int32).toInt = 1 := rfl
  have z : (0 : Int32).toInt = 0 := rfl
  have e : (m_pages u + 1).toInt = (m_pages u).toInt + 1 := by rw [ti_add (by have := h.2.2.1; omega) (by have := h.2.2.2; omega), o]
  intro c
  have c2 : m_pages u + 1 = 0 := by
    have : upd (m_pn u) (p >>> (8 &&& 31)).toNatClampNeg (m_pages u + 1) (p >>> (8 &&& 31)).toNatClampNeg = 0 := c
    unfold upd at this
    simpa using this
  rw [ti_eq, e, z] at c2
  have := h.2.2.1
  omega
theorem iX6_store {p v : Int32} {q : SQ} {P : SQ → Prop} (hI : InvM (mQ q)) (hp : rP p) (h : P (sMQ q (fStore (mQ q) p v))) : wX6_store p v q P := by
  have fin : ∀ u : SM, InvM u → ¬ m_pn u (p >>> (8 &&& 31)).toNatClampNeg = 0 → P (sMQ q (fSet u p v)) → wX6_store_b68 p v P (sMQ q u) := fun u hI' c hq => ⟨vp_hi hp, vp_ix (slot_rng hI' _).1 (slot_rng hI' _).2 c, hq⟩
  unfold fStore at h
  refine ⟨vp_hi hp, fun c => ⟨fun c2 => ?_, fun c2 => ⟨vp_hi hp, fun _ => ⟨vp_hi hp, fin (fMade (mQ q) p) (inv_made hI c2) (made_ne hI) ?_⟩, fun c3 => absurd c c3⟩⟩, fun c => ⟨vp_hi hp, fun c3 => absurd c3 c, fun _ => fin (mQ q) hI c ?_⟩⟩
  · rw [if_pos c, if_pos c2] at h; exact h
  · rw [if_pos c, if_neg c2] at h; exact h
  · rw [if_neg c] at h; exact h
theorem iX2_put {p v : Int32} {u : SM} {P : SM → Prop} (hI : InvM u) (hp : rP p) (h : P (mR (fStore u p v))) : wX2_put p v (mR u) P := by
  have e : (p >>> ((8 : Int32) &&& 31)) &&& 4095 = p >>> ((8 : Int32) &&& 31) := ti_ext (by
    rw [ti_and4095]; have := rP_hi hp; omega)
  have fin : ∀ u' : SM, InvM u' → ¬ m_pn u' (p >>> (8 &&& 31)).toNatClampNeg = 0 → P (mR (fSet u' p v)) → wX2_put_b59 p v P (p >>> ((8 : Int32) &&& 31)) (mR u') := by
    intro u' hI' c hq
    have e2 := ix_c (p := p) (slot_rng hI' _).1 (slot_rng hI' _).2 c
    unfold wX2_put_b59
    refine ⟨vp_hi hp, ?_⟩
    rw [e2]
    refine ⟨vp_ix (slot_rng hI' _).1 (slot_rng hI' _).2 c, ?_⟩
    rw [nar_b]
    show P (upd (sxA (m_cells u')) (fIx u' p) (sx v), m_pn u', m_pages u', m_lost u')
    rw [sxA_upd]
    exact hq
  unfold wX2_put
  rw [e]
  unfold fStore at h
  refine ⟨vp_hi hp, fun c => ⟨fun c2 => ?_, fun c2 => ⟨vp_hi hp, fin (fMade u p) (inv_made hI c2) (made_ne hI) ?_⟩⟩, fun c => fin u hI c ?_⟩
  · rw [if_pos c, if_pos c2] at h; exact h
  · rw [if_pos c, if_neg c2] at h; exact h
  · rw [if_neg c] at h; exact h
theorem iX6_get {s off w : Int32} {q : SQ} {P : Int32 → SQ → Prop} (hI : InvM (mQ q)) (h : P (fGet (mQ q) s off w) q) : wX6_get s off w q P := by
  unfold fGet at h
  refine iX6_placeOf (iX6_load hI (rP_place _ _) ⟨fun c => ?_, fun c => iX6_placeOf (iX6_load hI (rP_place _ _) ?_)⟩)
  · rw [if_pos c] at h; exact h
  · rw [if_neg c] at h; exact h
theorem iX2_load {s off w : Int32} {u : SM} {P : Int32 → SM → Prop} (hI : InvM u) (h : P (fGet u s off w) (mR u)) : wX2_load s off w (mR u) P := by
  unfold fGet at h
  refine iX2_place (iX2_at hI (rP_place _ _) ⟨fun c => ?_, fun c => iX2_place (iX2_at hI (rP_place _ _) ?_)⟩)
  · rw [if_pos c] at h; exact h
  · rw [if_neg c] at h; exact h
theorem iX6_put {s off w v : Int32} {q : SQ} {P : SQ → Prop} (hI : InvM (mQ q)) (h : P (sMQ q (fPut (mQ q) s off w v))) : wX6_put s off w v q P := by
  unfold fPut at h
  refine iX6_placeOf (iX6_store hI (rP_place _ _) ⟨fun c => ?_, fun c => iX6_placeOf (iX6_store (q := sMQ q (fStore (mQ q) (fPlace s off) v)) (inv_storeM hI) (rP_place _ _) ?_)⟩)
  · rw [if_pos c] at h; exact h
  · rw [if_neg c] at h; exact h
theorem iX2_store {s off w v : Int32} {u : SM} {P : SM → Prop} (hI : InvM u) (h : P (mR (fPut u s off w v))) : wX2_store s off v w (mR u) P := by
  unfold fPut at h
  refine iX2_place (iX2_put hI (rP_place _ _) ⟨fun c => ?_, fun c => iX2_place (iX2_put (inv_storeM hI) (rP_place _ _) ?_)⟩)
  · rw [if_pos c] at h; exact h
  · rw [if_neg c] at h; exact h
theorem inv_put {u : SM} {s off w v : Int32} (h : InvM u) : InvM (fPut u s off w v) := by
  unfold fPut; split
  · exact inv_storeM h
  · exact inv_storeM (inv_storeM h)
theorem rB_load {u : SM} (h : InvM u) (p : Int32) : rB (fLoad u p) := by
  unfold fLoad; split
  · exact ⟨by decide, by decide⟩
  · exact h.1 _
theorem or8 {a b : Int32} (ha : rB a) (hb : rB b) : (a ||| b <<< ((8 : Int32) &&& 31)).toInt = a.toInt + 256 * b.toInt := by
  have na := ti_nat a
  have nb := ti_nat b
  have a1 := ha.1
  have a2 := ha.2
  have b1 := hb.1
  have b2 := hb.2
  have h : (a ||| b <<< ((8 : Int32) &&& 31)).toBitVec.toNat = b.toBitVec.toNat * 256 + a.toBitVec.toNat := by
    rw [Int32.toBitVec_or, BitVec.toNat_or, pk_shl _ _ 8 rfl, Nat.mod_eq_of_lt (by split at nb <;> omega)]
    have := Nat.shiftLeft_add_eq_or_of_lt (b := a.toBitVec.toNat) (i := 8) (by split at na <;> omega) b.toBitVec.toNat
    rw [Nat.shiftLeft_eq] at this
    rw [Nat.or_comm]
    omega
  have n := ti_nat (a ||| b <<< ((8 : Int32) &&& 31))
  rw [h] at n
  have l := ti_lo (a ||| b <<< ((8 : Int32) &&& 31))
  split at na <;> split at nb <;> split at n <;> omega
theorem rO_get {u : SM} (h : InvM u) (s off w : Int32) : rO (fGet u s off w) w := by
  unfold fGet
  split
  · rename_i hw; rw [hw]; exact rO_0.mpr (rB_load h _)
  · rename_i hw
    refine (rO_1 hw).mpr ?_
    have e := or8 (rB_load h (fPlace s off)) (rB_load h (fPlace s (off + 1)))
    have l1 := rB_load h (fPlace s off)
    have l2 := rB_load h (fPlace s (off + 1))
    exact ⟨by rw [e]; have := l1.1; have := l2.1; omega, by rw [e]; have := l1.2; have := l2.2; omega⟩
