-- ===== decoding: the bytes
def bAt (q : SQ) : Int32 := fGet (mQ q) (q_segments q 1) (q_at q) 0
def nx (q : SQ) : SQ := qs_at q (q_at q + 1)
def kn (k : SC) : SC := cs_fetched k (c_fetched k + 1)
/-- the class's code, memory and registers while it decodes: IP is where the reference's next byte is -/
abbrev sF (q : SQ) (k : SC) : SF := (k, mR (mQ q), (q_registers q, q_segments q, q_at q &&& 65535))
def Core (q q2 : SQ) : Prop := (mQ q2 = mQ q ∧ q_registers q2 = q_registers q ∧ q_segments q2 = q_segments q ∧ q_ip q2 = q_ip q ∧ q_ports q2 = q_ports q) ∧ (q_code q2 = q_code q ∧ q_segment q2 = q_segment q ∧ q_begin q2 = q_begin q ∧ q_repeat q2 = q_repeat q) ∧ (q_flags q2 = q_flags q ∧ q_halted q2 = q_halted q ∧ q_repetitions q2 = q_repetitions q) ∧ Same q q2
theorem Core.rf {q : SQ} : Core q q := ⟨⟨rfl, rfl, rfl, rfl, rfl⟩, ⟨rfl, rfl, rfl, rfl⟩, ⟨rfl, rfl, rfl⟩, Same.rf⟩
theorem Core.tr {q q1 q2 : SQ} (h : Core q q1) (g : Core q1 q2) : Core q q2 := ⟨⟨g.1.1.trans h.1.1, g.1.2.1.trans h.1.2.1, g.1.2.2.1.trans h.1.2.2.1, g.1.2.2.2.1.trans h.1.2.2.2.1, g.1.2.2.2.2.trans h.1.2.2.2.2⟩, ⟨g.2.1.1.trans h.2.1.1, g.2.1.2.1.trans h.2.1.2.1, g.2.1.2.2.1.trans h.2.1.2.2.1, g.2.1.2.2.2.trans h.2.1.2.2.2⟩, ⟨g.2.2.1.1.trans h.2.2.1.1, g.2.2.1.2.1.trans h.2.2.1.2.1, g.2.2.1.2.2.trans h.2.2.1.2.2⟩, h.2.2.2.tr g.2.2.2⟩
theorem core_at (q : SQ) (v : Int32) : Core q (qs_at q v) := ⟨⟨rfl, rfl, rfl, rfl, rfl⟩, ⟨rfl, rfl, rfl, rfl⟩, ⟨rfl, rfl, rfl⟩, ⟨rfl, rfl, rfl, rfl, rfl, rfl⟩⟩
theorem core_i (q : SQ) (v : Int32) : Core q (qs_i q v) := ⟨⟨rfl, rfl, rfl, rfl, rfl⟩, ⟨rfl, rfl, rfl, rfl⟩, ⟨rfl, rfl, rfl⟩, ⟨rfl, rfl, rfl, rfl, rfl, rfl⟩⟩
theorem core_j (q : SQ) (v : Int32) : Core q (qs_j q v) := ⟨⟨rfl, rfl, rfl, rfl, rfl⟩, ⟨rfl, rfl, rfl, rfl⟩, ⟨rfl, rfl, rfl⟩, ⟨rfl, rfl, rfl, rfl, rfl, rfl⟩⟩
theorem core_mode (q : SQ) (v : Int32) : Core q (qs_mode q v) := ⟨⟨rfl, rfl, rfl, rfl, rfl⟩, ⟨rfl, rfl, rfl, rfl⟩, ⟨rfl, rfl, rfl⟩, ⟨rfl, rfl, rfl, rfl, rfl, rfl⟩⟩
theorem core_r (q : SQ) (v : Int32) : Core q (qs_r q v) := ⟨⟨rfl, rfl, rfl, rfl, rfl⟩, ⟨rfl, rfl, rfl, rfl⟩, ⟨rfl, rfl, rfl⟩, ⟨rfl, rfl, rfl, rfl, rfl, rfl⟩⟩
theorem core_m (q : SQ) (v : Int32) : Core q (qs_m q v) := ⟨⟨rfl, rfl, rfl, rfl, rfl⟩, ⟨rfl, rfl, rfl, rfl⟩, ⟨rfl, rfl, rfl⟩, ⟨rfl, rfl, rfl, rfl, rfl, rfl⟩⟩
theorem core_offset (q : SQ) (v : Int32) : Core q (qs_offset q v) := ⟨⟨rfl, rfl, rfl, rfl, rfl⟩, ⟨rfl, rfl, rfl, rfl⟩, ⟨rfl, rfl, rfl⟩, ⟨rfl, rfl, rfl, rfl, rfl, rfl⟩⟩
theorem core_place (q : SQ) (v : Int32) : Core q (qs_place q v) := ⟨⟨rfl, rfl, rfl, rfl, rfl⟩, ⟨rfl, rfl, rfl, rfl⟩, ⟨rfl, rfl, rfl⟩, ⟨rfl, rfl, rfl, rfl, rfl, rfl⟩⟩
theorem core_nx (q : SQ) : Core q (nx q) := core_at q _
theorem core_inv {q q2 : SQ} (h : Core q q2) (hI : Inv q) : Inv q2 := by
  have h1 := h.1
  unfold Inv
  rw [h1.1, h1.2.2.2.2, show rQ q2 = (q_registers q2, q_segments q2, q_ip q2) from rfl, h1.2.1, h1.2.2.1, h1.2.2.2.1]
  exact hI
theorem core_seg {q q2 : SQ} (h : Core q q2) (a : Int32) : fSeg q2 a = fSeg q a := by
  unfold fSeg; rw [h.1.2.2.1, h.2.1.2.1]
theorem core_rS {q q2 : SQ} (h : Core q q2) (hs : rS q) : rS q2 := rs_seg h.2.1.2.1 hs
theorem rB_at {q : SQ} (hI : Inv q) : rB (bAt q) := rO_0.mp (rO_get hI.1 _ _ 0)
theorem iX6_fetch {q : SQ} {P : Int32 → SQ → Prop} (hI : Inv q) (h : P (bAt q) (nx q)) : wX6_fetch q P := by
  have e : bAt q = fLoad (mQ q) (fPlace (q_segments q 1) (q_at q)) := by unfold bAt fGet; rw [if_pos rfl]
  rw [e] at h
  exact ⟨v_14, iX6_placeOf (iX6_load hI.1 (rP_place _ _) h)⟩
theorem at_1 (a : Int32) : ((a &&& 65535) + 1) &&& 65535 = (a + 1) &&& 65535 := ti_ext (by
  have e1 : (1 : Int32).toInt = 1 := rfl
  rw [ti_and65535, ti_and65535, Int32.toInt_add, Int32.toInt_add, ti_and65535, e1]
  rcases bm_lo (a.toInt % 65536 + 1) with ⟨x, hx⟩
  rcases bm_lo (a.toInt + 1) with ⟨y, hy⟩
  rw [hx, hy]
  omega)
theorem place_and (s a : Int32) : fPlace s (a &&& 65535) = fPlace s a := by
  unfold fPlace
  rw [Int32.and_assoc, show (65535 : Int32) &&& 65535 = 65535 from by decide]
theorem iX1_fetch {q : SQ} {k : SC} {P : Int32 → SF → Prop} (hI : Inv q) (h : P (bAt q) (sF (nx q) (kn k))) : wX1_fetch (sF q k) P := by
  refine iX4_segment (iX2_load (u := mQ q) hI.1 (iX4_moveTo ?_))
  have e : bAt q = fGet (mQ q) (q_segments q 1) (q_at q &&& 65535) 0 := by
    unfold bAt fGet
    rw [if_pos rfl, if_pos rfl, place_and]
  rw [e] at h
  show P (fGet (mQ q) (q_segments q 1) (q_at q &&& 65535) 0) (kn k, mR (mQ q), (q_registers q, q_segments q, ((q_at q &&& 65535) + 1) &&& 65535))
  rw [at_1]
  exact h
def wAt (q : SQ) : Int32 := bAt q ||| bAt (nx q) <<< ((8 : Int32) &&& 31)
theorem inv_nx {q : SQ} (h : Inv q) : Inv (nx q) := core_inv (core_nx q) h
theorem rW_at {q : SQ} (hI : Inv q) : rW (wAt q) := or_hi (rB_at hI) (rB_at (inv_nx hI))
theorem iX6_fetchWord {q : SQ} {P : Int32 → SQ → Prop} (hI : Inv q) (h : P (wAt q) (nx (nx q))) : wX6_fetchWord q P := iX6_fetch hI (iX6_fetch (inv_nx hI) h)
theorem iX1_fetchWord {q : SQ} {k : SC} {P : Int32 → SF → Prop} (hI : Inv q) (h : P (wAt q) (sF (nx (nx q)) (kn (kn k)))) : wX1_fetchWord (sF q k) P := iX1_fetch hI (iX1_fetch (inv_nx hI) h)
