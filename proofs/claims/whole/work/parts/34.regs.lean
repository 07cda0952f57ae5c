-- ===== registers, segments, stack, ports =====
theorem in8 {k : Int32} (h0 : 0 ≤ k.toInt) (h1 : k.toInt ≤ 7) : k = 0 ∨ k = 1 ∨ k = 2 ∨ k = 3 ∨ k = 4 ∨ k = 5 ∨ k = 6 ∨ k = 7 := by
  rcases (show k.toInt = 0 ∨ k.toInt = 1 ∨ k.toInt = 2 ∨ k.toInt = 3 ∨ k.toInt = 4 ∨ k.toInt = 5 ∨ k.toInt = 6 ∨ k.toInt = 7 by omega) with h | h | h | h | h | h | h | h
  · exact Or.inl (ti_ext h)
  · exact Or.inr (Or.inl (ti_ext h))
  · exact Or.inr (Or.inr (Or.inl (ti_ext h)))
  · exact Or.inr (Or.inr (Or.inr (Or.inl (ti_ext h))))
  · exact Or.inr (Or.inr (Or.inr (Or.inr (Or.inl (ti_ext h)))))
  · exact Or.inr (Or.inr (Or.inr (Or.inr (Or.inr (Or.inl (ti_ext h))))))
  · exact Or.inr (Or.inr (Or.inr (Or.inr (Or.inr (Or.inr (Or.inl (ti_ext h)))))))
  · exact Or.inr (Or.inr (Or.inr (Or.inr (Or.inr (Or.inr (Or.inr (ti_ext h)))))))
def r7 (k : Int32) : Prop := 0 ≤ k.toInt ∧ k.toInt ≤ 7
theorem r7_and (x : Int32) : r7 (x &&& 7) := by unfold r7; rw [ti_and7]; omega
theorem and7_id {k : Int32} (h : r7 k) : k &&& 7 = k := ti_ext (by rw [ti_and7]; have := h.1; have := h.2; omega)
theorem vp_7 {k : Int32} (h : r7 k) : vp_in k 8 := ti_in h.1 (by have := h.2; omega)
def r3 (k : Int32) : Prop := 0 ≤ k.toInt ∧ k.toInt ≤ 3
theorem r3_and (x : Int32) : r3 (x &&& 3) := by unfold r3; rw [ti_and3]; omega
theorem and3_id {k : Int32} (h : r3 k) : k &&& 3 = k := ti_ext (by rw [ti_and3]; have := h.1; have := h.2; omega)
theorem vp_3 {k : Int32} (h : r3 k) : vp_in k 4 := ti_in h.1 (by have := h.2; omega)
def fReg (f : A32) (k w : Int32) : Int32 := if w = 0 then (if 4 ≤ k then f (k - 4).toNatClampNeg >>> ((8 : Int32) &&& 31) else f k.toNatClampNeg &&& 255) else f k.toNatClampNeg
def fSetR (f : A32) (k w v : Int32) : A32 := if w = 0 then (if 4 ≤ k then upd f (k - 4).toNatClampNeg (f (k - 4).toNatClampNeg &&& 255 ||| (v &&& 255) <<< ((8 : Int32) &&& 31)) else upd f k.toNatClampNeg (f k.toNatClampNeg &&& 65280 ||| v &&& 255)) else upd f k.toNatClampNeg (v &&& 65535)
/-- what the class does with a register's number -/
theorem k_low {k : Int32} (h : r7 k) : (k &&& 4 = 0 ↔ ¬ 4 ≤ k) ∧ (4 ≤ k → k &&& 3 = k - 4 ∧ vp_in (k - 4) 8) ∧ (¬ 4 ≤ k → k &&& 3 = k) ∧ vp_in (k &&& 3) 8 := by
  rcases in8 h.1 h.2 with rfl | rfl | rfl | rfl | rfl | rfl | rfl | rfl <;> exact ⟨by decide, by unfold vp_in; decide, by decide, by unfold vp_in; decide⟩
theorem hi_255 {x : Int32} (h : rW x) : x >>> ((8 : Int32) &&& 31) &&& 255 = x >>> ((8 : Int32) &&& 31) := ti_ext (by
  rw [ti_and255, ti_shr8]; have := h.1; have := h.2; omega)
theorem iX6_register {k w : Int32} {q : SQ} {P : Int32 → SQ → Prop} (hk : r7 k) (h : P (fReg (q_registers q) k w) q) : wX6_register k w q P := by
  unfold fReg at h
  refine ⟨fun c => ⟨fun c2 => ⟨((k_low hk).2.1 c2).2, ?_⟩, fun c2 => ⟨vp_7 hk, ?_⟩⟩, fun c => ⟨vp_7 hk, ?_⟩⟩
  · rw [if_pos c, if_pos c2] at h; exact h
  · rw [if_pos c, if_neg c2] at h; exact h
  · rw [if_neg c] at h; exact h
theorem iX6_setRegister {k w v : Int32} {q : SQ} {P : SQ → Prop} (hk : r7 k) (h : P (qs_registers q (fSetR (q_registers q) k w v))) : wX6_setRegister k w v q P := by
  unfold fSetR at h
  refine ⟨fun c => ⟨fun c2 => ⟨((k_low hk).2.1 c2).2, ((k_low hk).2.1 c2).2, ?_⟩, fun c2 => ⟨vp_7 hk, vp_7 hk, ?_⟩⟩, fun c => ⟨vp_7 hk, ?_⟩⟩
  · rw [if_pos c, if_pos c2] at h; exact h
  · rw [if_pos c, if_neg c2] at h; exact h
  · rw [if_neg c] at h; exact h
theorem iX4_value {k w : Int32} {u : SR} {P : Int32 → SR → Prop} (hI : InvR u) (hk : r7 k) (h : P (fReg (r_words u) k w) u) : wX4_value k w u P := by
  unfold fReg at h
  unfold wX4_value
  rw [and7_id hk]
  have hl := k_low hk
  refine ⟨fun c => ⟨hl.2.2.2, fun c2 => ?_, fun c2 => ?_⟩, fun c => ⟨vp_7 hk, ?_⟩⟩
  · have c3 := hl.1.mp c2
    rw [if_pos c, if_neg c3] at h
    rw [sb_shr0, hl.2.2.1 c3]
    exact h
  · have c3 : 4 ≤ k := Decidable.of_not_not (fun z => c2 (hl.1.mpr z))
    rw [if_pos c, if_pos c3] at h
    rw [hi_255 (hI.1 _), (hl.2.1 c3).1]
    exact h
  · rw [if_neg c] at h; exact h
theorem iX4_give {k w v : Int32} {u : SR} {P : SR → Prop} (hk : r7 k) (h : P (rs_words u (fSetR (r_words u) k w v))) : wX4_give k v w u P := by
  unfold fSetR at h
  unfold wX4_give
  rw [and7_id hk]
  have hl := k_low hk
  refine ⟨fun c => ⟨fun c2 => ⟨hl.2.2.2, hl.2.2.2, ?_⟩, fun c2 => ⟨hl.2.2.2, hl.2.2.2, ?_⟩⟩, fun c => ⟨vp_7 hk, ?_⟩⟩
  · have c3 := hl.1.mp c2
    rw [if_pos c, if_neg c3] at h
    rw [hl.2.2.1 c3]
    exact h
  · have c3 : 4 ≤ k := Decidable.of_not_not (fun z => c2 (hl.1.mpr z))
    rw [if_pos c, if_pos c3] at h
    rw [(hl.2.1 c3).1]
    exact h
  · rw [if_neg c] at h; exact h
theorem iX4_word {k : Int32} {u : SR} {P : Int32 → SR → Prop} (h : P (r_words u (k &&& 7).toNatClampNeg) u) : wX4_word k u P := ⟨vp_7 (r7_and k), h⟩
theorem iX4_setWord {k v : Int32} {u : SR} {P : SR → Prop} (h : P (rs_words u (upd (r_words u) (k &&& 7).toNatClampNeg (v &&& 65535)))) : wX4_setWord k v u P := ⟨vp_7 (r7_and k), h⟩
theorem iX4_segment {k : Int32} {u : SR} {P : Int32 → SR → Prop} (h : P (r_segments u (k &&& 3).toNatClampNeg) u) : wX4_segment k u P := ⟨vp_3 (r3_and k), h⟩
theorem iX4_setSegment {k v : Int32} {u : SR} {P : SR → Prop} (h : P (rs_segments u (upd (r_segments u) (k &&& 3).toNatClampNeg (v &&& 65535)))) : wX4_setSegment k v u P := ⟨vp_3 (r3_and k), h⟩
theorem iX4_moveTo {v : Int32} {u : SR} {P : SR → Prop} (h : P (rs_ip u (v &&& 65535))) : wX4_moveTo v u P := h
-- ----- invariants
theorem inv_updW {f : A32} (h : ∀ i, rW (f i)) (k : Nat) {v : Int32} (hv : rW v) : ∀ i, rW (upd f k v i) := by
  intro i; unfold upd; split
  · exact hv
  · exact h i
theorem or_hi {a b : Int32} (ha : rB a) (hb : rB b) : rW (a ||| b <<< ((8 : Int32) &&& 31)) := by
  have e := or8 ha hb
  exact ⟨by rw [e]; have := ha.1; have := hb.1; omega, by rw [e]; have := ha.2; have := hb.2; omega⟩
theorem or_lo {a b : Int32} (ha : rW a) (hb : rB b) : rW (a &&& 65280 ||| b) := by
  have na := ti_nat (a &&& 65280 ||| b)
  have h : (a &&& 65280 ||| b).toBitVec.toNat < 2 ^ 16 := by
    rw [Int32.toBitVec_or, BitVec.toNat_or, Int32.toBitVec_and, BitVec.toNat_and]
    refine Nat.or_lt_two_pow ?_ ?_
    · exact Nat.lt_of_le_of_lt Nat.and_le_right (by decide)
    · have nb := ti_nat b
      have := hb.1
      have := hb.2
      split at nb <;> omega
  unfold rW
  have l := ti_lo (a &&& 65280 ||| b)
  split at na <;> omega
theorem inv_setR {f : A32} (h : ∀ i, rW (f i)) (k w v : Int32) : ∀ i, rW (fSetR f k w v i) := by
  unfold fSetR
  split
  · split
    · exact inv_updW h _ (or_hi (rB_and _) (rB_and _))
    · exact inv_updW h _ (or_lo (h _) (rB_and _))
  · exact inv_updW h _ (rW_and _)
theorem rO_reg {f : A32} (h : ∀ i, rW (f i)) (k w : Int32) : rO (fReg f k w) w := by
  unfold fReg
  split
  · rename_i hw
    rw [hw]
    refine rO_0.mpr ?_
    split
    · have hx := h (k - 4).toNatClampNeg
      unfold rB
      rw [ti_shr8]; have h1 := hx.1; have h2 := hx.2; omega
    · exact rB_and _
  · rename_i hw
    exact (rO_1 hw).mpr (h _)
-- ----- the stack
theorem r7_4 : r7 4 := ⟨by decide, by decide⟩
theorem r3_2 : r3 2 := ⟨by decide, by decide⟩
def fSP (q : SQ) (v : Int32) : SQ := qs_registers q (upd (q_registers q) 4 (v &&& 65535))
def fPush (q : SQ) (v : Int32) : SQ := sMQ (fSP q (q_registers q 4 - 2)) (fPut (mQ q) (q_segments q 2) (upd (q_registers q) 4 (q_registers q 4 - 2 &&& 65535) 4) 1 v)
def fPopV (q : SQ) : Int32 := fGet (mQ q) (q_segments q 2) (q_registers q 4) 1
def fPop (q : SQ) : SQ := fSP q (q_registers q 4 + 2)
theorem iX6_push {v : Int32} {q : SQ} {P : SQ → Prop} (hI : Inv q) (h : P (fPush q v)) : wX6_push v q P :=
  ⟨vp_7 r7_4, vp_7 r7_4, vp_3 r3_2, vp_7 r7_4, iX6_put hI.1 h⟩
theorem iX6_pop {q : SQ} {P : Int32 → SQ → Prop} (hI : Inv q) (h : P (fPopV q) (fPop q)) : wX6_pop q P :=
  ⟨vp_3 r3_2, vp_7 r7_4, iX6_get hI.1 ⟨vp_7 r7_4, vp_7 r7_4, h⟩⟩
theorem iX3_push {v cd : Int32} {k : SC} {q : SQ} {P : SP → Prop} (hI : Inv q) (h : P (pO (fPush q v) cd k)) : wX3_push v (pO q cd k) P :=
  iX4_word (iX4_setWord (iX4_segment (iX4_word (iX2_store hI.1 h))))
theorem iX3_pop {cd : Int32} {k : SC} {q : SQ} {P : Int32 → SP → Prop} (hI : Inv q) (h : P (fPopV q) (pO (fPop q) cd k)) : wX3_pop (pO q cd k) P :=
  iX4_word (iX4_setWord (iX4_segment (iX2_load hI.1 h)))
theorem inv_SP {q : SQ} (h : Inv q) (v : Int32) : Inv (fSP q v) := ⟨h.1, ⟨inv_updW h.2.1.1 _ (rW_and v), h.2.1.2⟩, h.2.2⟩
theorem inv_push {q : SQ} (h : Inv q) (v : Int32) : Inv (fPush q v) := ⟨inv_put h.1, (inv_SP h _).2⟩
theorem inv_pop {q : SQ} (h : Inv q) : Inv (fPop q) := inv_SP h _
theorem rW_popV {q : SQ} (h : Inv q) : rW (fPopV q) := rO_W (rO_get h.1 _ _ _)
-- ----- ports
def fPort (q : SQ) (p : Int32) : Int32 := q_ports q (p &&& 255).toNatClampNeg
def fSetP (q : SQ) (p v : Int32) : SQ := qs_ports q (upd (q_ports q) (p &&& 255).toNatClampNeg (v &&& 255))
theorem vp_255 (p : Int32) : vp_in (p &&& 255) 256 := ti_in (rB_and p).1 (by have := (rB_and p).2; omega)
theorem iX3_portByte {p cd : Int32} {k : SC} {q : SQ} {P : Int32 → SP → Prop} (hI : Inv q) (h : P (fPort q p) (pO q cd k)) : wX3_portByte p (pO q cd k) P := by
  refine ⟨vp_255 p, ?_⟩
  show P (sx (q_ports q (p &&& 255).toNatClampNeg) &&& 255) (pO q cd k)
  rw [sx_and (hI.2.2 _)]
  exact h
theorem iX3_givePort {p v cd : Int32} {k : SC} {q : SQ} {P : SP → Prop} (h : P (pO (fSetP q p v) cd k)) : wX3_givePort p v (pO q cd k) P := by
  refine ⟨vp_255 p, ?_⟩
  rw [nar_b]
  show P (ps_ports (pO q cd k) (upd (sxA (q_ports q)) (p &&& 255).toNatClampNeg (sx v)))
  rw [sxA_upd]
  exact h
theorem inv_setP {q : SQ} (h : Inv q) (p v : Int32) : Inv (fSetP q p v) := ⟨h.1, h.2.1, fun i => by
  show rB (upd (q_ports q) _ (v &&& 255) i)
  unfold upd; split
  · exact rB_and v
  · exact h.2.2 i⟩
