-- ===== the class's parts inside the processor's state =====
theorem iX6_isWide {q : SQ} {P : Int32 → SQ → Prop} (h0 : 0 ≤ (q_code q).toInt) (h : P (q_code q &&& 1) q) : wX6_isWide q P := by
  unfold wX6_isWide
  rw [mod_two h0]
  refine ⟨by decide, fun c => ?_, fun c => ?_⟩
  · rw [c] at h; exact h
  · rcases rC_and1 (q_code q) with d | d
    · rw [d] at h; exact h
    · exact absurd d c
theorem iX1_wide {k : SC} {P : Int32 → SC → Prop} (h : P (c_number k &&& 1) k) : wX1_wide k P := by
  refine ⟨fun c => ?_, fun c => ?_⟩
  · rw [c] at h; exact h
  · rcases rC_and1 (c_number k) with d | d
    · exact absurd d c
    · rw [d] at h; exact h
section PL
variable {q : SQ} {cd : Int32} {k : SC}
theorem pO_gave (g : Int32) : pO (qs_gave q g) cd k = pO q cd k := rfl
theorem iP_setSegment {j v : Int32} {P : SP → Prop} (h : P (pO (qs_segments q (upd (q_segments q) (j &&& 3).toNatClampNeg (v &&& 65535))) cd k)) : wX4_setSegment j v (p_regs (pO q cd k)) (fun r => P (ps_regs (pO q cd k) r)) := iX4_setSegment h
theorem iP_setWord {j v : Int32} {P : SP → Prop} (h : P (pO (qs_registers q (upd (q_registers q) (j &&& 7).toNatClampNeg (v &&& 65535))) cd k)) : wX4_setWord j v (p_regs (pO q cd k)) (fun r => P (ps_regs (pO q cd k) r)) := iX4_setWord h
theorem iP_give {j w v : Int32} {P : SP → Prop} (hj : r7 j) (h : P (pO (qs_registers q (fSetR (q_registers q) j w v)) cd k)) : wX4_give j v w (p_regs (pO q cd k)) (fun r => P (ps_regs (pO q cd k) r)) := iX4_give hj h
theorem iP_moveTo {v : Int32} {P : SP → Prop} (h : P (pO (qs_ip q (v &&& 65535)) cd k)) : wX4_moveTo v (p_regs (pO q cd k)) (fun r => P (ps_regs (pO q cd k) r)) := iX4_moveTo h
theorem iP_word {j : Int32} {P : Int32 → SP → Prop} (h : P (q_registers q (j &&& 7).toNatClampNeg) (pO q cd k)) : wX4_word j (p_regs (pO q cd k)) (fun x r => P x (ps_regs (pO q cd k) r)) := iX4_word h
theorem iP_segment {j : Int32} {P : Int32 → SP → Prop} (h : P (q_segments q (j &&& 3).toNatClampNeg) (pO q cd k)) : wX4_segment j (p_regs (pO q cd k)) (fun x r => P x (ps_regs (pO q cd k) r)) := iX4_segment h
theorem iP_value {j w : Int32} {P : Int32 → SP → Prop} (hI : Inv q) (hj : r7 j) (h : P (fReg (q_registers q) j w) (pO q cd k)) : wX4_value j w (p_regs (pO q cd k)) (fun x r => P x (ps_regs (pO q cd k) r)) := iX4_value hI.2.1 hj h
theorem iP_wide {P : Int32 → SP → Prop} (h : P (c_number k &&& 1) (pO q cd k)) : wX1_wide (p_code (pO q cd k)) (fun x c => P x (ps_code (pO q cd k) c)) := iX1_wide h
theorem iP_load {s off w : Int32} {P : Int32 → SP → Prop} (hI : Inv q) (h : P (fGet (mQ q) s off w) (pO q cd k)) : wX2_load s off w (p_mem (pO q cd k)) (fun x m => P x (ps_mem (pO q cd k) m)) := iX2_load hI.1 h
theorem iP_store {s off w v : Int32} {P : SP → Prop} (hI : Inv q) (h : P (pO (sMQ q (fPut (mQ q) s off w v)) cd k)) : wX2_store s off v w (p_mem (pO q cd k)) (fun m => P (ps_mem (pO q cd k) m)) := iX2_store hI.1 h
theorem iP_has {b : Int32} {P : Int32 → SP → Prop} (h : P (fH (q_flags q) b) (pO q cd k)) : wX0_has b (p_flags (pO q cd k)) (fun x f => P x (ps_flags (pO q cd k) f)) := iX0_has h
theorem iP_mark {b on : Int32} {P : SP → Prop} (h : P (pO (qs_flags q (fMark (q_flags q) b on)) cd k)) : wX0_mark b on (p_flags (pO q cd k)) (fun f => P (ps_flags (pO q cd k) f)) := iX0_mark h
theorem iP_keep {v : Int32} {P : SP → Prop} (h : P (pO (qs_flags q (v &&& 4053)) cd k)) : wX0_keep v (p_flags (pO q cd k)) (fun f => P (ps_flags (pO q cd k) f)) := iX0_keep h
theorem iP_operation {o a b w : Int32} {P : Int32 → SP → Prop} (ha : rO a w) (hb : rO b w) (h9 : ¬ o = 9 ∧ ¬ o = 10) (h : P (fOpV (q_flags q) o a b w) (pO (qs_flags q (fOpF (q_flags q) o a b w)) cd k)) : wX0_operation o a b w (p_flags (pO q cd k)) (fun x f => P x (ps_flags (pO q cd k) f)) := iX0_operation ha hb h9.1 h9.2 h
theorem iP_compare {a b w : Int32} {P : SP → Prop} (ha : rO a w) (hb : rO b w) (h : P (pO (qs_flags q (fDifF (q_flags q) a b 0 w)) cd k)) : wX0_compare a b w (p_flags (pO q cd k)) (fun f => P (ps_flags (pO q cd k) f)) := iX0_compare ha hb h
end PL
-- ===== what a code leaves alone =====
def Same (q q1 : SQ) : Prop := q_thrown q1 = q_thrown q ∧ q_line q1 = q_line q ∧ q_steps q1 = q_steps q ∧ q_trapped q1 = q_trapped q ∧ q_interrupted q1 = q_interrupted q ∧ q_gave q1 = q_gave q
theorem Same.kept {q q1 : SQ} {gv : Int32} (h : Same q q1) (hg : q_gave q = gv) : Kept q q1 gv := ⟨h.1, h.2.1, h.2.2.1, h.2.2.2.1, h.2.2.2.2.1, h.2.2.2.2.2.trans hg⟩
theorem Same.rf {q : SQ} : Same q q := ⟨rfl, rfl, rfl, rfl, rfl, rfl⟩
theorem Same.tr {q q1 q2 : SQ} (h : Same q q1) (h2 : Same q1 q2) : Same q q2 := ⟨h2.1.trans h.1, h2.2.1.trans h.2.1, h2.2.2.1.trans h.2.2.1, h2.2.2.2.1.trans h.2.2.2.1, h2.2.2.2.2.1.trans h.2.2.2.2.1, h2.2.2.2.2.2.trans h.2.2.2.2.2⟩
theorem same_R (q : SQ) (f : A32) : Same q (qs_registers q f) := ⟨rfl, rfl, rfl, rfl, rfl, rfl⟩
theorem same_Sg (q : SQ) (f : A32) : Same q (qs_segments q f) := ⟨rfl, rfl, rfl, rfl, rfl, rfl⟩
theorem same_F (q : SQ) (f : Int32) : Same q (qs_flags q f) := ⟨rfl, rfl, rfl, rfl, rfl, rfl⟩
theorem same_Ip (q : SQ) (f : Int32) : Same q (qs_ip q f) := ⟨rfl, rfl, rfl, rfl, rfl, rfl⟩
theorem same_Pt (q : SQ) (f : A32) : Same q (qs_ports q f) := ⟨rfl, rfl, rfl, rfl, rfl, rfl⟩
theorem same_Ht (q : SQ) (f : Int32) : Same q (qs_halted q f) := ⟨rfl, rfl, rfl, rfl, rfl, rfl⟩
theorem same_Rp (q : SQ) (f : Int32) : Same q (qs_repetitions q f) := ⟨rfl, rfl, rfl, rfl, rfl, rfl⟩
theorem same_M (q : SQ) (u : SM) : Same q (sMQ q u) := ⟨rfl, rfl, rfl, rfl, rfl, rfl⟩
theorem same_SP (q : SQ) (v : Int32) : Same q (fSP q v) := same_R q _
theorem same_push (q : SQ) (v : Int32) : Same q (fPush q v) := (same_SP q _).tr (same_M _ _)
theorem same_pop (q : SQ) : Same q (fPop q) := same_SP q _
theorem same_gv (q : SQ) (w v : Int32) : Same q (fGv q w v) := by
  unfold fGv; split
  · exact same_R q _
  · exact same_M q _
theorem same_opE (q : SQ) (o b w : Int32) : Same q (fOpE q o b w) := by
  unfold fOpE; split
  · exact same_F q _
  · exact (same_F q _).tr (same_gv _ _ _)
theorem kept_gave {q q1 : SQ} {gv : Int32} (h : Same q q1) : Kept q (qs_gave q1 gv) gv := ⟨h.1, h.2.1, h.2.2.1, h.2.2.2.1, h.2.2.2.2.1, rfl⟩
/-- instruction's own parts, which no code changes -/
def SameI (q q1 : SQ) : Prop := q_mode q1 = q_mode q ∧ q_m q1 = q_m q ∧ q_r q1 = q_r q ∧ q_place q1 = q_place q ∧ q_offset q1 = q_offset q
theorem SameI.dec {k : SC} {q q1 : SQ} (h : SameI q q1) (hD : DecM k q) : DecM k q1 := by
  obtain ⟨h1, h2, h3, h4, h5⟩ := h
  unfold DecM
  rw [h1, h2, h3, h4, h5]
  exact hD
theorem si_M (q : SQ) (u : SM) : SameI q (sMQ q u) := ⟨rfl, rfl, rfl, rfl, rfl⟩
theorem si_R (q : SQ) (f : A32) : SameI q (qs_registers q f) := ⟨rfl, rfl, rfl, rfl, rfl⟩
theorem si_F (q : SQ) (f : Int32) : SameI q (qs_flags q f) := ⟨rfl, rfl, rfl, rfl, rfl⟩
theorem si_Ip (q : SQ) (f : Int32) : SameI q (qs_ip q f) := ⟨rfl, rfl, rfl, rfl, rfl⟩
theorem SameI.tr {q q1 q2 : SQ} (h : SameI q q1) (h2 : SameI q1 q2) : SameI q q2 := ⟨h2.1.trans h.1, h2.2.1.trans h.2.1, h2.2.2.1.trans h.2.2.1, h2.2.2.2.1.trans h.2.2.2.1, h2.2.2.2.2.trans h.2.2.2.2⟩
theorem si_SP (q : SQ) (v : Int32) : SameI q (fSP q v) := si_R q _
theorem si_push (q : SQ) (v : Int32) : SameI q (fPush q v) := (si_SP q _).tr (si_M _ _)
theorem si_gv (q : SQ) (w v : Int32) : SameI q (fGv q w v) := by
  unfold fGv; split
  · exact si_R q _
  · exact si_M q _
theorem inv_gave {q : SQ} (g : Int32) (h : Inv q) : Inv (qs_gave q g) := h
theorem inv_Ht {q : SQ} (g : Int32) (h : Inv q) : Inv (qs_halted q g) := h
theorem inv_Rp {q : SQ} (g : Int32) (h : Inv q) : Inv (qs_repetitions q g) := h
