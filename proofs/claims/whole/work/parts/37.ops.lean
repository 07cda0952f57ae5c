-- ===== operands, and the first groups of codes =====
theorem inv_R {q : SQ} {f : A32} (h : Inv q) (hf : ∀ i, rW (f i)) : Inv (qs_registers q f) := ⟨h.1, ⟨hf, h.2.1.2⟩, h.2.2⟩
theorem inv_Sg {q : SQ} {f : A32} (h : Inv q) (hf : ∀ i, rW (f i)) : Inv (qs_segments q f) := ⟨h.1, ⟨h.2.1.1, hf, h.2.1.2.2⟩, h.2.2⟩
theorem inv_Ip {q : SQ} {v : Int32} (h : Inv q) (hv : rW v) : Inv (qs_ip q v) := ⟨h.1, ⟨h.2.1.1, h.2.1.2.1, hv⟩, h.2.2⟩
theorem inv_F {q : SQ} (f : Int32) (h : Inv q) : Inv (qs_flags q f) := h
theorem inv_Mm {q : SQ} {u : SM} (h : Inv q) (hu : InvM u) : Inv (sMQ q u) := ⟨hu, h.2⟩
/-- what the class's code says and what the reference's says of the operand e -/
def DecM (k : SC) (q : SQ) : Prop := c_mode k = q_mode q ∧ c_m k = q_m q ∧ c_r k = q_r q ∧ (¬ q_mode q = 3 → c_eSegment k = q_place q ∧ c_offset k = q_offset q) ∧ r7 (q_m q) ∧ r7 (q_r q)
def fE (q : SQ) (w : Int32) : Int32 := if q_mode q = 3 then fReg (q_registers q) (q_m q) w else fGet (mQ q) (q_place q) (q_offset q) w
def fGv (q : SQ) (w v : Int32) : SQ := if q_mode q = 3 then qs_registers q (fSetR (q_registers q) (q_m q) w v) else sMQ q (fPut (mQ q) (q_place q) (q_offset q) w v)
theorem rO_e {q : SQ} (h : Inv q) (w : Int32) : rO (fE q w) w := by
  unfold fE; split
  · exact rO_reg h.2.1.1 _ _
  · exact rO_get h.1 _ _ _
theorem inv_gv {q : SQ} (h : Inv q) (w v : Int32) : Inv (fGv q w v) := by
  unfold fGv; split
  · exact inv_R h (inv_setR h.2.1.1 _ _ _)
  · exact inv_Mm h (inv_put h.1)
theorem iX6_operand {w : Int32} {q : SQ} {P : Int32 → SQ → Prop} (hI : Inv q) (hm : r7 (q_m q)) (h : P (fE q w) q) : wX6_operand w q P := by
  unfold fE at h
  refine ⟨fun c => iX6_register hm ?_, fun c => iX6_get hI.1 ?_⟩
  · rw [if_pos c] at h; exact h
  · rw [if_neg c] at h; exact h
theorem iX6_give {w v : Int32} {q : SQ} {P : SQ → Prop} (hI : Inv q) (hm : r7 (q_m q)) (h : P (fGv q w v)) : wX6_give w v q P := by
  unfold fGv at h
  refine ⟨fun c => iX6_setRegister hm ?_, fun c => iX6_put hI.1 ?_⟩
  · rw [if_pos c] at h; exact h
  · rw [if_neg c] at h; exact h
theorem iX1_inRegister {k : SC} {P : Int32 → SC → Prop} (h : P (bI (c_mode k = 3)) k) : wX1_inRegister k P := br_p (fun z => P z k) h
theorem iX3_e {w cd : Int32} {k : SC} {q : SQ} {P : Int32 → SP → Prop} (hI : Inv q) (hD : DecM k q) (h : P (fE q w) (pO q cd k)) : wX3_e w (pO q cd k) P := by
  unfold fE at h
  refine iX1_inRegister ⟨fun c => ?_, fun c => ?_⟩
  · have c2 : ¬ q_mode q = 3 := by rw [← hD.1]; exact bI_0.mp c
    rw [if_neg c2] at h
    refine iX2_load hI.1 ?_
    show P (fGet (mQ q) (c_eSegment k) (c_offset k) w) (pO q cd k)
    rw [(hD.2.2.2.1 c2).1, (hD.2.2.2.1 c2).2]
    exact h
  · have c2 : q_mode q = 3 := by rw [← hD.1]; exact Decidable.of_not_not (fun z => c (bI_0.mpr z))
    rw [if_pos c2] at h
    refine iX4_value hI.2.1 (by show r7 (c_m k); rw [hD.2.1]; exact hD.2.2.2.2.1) ?_
    show P (fReg (q_registers q) (c_m k) w) (pO q cd k)
    rw [hD.2.1]
    exact h
theorem iX3_giveE {w v cd : Int32} {k : SC} {q : SQ} {P : SP → Prop} (hI : Inv q) (hD : DecM k q) (h : P (pO (fGv q w v) cd k)) : wX3_giveE v w (pO q cd k) P := by
  unfold fGv at h
  refine iX1_inRegister ⟨fun c => ?_, fun c => ?_⟩
  · have c2 : ¬ q_mode q = 3 := by rw [← hD.1]; exact bI_0.mp c
    rw [if_neg c2] at h
    refine iX2_store hI.1 ?_
    show P (pO (sMQ q (fPut (mQ q) (c_eSegment k) (c_offset k) w v)) cd k)
    rw [(hD.2.2.2.1 c2).1, (hD.2.2.2.1 c2).2]
    exact h
  · have c2 : q_mode q = 3 := by rw [← hD.1]; exact Decidable.of_not_not (fun z => c (bI_0.mpr z))
    rw [if_pos c2] at h
    refine iX4_give (by show r7 (c_m k); rw [hD.2.1]; exact hD.2.2.2.2.1) ?_
    show P (pO (qs_registers q (fSetR (q_registers q) (c_m k) w v)) cd k)
    rw [hD.2.1]
    exact h
theorem iX3_wordBehindE {cd : Int32} {k : SC} {q : SQ} {P : Int32 → SP → Prop} (hI : Inv q) (hD : DecM k q) (hn : ¬ q_mode q = 3) (h : P (fGet (mQ q) (q_place q) (q_offset q + 2) 1) (pO q cd k)) : wX3_wordBehindE (pO q cd k) P := by
  refine iX2_load hI.1 ?_
  show P (fGet (mQ q) (c_eSegment k) (c_offset k + 2) 1) (pO q cd k)
  rw [(hD.2.2.2.1 hn).1, (hD.2.2.2.1 hn).2]
  exact h
theorem iX3_a {w cd : Int32} {k : SC} {q : SQ} {P : Int32 → SP → Prop} (hI : Inv q) (h : P (fReg (q_registers q) 0 w) (pO q cd k)) : wX3_a w (pO q cd k) P := iX4_value hI.2.1 ⟨by decide, by decide⟩ h
theorem iX3_giveA {w v cd : Int32} {k : SC} {q : SQ} {P : SP → Prop} (h : P (pO (qs_registers q (fSetR (q_registers q) 0 w v)) cd k)) : wX3_giveA v w (pO q cd k) P := iX4_give ⟨by decide, by decide⟩ h
theorem r7_0 : r7 0 := ⟨by decide, by decide⟩
theorem r7_O {k : Int32} (h : r7 k) : ¬ k = 9 ∧ ¬ k = 10 := by
  have := h.2
  exact ⟨fun q => by rw [q] at this; exact absurd this (by decide), fun q => by rw [q] at this; exact absurd this (by decide)⟩
/-- an operation upon e -/
def fOpE (q : SQ) (o b w : Int32) : SQ := if o = 7 ∨ o = 8 then qs_flags q (fOpF (q_flags q) o (fE q w) b w) else fGv (qs_flags q (fOpF (q_flags q) o (fE q w) b w)) w (fOpV (q_flags q) o (fE q w) b w)
theorem inv_opE {q : SQ} (h : Inv q) (o b w : Int32) : Inv (fOpE q o b w) := by
  unfold fOpE; split
  · exact h
  · exact inv_gv (inv_F _ h) _ _
theorem iX3_operateE {o b w cd : Int32} {k : SC} {q : SQ} {P : SP → Prop} (hI : Inv q) (hD : DecM k q) (hb : rO b w) (h9 : ¬ o = 9 ∧ ¬ o = 10) (h : P (pO (fOpE q o b w) cd k)) : wX3_operateE o b w (pO q cd k) P := by
  unfold fOpE at h
  refine iX3_e hI hD (iX0_operation (rO_e hI w) hb h9.1 h9.2 ⟨fun c => ?_, fun c => ⟨fun c2 => ?_, fun c2 => ?_⟩⟩)
  · rw [if_pos (Or.inl c)] at h; exact h
  · rw [if_pos (Or.inr c2)] at h; exact h
  · rw [if_neg (fun z => z.elim c c2)] at h
    exact iX3_giveE (q := qs_flags q _) hI hD h
-- ----- the outcome of a code: the reference's end and the class's
def fFlg (f : Int32) : Int32 := f ||| 61442
def fIntA (q : SQ) : SQ := qs_flags q (q_flags q &&& (-769))
def fIntB (q : SQ) (n : Int32) : SQ := qs_segments (qs_ip q (fGet (mQ q) 0 (4 * n) 1)) (upd (q_segments q) 1 (fGet (mQ q) 0 (4 * n + 2) 1))
def fIntC (q : SQ) : SQ := fPush q (q_ip q)
def fIntD (q : SQ) : SQ := fPush q (q_segments q 1)
def fInt (q : SQ) (n : Int32) : SQ := fIntB (fIntC (fIntD (fIntA (fPush q (q_flags q ||| 61442))))) n
def fFin (q : SQ) (cd : Int32) : SQ := if cd = -1 then q else fInt q cd
def Kept (q q1 : SQ) (gv : Int32) : Prop := q_thrown q1 = q_thrown q ∧ q_line q1 = q_line q ∧ q_steps q1 = q_steps q ∧ q_trapped q1 = q_trapped q ∧ q_interrupted q1 = q_interrupted q ∧ q_gave q1 = gv
def Sim (wm : (SQ → Prop) → Prop) (wc : (SP → Prop) → Prop) (q : SQ) (k : SC) (gv : Int32) : Prop := ∃ (q1 : SQ) (cd : Int32), Inv q1 ∧ Kept q q1 gv ∧ (∀ P, P (fFin q1 cd) → wm P) ∧ (∀ P, P (pO q1 cd k) → wc P)
theorem Sim.one {wm : (SQ → Prop) → Prop} {wc : (SP → Prop) → Prop} {q q1 : SQ} {k : SC} {gv : Int32} (hm : ∀ P : SQ → Prop, P q1 → wm P) (hc : ∀ P : SP → Prop, P (pO q1 (-1) k) → wc P) (inv : Inv q1) (kept : Kept q q1 gv) : Sim wm wc q k gv :=
  ⟨q1, -1, inv, kept, fun P h => hm P (by rw [fFin, if_pos rfl] at h; exact h), hc⟩
theorem Sim.int {wm : (SQ → Prop) → Prop} {wc : (SP → Prop) → Prop} {q q1 : SQ} {k : SC} {gv : Int32} {n : Int32} (hn : ¬ n = -1) (hm : ∀ P : SQ → Prop, P (fInt q1 n) → wm P) (hc : ∀ P : SP → Prop, P (pO q1 n k) → wc P) (inv : Inv q1) (kept : Kept q q1 gv) : Sim wm wc q k gv :=
  ⟨q1, n, inv, kept, fun P h => hm P (by rw [fFin, if_neg hn] at h; exact h), hc⟩
