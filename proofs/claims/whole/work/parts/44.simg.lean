-- ===== codes E0 to EF =====
def fDec (q : SQ) : SQ := qs_registers q (upd (q_registers q) 1 (q_registers q 1 - 1 &&& 65535))
def fZf (q : SQ) : Int32 := if q_code q = 226 then 1 else bI (fH (q_flags q) 64 = bI (q_code q = 225))
def fLpD (q : SQ) : Int32 := if q_registers (fDec q) 1 = 0 then 0 else if fZf q = 0 then 0 else q_i q
theorem inv_dec {q : SQ} (h : Inv q) : Inv (fDec q) := inv_R h (inv_updW h.2.1.1 _ (rW_and _))
theorem br_eq {a b : Int32} (B : Int32 → Prop) (h : B (bI (a = b))) : (a = b → B 1) ∧ (¬ a = b → B 0) := br_p B h
theorem im_loop {q : SQ} {P : SQ → Prop} (h : P (fJump (fDec q) (fLpD q))) : (q_code q = 226 → wX6_loopsAndPorts_b90 P (fDec q)) ∧ (¬ q_code q = 226 → wX6_has 64 (fDec q) (fun r18 u17 => (q_code u17 = 225 → wX6_loopsAndPorts_b87 P r18 1 u17) ∧ (¬ q_code u17 = 225 → wX6_loopsAndPorts_b87 P r18 0 u17))) := by
  unfold fLpD at h
  have b95 : ∀ z : Int32, z = fZf q → wX6_loopsAndPorts_b95 P z (fDec q) := by
    rintro z rfl
    refine ⟨v_18, fun c => ?_, fun c => ⟨fun c2 => ?_, fun c2 => ?_⟩⟩
    · have c' : q_registers (fDec q) 1 = 0 := c
      rw [if_pos c'] at h; exact h
    · have c' : ¬ q_registers (fDec q) 1 = 0 := c
      rw [if_neg c', if_pos c2] at h; exact h
    · have c' : ¬ q_registers (fDec q) 1 = 0 := c
      rw [if_neg c', if_neg c2] at h; exact h
  unfold fZf at b95
  refine ⟨fun c => b95 1 (by rw [if_pos c]), fun c => iX6_has ?_⟩
  rw [if_neg c] at b95
  have hc : q_code (fDec q) = q_code q := rfl
  rw [hc]
  have b87 : ∀ s : Int32, s = bI (q_code q = 225) → wX6_loopsAndPorts_b87 P (bI (¬ q_flags (fDec q) &&& 64 = 0)) s (fDec q) := by
    rintro s rfl
    exact br_p (fun z => wX6_loopsAndPorts_b95 P z (fDec q)) (b95 _ rfl)
  exact ⟨fun d => b87 1 (bI_t d).symm, fun d => b87 0 (bI_f d).symm⟩
theorem ic_loop {cd : Int32} {k : SC} {q : SQ} {P : SP → Prop} (hI : Inv q) (hn : c_number k = q_code q) (hi : q_i q = fExt (c_first k) ∧ rB (c_first k)) (h : P (pO (fJump (fDec q) (fLpD q)) cd k)) : wX3_loop (pO q cd k) P := by
  have hn' : c_number (p_code (pO q cd k)) = q_code q := hn
  have hI2 := inv_dec hI
  have jmp : ∀ c : Int32, (if c = 0 then (0 : Int32) else q_i q) = fLpD q → wX3_jumpIf c (pO (fDec q) cd k) (fun u14 => P u14) := by
    intro c hc
    refine iX3_jumpIf hI2 hi.2 ?_
    rw [← hi.1, hc]
    exact h
  have b66 : ∀ z : Int32, z = fZf q → wX3_loop_b66 P z (pO (fDec q) cd k) := by
    rintro z rfl
    refine iX4_word ⟨fun c => ?_, fun c => ⟨fun c2 => ?_, fun c2 => ?_⟩⟩
    · exact jmp 0 (by have c' : q_registers (fDec q) 1 = 0 := c; rw [if_pos rfl, fLpD, if_pos c'])
    · exact jmp 0 (by have c' : ¬ q_registers (fDec q) 1 = 0 := c; rw [if_pos rfl, fLpD, if_neg c', if_pos c2])
    · exact jmp 1 (by have c' : ¬ q_registers (fDec q) 1 = 0 := c; rw [if_neg (by decide), fLpD, if_neg c', if_neg c2])
  unfold fZf at b66
  unfold wX3_loop
  rw [hn']
  refine iX4_word (iX4_setWord ⟨fun c => b66 1 (by rw [if_pos c]), fun c => iX0_has ?_⟩)
  rw [if_neg c] at b66
  have b58 : ∀ s : Int32, s = bI (q_code q = 225) → wX3_loop_b58 P (fH (q_flags q) 64) s (pO (fDec q) cd k) := by
    rintro s rfl
    exact br_p (fun z => wX3_loop_b66 P z (pO (fDec q) cd k)) (b66 _ rfl)
  exact ⟨fun d => b58 1 (bI_t d).symm, fun d => b58 0 (bI_f d).symm⟩
-- ports
def fInV (q : SQ) (p w : Int32) : Int32 := if w = 0 then fPort q p else fPort q p ||| fPort q (p + 1) <<< ((8 : Int32) &&& 31)
def fIn_ (q : SQ) (p w : Int32) : SQ := qs_registers q (fSetR (q_registers q) 0 w (fInV q p w))
def fOut_ (q : SQ) (p w : Int32) : SQ := if w = 0 then fSetP q p (q_registers q 0 &&& 255) else fSetP (fSetP q p (q_registers q 0 &&& 255)) (p + 1) (q_registers q 0 >>> ((8 : Int32) &&& 31))
theorem im_in {p w : Int32} {q : SQ} {P : SQ → Prop} (h : P (fIn_ q p w)) : wX6_loopsAndPorts_b188 P w p q := by
  unfold fIn_ fInV at h
  refine ⟨fun c => ⟨vp_255 p, iX6_setRegister r7_0 ?_⟩, fun c => ⟨vp_255 p, vp_255 _, iX6_setRegister r7_0 ?_⟩⟩
  · rw [if_pos c] at h; exact h
  · rw [if_neg c] at h; exact h
theorem im_out {p w : Int32} {q : SQ} {P : SQ → Prop} (hI : Inv q) (h : P (fOut_ q p w)) : wX6_loopsAndPorts_b223 P w p q := by
  unfold fOut_ at h
  have e1 : q_registers q 0 &&& 255 &&& 255 = q_registers q 0 &&& 255 := and255_id (rB_and _)
  have e2 : q_registers q 0 >>> ((8 : Int32) &&& 31) &&& 255 = q_registers q 0 >>> ((8 : Int32) &&& 31) := hi_255 (hI.2.1.1 0)
  have f1 : fSetP q p (q_registers q 0 &&& 255) = qs_ports q (upd (q_ports q) (p &&& 255).toNatClampNeg (q_registers q 0 &&& 255)) := by unfold fSetP; rw [e1]
  refine ⟨v_08, vp_255 p, fun c => ?_, fun c => ⟨v_08, vp_255 _, ?_⟩⟩
  · rw [if_pos c, f1] at h; exact h
  · rw [if_neg c, f1] at h
    unfold fSetP at h
    rw [e2] at h
    exact h
theorem ic_in {p w cd : Int32} {k : SC} {q : SQ} {P : SP → Prop} (hI : Inv q) (h : P (pO (fIn_ q p w) cd k)) : wX3_usePort_b25 p P w 0 (pO q cd k) := by
  unfold fIn_ fInV at h
  refine ⟨fun _ => ⟨fun c => iX3_portByte hI (iX3_giveA (q := q) ?_), fun c => iX3_portByte hI (iX3_portByte hI (iX3_giveA (q := q) ?_))⟩, fun c => absurd rfl c⟩
  · rw [if_pos c] at h; exact h
  · rw [if_neg c] at h; exact h
theorem ic_out2 {v p cd : Int32} {k : SC} {q : SQ} {P : SP → Prop} (hI : Inv q) (h : P (pO (fSetP (fSetP q p v) (p + 1) (q_registers q 0 >>> ((8 : Int32) &&& 31))) cd k)) : wX3_a 1 (pO (fSetP q p v) cd k) (fun r11 u10 => wX3_givePort (p + 1) (r11 >>> ((8 : Int32) &&& 31)) u10 (fun u12 => P u12)) := by
  have h2 := inv_setP hI p v
  have er : q_registers (fSetP q p v) 0 = q_registers q 0 := rfl
  rw [← er] at h
  generalize fSetP q p v = q2 at h h2 ⊢
  exact iX3_a h2 (iX3_givePort (q := q2) h)
theorem ic_out {p w cd : Int32} {k : SC} {q : SQ} {P : SP → Prop} (hI : Inv q) (h : P (pO (fOut_ q p w) cd k)) : wX3_usePort_b25 p P w 1 (pO q cd k) := by
  unfold fOut_ at h
  refine ⟨fun c => absurd c (by decide), fun _ => iX3_a hI (iX3_givePort (q := q) ⟨fun c => ?_, fun c => ?_⟩)⟩
  · rw [if_pos c] at h; exact h
  · rw [if_neg c] at h
    exact ic_out2 (q := q) hI h
theorem inv_in {q : SQ} (h : Inv q) (p w : Int32) : Inv (fIn_ q p w) := inv_R h (inv_setR h.2.1.1 _ _ _)
theorem inv_out {q : SQ} (h : Inv q) (p w : Int32) : Inv (fOut_ q p w) := by
  unfold fOut_; split
  · exact inv_setP h _ _
  · exact inv_setP (inv_setP h _ _) _ _
theorem same_out (q : SQ) (p w : Int32) : Same q (fOut_ q p w) := by
  unfold fOut_; split
  · exact same_Pt q _
  · exact (same_Pt q _).tr (same_Pt _ _)

theorem simLp224 {q : SQ} {k : SC} (hI : Inv q) (hg : q_gave q = 0) (hn : c_number k = q_code q) (hi : q_i q = fExt (c_first k) ∧ rB (c_first k)) (hc : q_code q = 224) : Sim (wX6_loopsAndPorts q) (wX3_loopAndPortCodes (pO q (-1) k)) q k 0 := by
  have hn' : c_number (p_code (pO q (-1) k)) = q_code q := hn
  apply Sim.one (q1 := fJump (fDec q) (fLpD q))
  · intro P h
    exact iX6_isWide (by rw [hc]; decide) (sk (fun z => absurd (ti_le.mp z) (by rw [hc]; decide)) (sk (fun z => absurd (ti_le.mp z) (by rw [hc]; decide)) ⟨v_18, v_18, im_loop h⟩))
  · intro P h
    unfold wX3_loopAndPortCodes
    rw [hn']
    refine (tk hc ?_)
    exact ic_loop hI hn hi h
  · exact inv_jump (inv_dec hI) _
  · exact ((same_R q _).tr (same_jump _ _)).kept hg

theorem simLp225 {q : SQ} {k : SC} (hI : Inv q) (hg : q_gave q = 0) (hn : c_number k = q_code q) (hi : q_i q = fExt (c_first k) ∧ rB (c_first k)) (hc : q_code q = 225) : Sim (wX6_loopsAndPorts q) (wX3_loopAndPortCodes (pO q (-1) k)) q k 0 := by
  have hn' : c_number (p_code (pO q (-1) k)) = q_code q := hn
  apply Sim.one (q1 := fJump (fDec q) (fLpD q))
  · intro P h
    exact iX6_isWide (by rw [hc]; decide) (sk (fun z => absurd (ti_le.mp z) (by rw [hc]; decide)) (sk (fun z => absurd (ti_le.mp z) (by rw [hc]; decide)) ⟨v_18, v_18, im_loop h⟩))
  · intro P h
    unfold wX3_loopAndPortCodes
    rw [hn']
    refine (sk (by rw [hc]; decide) (tk hc ?_))
    exact ic_loop hI hn hi h
  · exact inv_jump (inv_dec hI) _
  · exact ((same_R q _).tr (same_jump _ _)).kept hg

theorem simLp226 {q : SQ} {k : SC} (hI : Inv q) (hg : q_gave q = 0) (hn : c_number k = q_code q) (hi : q_i q = fExt (c_first k) ∧ rB (c_first k)) (hc : q_code q = 226) : Sim (wX6_loopsAndPorts q) (wX3_loopAndPortCodes (pO q (-1) k)) q k 0 := by
  have hn' : c_number (p_code (pO q (-1) k)) = q_code q := hn
  apply Sim.one (q1 := fJump (fDec q) (fLpD q))
  · intro P h
    exact iX6_isWide (by rw [hc]; decide) (sk (fun z => absurd (ti_le.mp z) (by rw [hc]; decide)) (sk (fun z => absurd (ti_le.mp z) (by rw [hc]; decide)) ⟨v_18, v_18, im_loop h⟩))
  · intro P h
    unfold wX3_loopAndPortCodes
    rw [hn']
    refine (sk (by rw [hc]; decide) (sk (by rw [hc]; decide) (tk hc ?_)))
    exact ic_loop hI hn hi h
  · exact inv_jump (inv_dec hI) _
  · exact ((same_R q _).tr (same_jump _ _)).kept hg

theorem simLp227 {q : SQ} {k : SC} (hI : Inv q) (hg : q_gave q = 0) (hn : c_number k = q_code q) (hi : q_i q = fExt (c_first k) ∧ rB (c_first k)) (hc : q_code q = 227) : Sim (wX6_loopsAndPorts q) (wX3_loopAndPortCodes (pO q (-1) k)) q k 0 := by
  have hn' : c_number (p_code (pO q (-1) k)) = q_code q := hn
  apply Sim.one (q1 := fJump q (if q_registers q 1 = 0 then q_i q else 0))
  · intro P h
    exact iX6_isWide (by rw [hc]; decide) (sk (fun z => absurd (ti_le.mp z) (by rw [hc]; decide)) (tk (ti_le.mpr (by rw [hc]; decide)) (tk hc ⟨v_18, fun (c : q_registers q 1 = 0) => by rw [if_pos c] at h; exact h, fun (c : ¬ q_registers q 1 = 0) => by rw [if_neg c] at h; exact h⟩)))
  · intro P h
    unfold wX3_loopAndPortCodes
    rw [hn']
    refine (sk (by rw [hc]; decide) (sk (by rw [hc]; decide) (sk (by rw [hc]; decide) (tk hc ?_))))
    refine iX4_word ⟨fun (c : q_registers q 1 = 0) => iX3_jumpIf hI hi.2 ?_, fun (c : ¬ q_registers q 1 = 0) => iX3_jumpIf hI hi.2 ?_⟩
    · rw [if_pos c] at h; rw [if_neg (by decide), ← hi.1]; exact h
    · rw [if_neg c] at h; rw [if_pos rfl]; exact h
  · exact inv_jump hI _
  · exact (same_jump q _).kept hg

theorem simLp228 {q : SQ} {k : SC} (hI : Inv q) (hg : q_gave q = 0) (hn : c_number k = q_code q) (hi : q_i q = c_first k) (hc : q_code q = 228) : Sim (wX6_loopsAndPorts q) (wX3_loopAndPortCodes (pO q (-1) k)) q k 0 := by
  have hn' : c_number (p_code (pO q (-1) k)) = q_code q := hn
  apply Sim.one (q1 := fIn_ q (q_i q) (q_code q &&& 1))
  · intro P h
    exact iX6_isWide (by rw [hc]; decide) (sk (fun z => absurd (ti_le.mp z) (by rw [hc]; decide)) (tk (ti_le.mpr (by rw [hc]; decide)) (sk (by rw [hc]; decide) (tk (ti_lt.mpr (by rw [hc]; decide)) (im_in h)))))
  · intro P h
    unfold wX3_loopAndPortCodes
    rw [hn']
    refine (sk (by rw [hc]; decide) (sk (by rw [hc]; decide) (sk (by rw [hc]; decide) (sk (by rw [hc]; decide) (tk hc ?_)))))
    unfold wX3_loopAndPortCodes_b166
    rw [hn']
    refine sk (fun z => absurd (ti_le.mp z) (by rw [hc]; decide)) ?_
    rw [show c_first (p_code (pO q (-1) k)) = q_i q from hi.symm]
    unfold wX3_loopAndPortCodes_b198 wX3_usePort
    refine iX1_wide ?_
    rw [hn']
    exact tk (by rw [hc]; decide) (ic_in hI h)
  · exact inv_in hI _ _
  · exact (same_R q _).kept hg

theorem simLp229 {q : SQ} {k : SC} (hI : Inv q) (hg : q_gave q = 0) (hn : c_number k = q_code q) (hi : q_i q = c_first k) (hc : q_code q = 229) : Sim (wX6_loopsAndPorts q) (wX3_loopAndPortCodes (pO q (-1) k)) q k 0 := by
  have hn' : c_number (p_code (pO q (-1) k)) = q_code q := hn
  apply Sim.one (q1 := fIn_ q (q_i q) (q_code q &&& 1))
  · intro P h
    exact iX6_isWide (by rw [hc]; decide) (sk (fun z => absurd (ti_le.mp z) (by rw [hc]; decide)) (tk (ti_le.mpr (by rw [hc]; decide)) (sk (by rw [hc]; decide) (tk (ti_lt.mpr (by rw [hc]; decide)) (im_in h)))))
  · intro P h
    unfold wX3_loopAndPortCodes
    rw [hn']
    refine (sk (by rw [hc]; decide) (sk (by rw [hc]; decide) (sk (by rw [hc]; decide) (sk (by rw [hc]; decide) (sk (by rw [hc]; decide) (tk hc ?_))))))
    unfold wX3_loopAndPortCodes_b166
    rw [hn']
    refine sk (fun z => absurd (ti_le.mp z) (by rw [hc]; decide)) ?_
    rw [show c_first (p_code (pO q (-1) k)) = q_i q from hi.symm]
    unfold wX3_loopAndPortCodes_b198 wX3_usePort
    refine iX1_wide ?_
    rw [hn']
    exact tk (by rw [hc]; decide) (ic_in hI h)
  · exact inv_in hI _ _
  · exact (same_R q _).kept hg

theorem simLp230 {q : SQ} {k : SC} (hI : Inv q) (hg : q_gave q = 0) (hn : c_number k = q_code q) (hi : q_i q = c_first k) (hc : q_code q = 230) : Sim (wX6_loopsAndPorts q) (wX3_loopAndPortCodes (pO q (-1) k)) q k 0 := by
  have hn' : c_number (p_code (pO q (-1) k)) = q_code q := hn
  apply Sim.one (q1 := fOut_ q (q_i q) (q_code q &&& 1))
  · intro P h
    exact iX6_isWide (by rw [hc]; decide) (sk (fun z => absurd (ti_le.mp z) (by rw [hc]; decide)) (tk (ti_le.mpr (by rw [hc]; decide)) (sk (by rw [hc]; decide) (sk (fun z => absurd (ti_lt.mp z) (by rw [hc]; decide)) (sk (by rw [hc]; decide) (sk (by rw [hc]; decide) (tk (ti_lt.mpr (by rw [hc]; decide)) (im_out hI h))))))))
  · intro P h
    unfold wX3_loopAndPortCodes
    rw [hn']
    refine (sk (by rw [hc]; decide) (sk (by rw [hc]; decide) (sk (by rw [hc]; decide) (sk (by rw [hc]; decide) (sk (by rw [hc]; decide) (sk (by rw [hc]; decide) (tk hc ?_)))))))
    unfold wX3_loopAndPortCodes_b166
    rw [hn']
    refine sk (fun z => absurd (ti_le.mp z) (by rw [hc]; decide)) ?_
    rw [show c_first (p_code (pO q (-1) k)) = q_i q from hi.symm]
    unfold wX3_loopAndPortCodes_b198 wX3_usePort
    refine iX1_wide ?_
    rw [hn']
    exact sk (by rw [hc]; decide) (ic_out hI h)
  · exact inv_out hI _ _
  · exact (same_out q _ _).kept hg

theorem simLp231 {q : SQ} {k : SC} (hI : Inv q) (hg : q_gave q = 0) (hn : c_number k = q_code q) (hi : q_i q = c_first k) (hc : q_code q = 231) : Sim (wX6_loopsAndPorts q) (wX3_loopAndPortCodes (pO q (-1) k)) q k 0 := by
  have hn' : c_number (p_code (pO q (-1) k)) = q_code q := hn
  apply Sim.one (q1 := fOut_ q (q_i q) (q_code q &&& 1))
  · intro P h
    exact iX6_isWide (by rw [hc]; decide) (sk (fun z => absurd (ti_le.mp z) (by rw [hc]; decide)) (tk (ti_le.mpr (by rw [hc]; decide)) (sk (by rw [hc]; decide) (sk (fun z => absurd (ti_lt.mp z) (by rw [hc]; decide)) (sk (by rw [hc]; decide) (sk (by rw [hc]; decide) (tk (ti_lt.mpr (by rw [hc]; decide)) (im_out hI h))))))))
  · intro P h
    unfold wX3_loopAndPortCodes
    rw [hn']
    refine (sk (by rw [hc]; decide) (sk (by rw [hc]; decide) (sk (by rw [hc]; decide) (sk (by rw [hc]; decide) (sk (by rw [hc]; decide) (sk (by rw [hc]; decide) (sk (by rw [hc]; decide) (tk hc ?_))))))))
    unfold wX3_loopAndPortCodes_b166
    rw [hn']
    refine sk (fun z => absurd (ti_le.mp z) (by rw [hc]; decide)) ?_
    rw [show c_first (p_code (pO q (-1) k)) = q_i q from hi.symm]
    unfold wX3_loopAndPortCodes_b198 wX3_usePort
    refine iX1_wide ?_
    rw [hn']
    exact sk (by rw [hc]; decide) (ic_out hI h)
  · exact inv_out hI _ _
  · exact (same_out q _ _).kept hg

theorem simLp236 {q : SQ} {k : SC} (hI : Inv q) (hg : q_gave q = 0) (hn : c_number k = q_code q)  (hc : q_code q = 236) : Sim (wX6_loopsAndPorts q) (wX3_loopAndPortCodes (pO q (-1) k)) q k 0 := by
  have hn' : c_number (p_code (pO q (-1) k)) = q_code q := hn
  apply Sim.one (q1 := fIn_ q (q_registers q 2) (q_code q &&& 1))
  · intro P h
    exact iX6_isWide (by rw [hc]; decide) (tk (ti_le.mpr (by rw [hc]; decide)) ⟨v_28, (tk (ti_le.mpr (by rw [hc]; decide)) (sk (by rw [hc]; decide) (sk (fun z => absurd (ti_lt.mp z) (by rw [hc]; decide)) (tk hc (im_in h)))))⟩)
  · intro P h
    unfold wX3_loopAndPortCodes
    rw [hn']
    refine (sk (by rw [hc]; decide) (sk (by rw [hc]; decide) (sk (by rw [hc]; decide) (sk (by rw [hc]; decide) (sk (by rw [hc]; decide) (sk (by rw [hc]; decide) (sk (by rw [hc]; decide) (sk (by rw [hc]; decide) (sk (by rw [hc]; decide) (sk (by rw [hc]; decide) (sk (by rw [hc]; decide) (sk (by rw [hc]; decide) ?_))))))))))))
    unfold wX3_loopAndPortCodes_b166
    rw [hn']
    refine tk (ti_le.mpr (by rw [hc]; decide)) (iX4_word ?_)
    unfold wX3_loopAndPortCodes_b198 wX3_usePort
    refine iX1_wide ?_
    rw [hn']
    exact tk (by rw [hc]; decide) (ic_in hI h)
  · exact inv_in hI _ _
  · exact (same_R q _).kept hg

theorem simLp237 {q : SQ} {k : SC} (hI : Inv q) (hg : q_gave q = 0) (hn : c_number k = q_code q)  (hc : q_code q = 237) : Sim (wX6_loopsAndPorts q) (wX3_loopAndPortCodes (pO q (-1) k)) q k 0 := by
  have hn' : c_number (p_code (pO q (-1) k)) = q_code q := hn
  apply Sim.one (q1 := fIn_ q (q_registers q 2) (q_code q &&& 1))
  · intro P h
    exact iX6_isWide (by rw [hc]; decide) (tk (ti_le.mpr (by rw [hc]; decide)) ⟨v_28, (tk (ti_le.mpr (by rw [hc]; decide)) (sk (by rw [hc]; decide) (sk (fun z => absurd (ti_lt.mp z) (by rw [hc]; decide)) (sk (by rw [hc]; decide) (tk hc (im_in h))))))⟩)
  · intro P h
    unfold wX3_loopAndPortCodes
    rw [hn']
    refine (sk (by rw [hc]; decide) (sk (by rw [hc]; decide) (sk (by rw [hc]; decide) (sk (by rw [hc]; decide) (sk (by rw [hc]; decide) (sk (by rw [hc]; decide) (sk (by rw [hc]; decide) (sk (by rw [hc]; decide) (sk (by rw [hc]; decide) (sk (by rw [hc]; decide) (sk (by rw [hc]; decide) (sk (by rw [hc]; decide) ?_))))))))))))
    unfold wX3_loopAndPortCodes_b166
    rw [hn']
    refine tk (ti_le.mpr (by rw [hc]; decide)) (iX4_word ?_)
    unfold wX3_loopAndPortCodes_b198 wX3_usePort
    refine iX1_wide ?_
    rw [hn']
    exact tk (by rw [hc]; decide) (ic_in hI h)
  · exact inv_in hI _ _
  · exact (same_R q _).kept hg

theorem simLp238 {q : SQ} {k : SC} (hI : Inv q) (hg : q_gave q = 0) (hn : c_number k = q_code q)  (hc : q_code q = 238) : Sim (wX6_loopsAndPorts q) (wX3_loopAndPortCodes (pO q (-1) k)) q k 0 := by
  have hn' : c_number (p_code (pO q (-1) k)) = q_code q := hn
  apply Sim.one (q1 := fOut_ q (q_registers q 2) (q_code q &&& 1))
  · intro P h
    exact iX6_isWide (by rw [hc]; decide) (tk (ti_le.mpr (by rw [hc]; decide)) ⟨v_28, (tk (ti_le.mpr (by rw [hc]; decide)) (sk (by rw [hc]; decide) (sk (fun z => absurd (ti_lt.mp z) (by rw [hc]; decide)) (sk (by rw [hc]; decide) (sk (by rw [hc]; decide) (sk (fun z => absurd (ti_lt.mp z) (by rw [hc]; decide)) (sk (fun z => absurd (ti_le.mp z) (by rw [hc]; decide)) (im_out hI h))))))))⟩)
  · intro P h
    unfold wX3_loopAndPortCodes
    rw [hn']
    refine (sk (by rw [hc]; decide) (sk (by rw [hc]; decide) (sk (by rw [hc]; decide) (sk (by rw [hc]; decide) (sk (by rw [hc]; decide) (sk (by rw [hc]; decide) (sk (by rw [hc]; decide) (sk (by rw [hc]; decide) (sk (by rw [hc]; decide) (sk (by rw [hc]; decide) (sk (by rw [hc]; decide) (sk (by rw [hc]; decide) ?_))))))))))))
    unfold wX3_loopAndPortCodes_b166
    rw [hn']
    refine tk (ti_le.mpr (by rw [hc]; decide)) (iX4_word ?_)
    unfold wX3_loopAndPortCodes_b198 wX3_usePort
    refine iX1_wide ?_
    rw [hn']
    exact sk (by rw [hc]; decide) (ic_out hI h)
  · exact inv_out hI _ _
  · exact (same_out q _ _).kept hg

theorem simLp239 {q : SQ} {k : SC} (hI : Inv q) (hg : q_gave q = 0) (hn : c_number k = q_code q)  (hc : q_code q = 239) : Sim (wX6_loopsAndPorts q) (wX3_loopAndPortCodes (pO q (-1) k)) q k 0 := by
  have hn' : c_number (p_code (pO q (-1) k)) = q_code q := hn
  apply Sim.one (q1 := fOut_ q (q_registers q 2) (q_code q &&& 1))
  · intro P h
    exact iX6_isWide (by rw [hc]; decide) (tk (ti_le.mpr (by rw [hc]; decide)) ⟨v_28, (tk (ti_le.mpr (by rw [hc]; decide)) (sk (by rw [hc]; decide) (sk (fun z => absurd (ti_lt.mp z) (by rw [hc]; decide)) (sk (by rw [hc]; decide) (sk (by rw [hc]; decide) (sk (fun z => absurd (ti_lt.mp z) (by rw [hc]; decide)) (sk (fun z => absurd (ti_le.mp z) (by rw [hc]; decide)) (im_out hI h))))))))⟩)
  · intro P h
    unfold wX3_loopAndPortCodes
    rw [hn']
    refine (sk (by rw [hc]; decide) (sk (by rw [hc]; decide) (sk (by rw [hc]; decide) (sk (by rw [hc]; decide) (sk (by rw [hc]; decide) (sk (by rw [hc]; decide) (sk (by rw [hc]; decide) (sk (by rw [hc]; decide) (sk (by rw [hc]; decide) (sk (by rw [hc]; decide) (sk (by rw [hc]; decide) (sk (by rw [hc]; decide) ?_))))))))))))
    unfold wX3_loopAndPortCodes_b166
    rw [hn']
    refine tk (ti_le.mpr (by rw [hc]; decide)) (iX4_word ?_)
    unfold wX3_loopAndPortCodes_b198 wX3_usePort
    refine iX1_wide ?_
    rw [hn']
    exact sk (by rw [hc]; decide) (ic_out hI h)
  · exact inv_out hI _ _
  · exact (same_out q _ _).kept hg

theorem simLp232 {q : SQ} {k : SC} (hI : Inv q) (hg : q_gave q = 0) (hn : c_number k = q_code q) (hi : q_i q = c_first k) (hc : q_code q = 232) : Sim (wX6_loopsAndPorts q) (wX3_loopAndPortCodes (pO q (-1) k)) q k 0 := by
  have hn' : c_number (p_code (pO q (-1) k)) = q_code q := hn
  have ei : c_first (p_code (pO q (-1) k)) = q_i q := hi.symm
  apply Sim.one (q1 := fJump (fPush q (q_ip q)) (q_i q))
  · intro P h
    exact iX6_isWide (by rw [hc]; decide) (tk (ti_le.mpr (by rw [hc]; decide)) ⟨v_28, (tk (ti_le.mpr (by rw [hc]; decide)) (sk (by rw [hc]; decide) (sk (fun z => absurd (ti_lt.mp z) (by rw [hc]; decide)) (sk (by rw [hc]; decide) (sk (by rw [hc]; decide) (sk (fun z => absurd (ti_lt.mp z) (by rw [hc]; decide)) (tk (ti_le.mpr (by rw [hc]; decide)) (sk (by rw [hc]; decide) (tk hc (iX6_push hI h))))))))))⟩)
  · intro P h
    unfold wX3_loopAndPortCodes
    rw [hn']
    refine (sk (by rw [hc]; decide) (sk (by rw [hc]; decide) (sk (by rw [hc]; decide) (sk (by rw [hc]; decide) (sk (by rw [hc]; decide) (sk (by rw [hc]; decide) (sk (by rw [hc]; decide) (sk (by rw [hc]; decide) (tk hc ?_)))))))))
    refine iX3_push hI ?_
    show wX3_jump (c_first (p_code (pO q (-1) k))) (pO (fPush q (q_ip q)) (-1) k) _
    rw [ei]
    exact iX3_jump (q := fPush q (q_ip q)) h
  · exact inv_jump (inv_push hI _) _
  · exact ((same_push q _).tr (same_jump _ _)).kept hg

theorem simLp233 {q : SQ} {k : SC} (hI : Inv q) (hg : q_gave q = 0) (hn : c_number k = q_code q) (hi : q_i q = c_first k) (hc : q_code q = 233) : Sim (wX6_loopsAndPorts q) (wX3_loopAndPortCodes (pO q (-1) k)) q k 0 := by
  have hn' : c_number (p_code (pO q (-1) k)) = q_code q := hn
  have ei : c_first (p_code (pO q (-1) k)) = q_i q := hi.symm
  apply Sim.one (q1 := fJump q (q_i q))
  · intro P h
    exact iX6_isWide (by rw [hc]; decide) (tk (ti_le.mpr (by rw [hc]; decide)) ⟨v_28, (tk (ti_le.mpr (by rw [hc]; decide)) (sk (by rw [hc]; decide) (sk (fun z => absurd (ti_lt.mp z) (by rw [hc]; decide)) (sk (by rw [hc]; decide) (sk (by rw [hc]; decide) (sk (fun z => absurd (ti_lt.mp z) (by rw [hc]; decide)) (tk (ti_le.mpr (by rw [hc]; decide)) (sk (by rw [hc]; decide) (sk (by rw [hc]; decide) h)))))))))⟩)
  · intro P h
    unfold wX3_loopAndPortCodes
    rw [hn']
    refine (sk (by rw [hc]; decide) (sk (by rw [hc]; decide) (sk (by rw [hc]; decide) (sk (by rw [hc]; decide) (sk (by rw [hc]; decide) (sk (by rw [hc]; decide) (sk (by rw [hc]; decide) (sk (by rw [hc]; decide) (sk (by rw [hc]; decide) (tk hc ?_))))))))))
    rw [ei]
    exact iX3_jump (q := q) h
  · exact inv_jump hI _
  · exact (same_jump q _).kept hg

theorem simLp234 {q : SQ} {k : SC} (hI : Inv q) (hg : q_gave q = 0) (hn : c_number k = q_code q) (hi : q_i q = c_first k) (hj : q_j q = c_second k) (hri : rW (q_i q)) (hrj : rW (q_j q)) (hc : q_code q = 234) : Sim (wX6_loopsAndPorts q) (wX3_loopAndPortCodes (pO q (-1) k)) q k 0 := by
  have hn' : c_number (p_code (pO q (-1) k)) = q_code q := hn
  have ei : c_first (p_code (pO q (-1) k)) = q_i q := hi.symm
  apply Sim.one (q1 := fJumpFar q (q_i q) (q_j q))
  · intro P h
    exact iX6_isWide (by rw [hc]; decide) (tk (ti_le.mpr (by rw [hc]; decide)) ⟨v_28, (tk (ti_le.mpr (by rw [hc]; decide)) (sk (by rw [hc]; decide) (sk (fun z => absurd (ti_lt.mp z) (by rw [hc]; decide)) (sk (by rw [hc]; decide) (sk (by rw [hc]; decide) (sk (fun z => absurd (ti_lt.mp z) (by rw [hc]; decide)) (tk (ti_le.mpr (by rw [hc]; decide)) (tk hc ⟨v_14, h⟩))))))))⟩)
  · intro P h
    unfold wX3_loopAndPortCodes
    rw [hn']
    refine (sk (by rw [hc]; decide) (sk (by rw [hc]; decide) (sk (by rw [hc]; decide) (sk (by rw [hc]; decide) (sk (by rw [hc]; decide) (sk (by rw [hc]; decide) (sk (by rw [hc]; decide) (sk (by rw [hc]; decide) (sk (by rw [hc]; decide) (sk (by rw [hc]; decide) (tk hc ?_)))))))))))
    rw [ei, show c_second (p_code (pO q (-1) k)) = q_j q from hj.symm]
    exact iX3_jumpFar (q := q) hri hrj h
  · exact inv_jumpFar hI hri hrj
  · exact (same_jumpFar q _ _).kept hg

theorem simLp235 {q : SQ} {k : SC} (hI : Inv q) (hg : q_gave q = 0) (hn : c_number k = q_code q) (hi : q_i q = fExt (c_first k) ∧ rB (c_first k)) (hc : q_code q = 235) : Sim (wX6_loopsAndPorts q) (wX3_loopAndPortCodes (pO q (-1) k)) q k 0 := by
  have hn' : c_number (p_code (pO q (-1) k)) = q_code q := hn
  apply Sim.one (q1 := fJump q (q_i q))
  · intro P h
    exact iX6_isWide (by rw [hc]; decide) (tk (ti_le.mpr (by rw [hc]; decide)) ⟨v_28, (tk (ti_le.mpr (by rw [hc]; decide)) (sk (by rw [hc]; decide) (sk (fun z => absurd (ti_lt.mp z) (by rw [hc]; decide)) (sk (by rw [hc]; decide) (sk (by rw [hc]; decide) (sk (fun z => absurd (ti_lt.mp z) (by rw [hc]; decide)) (tk (ti_le.mpr (by rw [hc]; decide)) (sk (by rw [hc]; decide) (sk (by rw [hc]; decide) h)))))))))⟩)
  · intro P h
    unfold wX3_loopAndPortCodes
    rw [hn']
    refine (sk (by rw [hc]; decide) (sk (by rw [hc]; decide) (sk (by rw [hc]; decide) (sk (by rw [hc]; decide) (sk (by rw [hc]; decide) (sk (by rw [hc]; decide) (sk (by rw [hc]; decide) (sk (by rw [hc]; decide) (sk (by rw [hc]; decide) (sk (by rw [hc]; decide) (sk (by rw [hc]; decide) (tk hc ?_))))))))))))
    refine iX3_jumpIf hI hi.2 ?_
    rw [if_neg (by decide), ← hi.1]
    exact h
  · exact inv_jump hI _
  · exact (same_jump q _).kept hg
