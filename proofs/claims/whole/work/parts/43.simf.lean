-- ===== codes D0 to DF =====
theorem v_18 : vp_in 1 8 := vp_7 ⟨by decide, by decide⟩
theorem v_38 : vp_in 3 8 := vp_7 ⟨by decide, by decide⟩
theorem r7_1 : r7 1 := ⟨by decide, by decide⟩
def fShZ (q : SQ) (t w : Int32) : Int32 × Int32 := fShs (q_r q) w t.toInt.toNat (fE q w, q_flags q)
def fShQ (q : SQ) (t w : Int32) : SQ := fGv (qs_flags q (fShZ q t w).2) w (fShZ q t w).1
theorem im_sh {t w : Int32} {q : SQ} {P : SQ → Prop} (hI : Inv q) (hm : r7 (q_m q)) (hr : r7 (q_r q)) (ht : 0 ≤ t.toInt) (h : P (fShQ q t w)) : wX6_shiftsAndMore_b62 P w w (q_r q) (fE q w) t q :=
  iX6_shifts hr (rO_e hI w) ht (iX6_give (inv_F _ hI) hm h)
theorem ic_sh {t w cd : Int32} {k : SC} {q : SQ} {P : SP → Prop} (hI : Inv q) (hD : DecM k q) (ht : 0 ≤ t.toInt) (h : P (pO (fShQ q t w) cd k)) : wX0_shift (c_r k) (fE q w) t w (q_flags q) (fun r48 u47 => wX3_giveE r48 w (pO (qs_flags q u47) cd k) P) := by
  have er : c_r k = q_r q := hD.2.2.1
  rw [er]
  exact iX0_shift hD.2.2.2.2.2 (rO_e hI w) ht (iX3_giveE (q := qs_flags q (fShZ q t w).2) (inv_F _ hI) hD h)
theorem inv_sh {q : SQ} (h : Inv q) (t w : Int32) : Inv (fShQ q t w) := inv_gv (inv_F _ h) _ _
theorem same_sh (q : SQ) (t w : Int32) : Same q (fShQ q t w) := (same_F q _).tr (same_gv _ _ _)
theorem div_b {l b : Int32} (hl : rB l) (hb : rB b) (h0 : ¬ b = 0) : rB (l / b) ∧ rB (l - l / b * b) := by
  have z : (0 : Int32).toInt = 0 := rfl
  have hp : 0 < b.toInt := by
    rcases (show b.toInt = 0 ∨ 0 < b.toInt by have := hb.1; omega) with c | c
    · exact absurd (ti_ext (by rw [c, z])) h0
    · exact c
  have e := ti_div_pos hl.1 hp
  have q0 : 0 ≤ l.toInt / b.toInt := Int.ediv_nonneg hl.1 hb.1
  have q1 : l.toInt / b.toInt ≤ l.toInt := Int.ediv_le_self _ hl.1
  have m1 : l.toInt / b.toInt * b.toInt ≤ l.toInt := Int.ediv_mul_le _ (by omega)
  have m0 : 0 ≤ l.toInt / b.toInt * b.toInt := Int.mul_nonneg q0 hb.1
  have l1 := hl.1
  have l2 := hl.2
  have em : (l / b * b).toInt = l.toInt / b.toInt * b.toInt := by rw [ti_mul (by rw [e]; omega) (by rw [e]; omega), e]
  refine ⟨⟨by rw [e]; omega, by rw [e]; omega⟩, ?_⟩
  have es : (l - l / b * b).toInt = l.toInt - l.toInt / b.toInt * b.toInt := by rw [ti_sub (by rw [em]; omega) (by rw [em]; omega), em]
  exact ⟨by rw [es]; omega, by rw [es]; omega⟩

theorem simSh208 {q : SQ} {k : SC} (hI : Inv q) (hg : q_gave q = 0) (hn : c_number k = q_code q) (hM : DecM k q) (hc : q_code q = 208) : Sim (wX6_shiftsAndMore q) (wX3_shiftAndAdjustCodes (pO q (-1) k)) q k 0 := by
  have hn' : c_number (p_code (pO q (-1) k)) = q_code q := hn
  apply Sim.one (q1 := fShQ q 1 (q_code q &&& 1))
  · intro P h
    exact iX6_isWide (by rw [hc]; decide) ⟨v_08, (sk (fun z => absurd (ti_le.mp z) (by rw [hc]; decide)) (iX6_operand hI hM.2.2.2.2.1 (sk (fun z => absurd (ti_le.mp z) (by rw [hc]; decide)) (im_sh hI hM.2.2.2.2.1 hM.2.2.2.2.2 (by decide) h))))⟩
  · intro P h
    unfold wX3_shiftAndAdjustCodes
    refine iX1_wide ?_
    rw [hn']
    refine (tk hc ?_)
    exact iX3_e hI hM (ic_sh hI hM (by decide) h)
  · exact inv_sh hI _ _
  · exact (same_sh q _ _).kept hg

theorem simSh209 {q : SQ} {k : SC} (hI : Inv q) (hg : q_gave q = 0) (hn : c_number k = q_code q) (hM : DecM k q) (hc : q_code q = 209) : Sim (wX6_shiftsAndMore q) (wX3_shiftAndAdjustCodes (pO q (-1) k)) q k 0 := by
  have hn' : c_number (p_code (pO q (-1) k)) = q_code q := hn
  apply Sim.one (q1 := fShQ q 1 (q_code q &&& 1))
  · intro P h
    exact iX6_isWide (by rw [hc]; decide) ⟨v_08, (sk (fun z => absurd (ti_le.mp z) (by rw [hc]; decide)) (iX6_operand hI hM.2.2.2.2.1 (sk (fun z => absurd (ti_le.mp z) (by rw [hc]; decide)) (im_sh hI hM.2.2.2.2.1 hM.2.2.2.2.2 (by decide) h))))⟩
  · intro P h
    unfold wX3_shiftAndAdjustCodes
    refine iX1_wide ?_
    rw [hn']
    refine (sk (by rw [hc]; decide) (tk hc ?_))
    exact iX3_e hI hM (ic_sh hI hM (by decide) h)
  · exact inv_sh hI _ _
  · exact (same_sh q _ _).kept hg

theorem simSh210 {q : SQ} {k : SC} (hI : Inv q) (hg : q_gave q = 0) (hn : c_number k = q_code q) (hM : DecM k q) (hc : q_code q = 210) : Sim (wX6_shiftsAndMore q) (wX3_shiftAndAdjustCodes (pO q (-1) k)) q k 0 := by
  have hn' : c_number (p_code (pO q (-1) k)) = q_code q := hn
  apply Sim.one (q1 := fShQ q (q_registers q 1 &&& 255) (q_code q &&& 1))
  · intro P h
    exact iX6_isWide (by rw [hc]; decide) ⟨v_08, (sk (fun z => absurd (ti_le.mp z) (by rw [hc]; decide)) (iX6_operand hI hM.2.2.2.2.1 (tk (ti_le.mpr (by rw [hc]; decide)) ⟨v_18, im_sh hI hM.2.2.2.2.1 hM.2.2.2.2.2 (rB_and _).1 h⟩)))⟩
  · intro P h
    unfold wX3_shiftAndAdjustCodes
    refine iX1_wide ?_
    rw [hn']
    refine (sk (by rw [hc]; decide) (sk (by rw [hc]; decide) (tk hc ?_)))
    exact iX3_e hI hM (iX4_value hI.2.1 r7_1 (ic_sh hI hM (rB_and _).1 h))
  · exact inv_sh hI _ _
  · exact (same_sh q _ _).kept hg

theorem simSh211 {q : SQ} {k : SC} (hI : Inv q) (hg : q_gave q = 0) (hn : c_number k = q_code q) (hM : DecM k q) (hc : q_code q = 211) : Sim (wX6_shiftsAndMore q) (wX3_shiftAndAdjustCodes (pO q (-1) k)) q k 0 := by
  have hn' : c_number (p_code (pO q (-1) k)) = q_code q := hn
  apply Sim.one (q1 := fShQ q (q_registers q 1 &&& 255) (q_code q &&& 1))
  · intro P h
    exact iX6_isWide (by rw [hc]; decide) ⟨v_08, (sk (fun z => absurd (ti_le.mp z) (by rw [hc]; decide)) (iX6_operand hI hM.2.2.2.2.1 (tk (ti_le.mpr (by rw [hc]; decide)) ⟨v_18, im_sh hI hM.2.2.2.2.1 hM.2.2.2.2.2 (rB_and _).1 h⟩)))⟩
  · intro P h
    unfold wX3_shiftAndAdjustCodes
    refine iX1_wide ?_
    rw [hn']
    refine (sk (by rw [hc]; decide) (sk (by rw [hc]; decide) (sk (by rw [hc]; decide) (tk hc ?_))))
    exact iX3_e hI hM (iX4_value hI.2.1 r7_1 (ic_sh hI hM (rB_and _).1 h))
  · exact inv_sh hI _ _
  · exact (same_sh q _ _).kept hg

def fAam (q : SQ) : Int32 := ((q_registers q 0 &&& 255) - (q_registers q 0 &&& 255) / q_i q * q_i q) ||| ((q_registers q 0 &&& 255) / q_i q) <<< ((8 : Int32) &&& 31)

theorem simSh212 {q : SQ} {k : SC} (hI : Inv q) (hg : q_gave q = 0) (hn : c_number k = q_code q) (hi : q_i q = c_first k ∧ rB (q_i q)) (hc : q_code q = 212) : Sim (wX6_shiftsAndMore q) (wX3_shiftAndAdjustCodes (pO q (-1) k)) q k 0 := by
  have hn' : c_number (p_code (pO q (-1) k)) = q_code q := hn
  have ei : c_first (p_code (pO q (-1) k)) = q_i q := hi.1.symm
  have hA := hI.2.1.1 0
  by_cases c : q_i q = 0
  · apply Sim.int (q1 := q) (n := 0)
    · decide
    · intro P h
      exact iX6_isWide (by rw [hc]; decide) ⟨v_08, (tk (ti_le.mpr (by rw [hc]; decide)) (tk hc (tk c (iX6_interrupt hI h))))⟩
    · intro P h
      unfold wX3_shiftAndAdjustCodes
      refine iX1_wide ?_
      rw [hn']
      refine (sk (by rw [hc]; decide) (sk (by rw [hc]; decide) (sk (by rw [hc]; decide) (sk (by rw [hc]; decide) (tk hc ?_)))))
      rw [ei]
      exact tk c h
    · exact hI
    · exact Same.rf.kept hg
  · have hd := div_b (rB_and (q_registers q 0)) hi.2 c
    have rA : rW (fAam q) := or_hi hd.2 hd.1
    apply Sim.one (q1 := qs_flags (qs_registers q (upd (q_registers q) 0 (fAam q))) (fBy (q_flags q) ((q_registers q 0 &&& 255) - (q_registers q 0 &&& 255) / q_i q * q_i q) 0))
    · intro P h
      exact iX6_isWide (by rw [hc]; decide) ⟨v_08, (tk (ti_le.mpr (by rw [hc]; decide)) (tk hc (sk c (tk hc ⟨c, c, v_08, c, iX6_byAnswer h⟩))))⟩
    · intro P h
      unfold wX3_shiftAndAdjustCodes
      refine iX1_wide ?_
      rw [hn']
      refine (sk (by rw [hc]; decide) (sk (by rw [hc]; decide) (sk (by rw [hc]; decide) (sk (by rw [hc]; decide) (tk hc ?_)))))
      rw [ei]
      refine sk c (iX3_a hI ?_)
      rw [ei, show fReg (q_registers q) 0 1 = q_registers q 0 from rfl]
      refine sk (by decide) (sk (by decide) (sk (by decide) (sk (by decide) (tk rfl (iX0_parts c ?_)))))
      refine iX3_giveA (q := qs_flags q (fBy (q_flags q) ((q_registers q 0 &&& 255) - (q_registers q 0 &&& 255) / q_i q * q_i q) 0)) ?_
      have e1 : fSetR (q_registers q) 0 1 (((q_registers q 0 &&& 255) / q_i q) <<< ((8 : Int32) &&& 31) ||| ((q_registers q 0 &&& 255) - (q_registers q 0 &&& 255) / q_i q * q_i q)) = upd (q_registers q) 0 (fAam q) := by
        rw [or_comm32]
        show upd (q_registers q) 0 (fAam q &&& 65535) = _
        rw [and65535_id rA]
      show P (pO (qs_registers (qs_flags q _) (fSetR (q_registers q) 0 1 _)) (-1) k)
      rw [e1]
      exact h
    · exact inv_F _ (inv_R hI (inv_updW hI.2.1.1 _ rA))
    · exact ((same_R q _).tr (same_F _ _)).kept hg

theorem simSh213 {q : SQ} {k : SC} (hI : Inv q) (hg : q_gave q = 0) (hn : c_number k = q_code q) (hi : q_i q = c_first k ∧ rB (q_i q)) (hc : q_code q = 213) : Sim (wX6_shiftsAndMore q) (wX3_shiftAndAdjustCodes (pO q (-1) k)) q k 0 := by
  have hn' : c_number (p_code (pO q (-1) k)) = q_code q := hn
  have ei : c_first (p_code (pO q (-1) k)) = q_i q := hi.1.symm
  have hA := hI.2.1.1 0
  apply Sim.one (q1 := qs_flags (qs_registers q (upd (q_registers q) 0 ((q_registers q 0 >>> ((8 : Int32) &&& 31)) * q_i q + (q_registers q 0 &&& 255) &&& 255))) (fBy (q_flags q) ((q_registers q 0 >>> ((8 : Int32) &&& 31)) * q_i q + (q_registers q 0 &&& 255) &&& 255) 0))
  · intro P h
    exact iX6_isWide (by rw [hc]; decide) ⟨v_08, (tk (ti_le.mpr (by rw [hc]; decide)) (sk (by rw [hc]; decide) (sk (by rw [hc]; decide) (tk hc ⟨v_08, v_08, iX6_byAnswer h⟩))))⟩
  · intro P h
    unfold wX3_shiftAndAdjustCodes
    refine iX1_wide ?_
    rw [hn']
    refine (sk (by rw [hc]; decide) (sk (by rw [hc]; decide) (sk (by rw [hc]; decide) (sk (by rw [hc]; decide) (sk (by rw [hc]; decide) (tk hc ?_))))))
    refine iX3_a hI ?_
    rw [ei]
    refine sk (by decide) (sk (by decide) (sk (by decide) (sk (by decide) (sk (by decide) (iX0_whole ?_)))))
    have e0 : (fReg (q_registers q) 0 1 >>> ((8 : Int32) &&& 31)) * q_i q + fReg (q_registers q) 0 1 &&& 255 = (q_registers q 0 >>> ((8 : Int32) &&& 31)) * q_i q + (q_registers q 0 &&& 255) &&& 255 := whole_eq hA hi.2
    rw [e0]
    refine iX3_giveA (q := qs_flags q (fBy (q_flags q) ((q_registers q 0 >>> ((8 : Int32) &&& 31)) * q_i q + (q_registers q 0 &&& 255) &&& 255) 0)) ?_
    have e1 : fSetR (q_registers q) 0 1 ((q_registers q 0 >>> ((8 : Int32) &&& 31)) * q_i q + (q_registers q 0 &&& 255) &&& 255) = upd (q_registers q) 0 ((q_registers q 0 >>> ((8 : Int32) &&& 31)) * q_i q + (q_registers q 0 &&& 255) &&& 255) := by
      show upd (q_registers q) 0 (_ &&& 65535) = _
      rw [and65535_id (rB_W (rB_and _))]
    show P (pO (qs_registers (qs_flags q _) (fSetR (q_registers q) 0 1 _)) (-1) k)
    rw [e1]
    exact h
  · exact inv_F _ (inv_R hI (inv_updW hI.2.1.1 _ (rB_W (rB_and _))))
  · exact ((same_R q _).tr (same_F _ _)).kept hg

theorem simSh214 {q : SQ} {k : SC} (hI : Inv q) (hg : q_gave q = 0) (hn : c_number k = q_code q)  (hc : q_code q = 214) : Sim (wX6_shiftsAndMore q) (wX3_shiftAndAdjustCodes (pO q (-1) k)) q k 0 := by
  have hn' : c_number (p_code (pO q (-1) k)) = q_code q := hn
  apply Sim.one (q1 := qs_registers q (fSetR (q_registers q) 0 0 (if fH (q_flags q) 1 = 0 then 0 else 255)))
  · intro P h
    exact iX6_isWide (by rw [hc]; decide) ⟨v_08, (tk (ti_le.mpr (by rw [hc]; decide)) (sk (by rw [hc]; decide) (sk (by rw [hc]; decide) (sk (by rw [hc]; decide) (tk hc (iX6_has ⟨fun (c : fH (q_flags q) 1 = 0) => iX6_setRegister r7_0 (by rw [if_pos c] at h; exact h), fun (c : ¬ fH (q_flags q) 1 = 0) => iX6_setRegister r7_0 (by rw [if_neg c] at h; exact h)⟩))))))⟩
  · intro P h
    unfold wX3_shiftAndAdjustCodes
    refine iX1_wide ?_
    rw [hn']
    refine (sk (by rw [hc]; decide) (sk (by rw [hc]; decide) (sk (by rw [hc]; decide) (sk (by rw [hc]; decide) (sk (by rw [hc]; decide) (sk (by rw [hc]; decide) (tk hc ?_)))))))
    refine iX0_has ⟨fun (c : fH (q_flags q) 1 = 0) => iX3_giveA (q := q) ?_, fun (c : ¬ fH (q_flags q) 1 = 0) => iX3_giveA (q := q) ?_⟩
    · rw [if_pos c] at h; exact h
    · rw [if_neg c] at h; exact h
  · exact inv_R hI (inv_setR hI.2.1.1 _ _ _)
  · exact (same_R q _).kept hg

theorem simSh215 {q : SQ} {k : SC} (hI : Inv q) (hg : q_gave q = 0) (hn : c_number k = q_code q) (hs : rS q) (hk : c_givenSegment k = q_segment q) (hc : q_code q = 215) : Sim (wX6_shiftsAndMore q) (wX3_shiftAndAdjustCodes (pO q (-1) k)) q k 0 := by
  have hn' : c_number (p_code (pO q (-1) k)) = q_code q := hn
  apply Sim.one (q1 := qs_registers q (fSetR (q_registers q) 0 0 (fGet (mQ q) (fSeg q 3) (q_registers q 3 + (q_registers q 0 &&& 255)) 0)))
  · intro P h
    exact iX6_isWide (by rw [hc]; decide) ⟨v_08, (tk (ti_le.mpr (by rw [hc]; decide)) (sk (by rw [hc]; decide) (sk (by rw [hc]; decide) (sk (by rw [hc]; decide) (sk (by rw [hc]; decide) (tk hc (iX6_segmentOr hs r3_3 ⟨v_38, iX6_get hI.1 (iX6_setRegister r7_0 h)⟩)))))))⟩
  · intro P h
    unfold wX3_shiftAndAdjustCodes
    refine iX1_wide ?_
    rw [hn']
    refine (sk (by rw [hc]; decide) (sk (by rw [hc]; decide) (sk (by rw [hc]; decide) (sk (by rw [hc]; decide) (sk (by rw [hc]; decide) (sk (by rw [hc]; decide) (sk (by rw [hc]; decide) (tk hc ?_))))))))
    exact iX4_word (iX3_a hI (iX3_segmentFor hs hk r3_3 (iX2_load hI.1 (iX3_giveA (q := q) h))))
  · exact inv_R hI (inv_setR hI.2.1.1 _ _ _)
  · exact (same_R q _).kept hg

theorem simShX {q : SQ} {k : SC} (hI : Inv q) (hg : q_gave q = 0) (hn : c_number k = q_code q) (h0 : 216 ≤ (q_code q).toInt) (n208 : ¬ q_code q = 208) (n209 : ¬ q_code q = 209) (n210 : ¬ q_code q = 210) (n211 : ¬ q_code q = 211) (n212 : ¬ q_code q = 212) (n213 : ¬ q_code q = 213) (n214 : ¬ q_code q = 214) (n215 : ¬ q_code q = 215) : Sim (wX6_shiftsAndMore q) (wX3_shiftAndAdjustCodes (pO q (-1) k)) q k 0 := by
  have hn' : c_number (p_code (pO q (-1) k)) = q_code q := hn
  apply Sim.one (q1 := q)
  · intro P h
    exact iX6_isWide (by omega) ⟨v_08, tk (ti_le.mpr (by have t : (212 : Int32).toInt = 212 := rfl; omega)) (sk n212 (sk n212 (sk n213 (sk n214 (sk n215 h)))))⟩
  · intro P h
    unfold wX3_shiftAndAdjustCodes
    refine iX1_wide ?_
    rw [hn']
    refine (sk n208 (sk n209 (sk n210 (sk n211 (sk n212 (sk n213 (sk n214 (sk n215 ?_))))))))
    exact h
  · exact hI
  · exact Same.rf.kept hg
