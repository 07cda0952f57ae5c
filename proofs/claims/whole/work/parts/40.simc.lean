-- ===== codes 80 to 8F =====
theorem r7_8 {o : Int32} (h : r7 o) : ¬ o = 8 := fun z => by have := h.2; rw [z] at this; exact absurd this (by decide)
theorem mOpE84 {w : Int32} {q : SQ} {P : SQ → Prop} (hI : Inv q) (hm : r7 (q_m q)) (hr : r7 (q_r q)) (h : P (fOpE q (q_r q) (q_i q) w)) : wX6_moves_b84 P w q := by
  have h8 := r7_8 hr
  unfold fOpE at h
  refine iX6_operand hI hm (iX6_operation ⟨fun c => ?_, fun c => iX6_give (inv_F _ hI) hm ?_⟩)
  · have c2 : q_r q = 7 := c
    rw [if_pos (Or.inl c2)] at h; exact h
  · have c2 : ¬ q_r q = 7 := c
    rw [if_neg (fun z => z.elim c2 h8)] at h; exact h
theorem fOpE_8 (q : SQ) (b w : Int32) : fOpE q 8 b w = qs_flags q (fOpF (q_flags q) 8 (fE q w) b w) := by unfold fOpE; exact if_pos (Or.inr rfl)
theorem cr_eq {q : SQ} {cd : Int32} {k : SC} (hD : DecM k q) : c_r (p_code (pO q cd k)) = q_r q := hD.2.2.1

theorem simMv128 {q : SQ} {k : SC} (hI : Inv q) (hg : q_gave q = 0) (hn : c_number k = q_code q) (hM : DecM k q) (hi : q_i q = c_first k ∧ rO (q_i q) (q_code q &&& 1)) (hc : q_code q = 128) : Sim (wX6_moves q) (wX3_operandCodes (pO q (-1) k)) q k 0 := by
  have hn' : c_number (p_code (pO q (-1) k)) = q_code q := hn
  have hm := hM.2.2.2.2.1
  have hr := hM.2.2.2.2.2
  have er := cr_eq (cd := -1) hM
  have h0 : 0 ≤ (q_code q).toInt := by rw [hc]; decide
  have hc2 : c_number (p_code (pO q (-1) k)) = 128 := hn'.trans hc
  apply Sim.one (q1 := fOpE q (q_r q) (q_i q) (q_code q &&& 1))
  · intro P h
    exact iX6_isWide h0 (tk hc (mOpE84 hI hm hr h))
  · intro P h
    unfold wX3_operandCodes
    refine iX1_wide ?_
    rw [hn']
    refine (tk hc ?_)
    unfold wX3_operandCodes_b88
    show wX3_operateE (c_r (p_code (pO q (-1) k))) (c_first (p_code (pO q (-1) k))) (q_code q &&& 1) (pO q (-1) k) _
    rw [er, show c_first (p_code (pO q (-1) k)) = q_i q from hi.1.symm]
    exact iX3_operateE hI hM hi.2 (r7_O hr) h
  · exact inv_opE hI _ _ _
  · exact (same_opE q _ _ _).kept hg

theorem simMv129 {q : SQ} {k : SC} (hI : Inv q) (hg : q_gave q = 0) (hn : c_number k = q_code q) (hM : DecM k q) (hi : q_i q = c_first k ∧ rO (q_i q) (q_code q &&& 1)) (hc : q_code q = 129) : Sim (wX6_moves q) (wX3_operandCodes (pO q (-1) k)) q k 0 := by
  have hn' : c_number (p_code (pO q (-1) k)) = q_code q := hn
  have hm := hM.2.2.2.2.1
  have hr := hM.2.2.2.2.2
  have er := cr_eq (cd := -1) hM
  have h0 : 0 ≤ (q_code q).toInt := by rw [hc]; decide
  have hc2 : c_number (p_code (pO q (-1) k)) = 129 := hn'.trans hc
  apply Sim.one (q1 := fOpE q (q_r q) (q_i q) (q_code q &&& 1))
  · intro P h
    exact iX6_isWide h0 (sk (by rw [hc]; decide) (tk hc (mOpE84 hI hm hr h)))
  · intro P h
    unfold wX3_operandCodes
    refine iX1_wide ?_
    rw [hn']
    refine (sk (by rw [hc]; decide) (tk hc ?_))
    unfold wX3_operandCodes_b88
    show wX3_operateE (c_r (p_code (pO q (-1) k))) (c_first (p_code (pO q (-1) k))) (q_code q &&& 1) (pO q (-1) k) _
    rw [er, show c_first (p_code (pO q (-1) k)) = q_i q from hi.1.symm]
    exact iX3_operateE hI hM hi.2 (r7_O hr) h
  · exact inv_opE hI _ _ _
  · exact (same_opE q _ _ _).kept hg

theorem simMv130 {q : SQ} {k : SC} (hI : Inv q) (hg : q_gave q = 0) (hn : c_number k = q_code q) (hM : DecM k q) (hi : q_i q = c_first k ∧ rO (q_i q) (q_code q &&& 1)) (hc : q_code q = 130) : Sim (wX6_moves q) (wX3_operandCodes (pO q (-1) k)) q k 0 := by
  have hn' : c_number (p_code (pO q (-1) k)) = q_code q := hn
  have hm := hM.2.2.2.2.1
  have hr := hM.2.2.2.2.2
  have er := cr_eq (cd := -1) hM
  have h0 : 0 ≤ (q_code q).toInt := by rw [hc]; decide
  have hc2 : c_number (p_code (pO q (-1) k)) = 130 := hn'.trans hc
  apply Sim.one (q1 := fOpE q (q_r q) (q_i q) (q_code q &&& 1))
  · intro P h
    exact iX6_isWide h0 (sk (by rw [hc]; decide) (sk (by rw [hc]; decide) (tk hc (mOpE84 hI hm hr h))))
  · intro P h
    unfold wX3_operandCodes
    refine iX1_wide ?_
    rw [hn']
    refine (sk (by rw [hc]; decide) (sk (by rw [hc]; decide) (tk hc ?_)))
    unfold wX3_operandCodes_b88
    show wX3_operateE (c_r (p_code (pO q (-1) k))) (c_first (p_code (pO q (-1) k))) (q_code q &&& 1) (pO q (-1) k) _
    rw [er, show c_first (p_code (pO q (-1) k)) = q_i q from hi.1.symm]
    exact iX3_operateE hI hM hi.2 (r7_O hr) h
  · exact inv_opE hI _ _ _
  · exact (same_opE q _ _ _).kept hg

theorem simMv131 {q : SQ} {k : SC} (hI : Inv q) (hg : q_gave q = 0) (hn : c_number k = q_code q) (hM : DecM k q) (hi : q_i q = fExt (c_first k) &&& 65535 ∧ rB (c_first k)) (hc : q_code q = 131) : Sim (wX6_moves q) (wX3_operandCodes (pO q (-1) k)) q k 0 := by
  have hn' : c_number (p_code (pO q (-1) k)) = q_code q := hn
  have hm := hM.2.2.2.2.1
  have hr := hM.2.2.2.2.2
  have er := cr_eq (cd := -1) hM
  have h0 : 0 ≤ (q_code q).toInt := by rw [hc]; decide
  have hc2 : c_number (p_code (pO q (-1) k)) = 131 := hn'.trans hc
  have e1 : q_code q &&& 1 = 1 := by rw [hc]; decide
  apply Sim.one (q1 := fOpE q (q_r q) (q_i q) 1)
  · intro P h
    refine iX6_isWide h0 ?_
    rw [e1]
    exact (sk (by rw [hc]; decide) (sk (by rw [hc]; decide) (sk (by rw [hc]; decide) (tk hc (mOpE84 hI hm hr h)))))
  · intro P h
    unfold wX3_operandCodes
    refine iX1_wide ?_
    rw [hn']
    refine (sk (by rw [hc]; decide) (sk (by rw [hc]; decide) (sk (by rw [hc]; decide) (tk hc ?_))))
    refine iX0_signed ?_
    show wX3_operateE (c_r (p_code (pO q (-1) k))) (fCut (c_first k) 0 &&& 65535) 1 (pO q (-1) k) _
    rw [er, ext_cut hi.2, ← hi.1]
    exact iX3_operateE hI hM ((rO_1 (by decide)).mpr (by rw [hi.1]; exact rW_and _)) (r7_O hr) h
  · exact inv_opE hI _ _ _
  · exact (same_opE q _ _ _).kept hg

theorem simMv132 {q : SQ} {k : SC} (hI : Inv q) (hg : q_gave q = 0) (hn : c_number k = q_code q) (hM : DecM k q)  (hc : q_code q = 132) : Sim (wX6_moves q) (wX3_operandCodes (pO q (-1) k)) q k 0 := by
  have hn' : c_number (p_code (pO q (-1) k)) = q_code q := hn
  have hm := hM.2.2.2.2.1
  have hr := hM.2.2.2.2.2
  have er := cr_eq (cd := -1) hM
  have h0 : 0 ≤ (q_code q).toInt := by rw [hc]; decide
  have hc2 : c_number (p_code (pO q (-1) k)) = 132 := hn'.trans hc
  apply Sim.one (q1 := fOpE q 8 (fReg (q_registers q) (q_r q) (q_code q &&& 1)) (q_code q &&& 1))
  · intro P h
    rw [fOpE_8] at h
    exact iX6_isWide h0 (sk (by rw [hc]; decide) (sk (by rw [hc]; decide) (sk (by rw [hc]; decide) (sk (by rw [hc]; decide) (tk hc (iX6_operand hI hm (iX6_register hr (iX6_operation h))))))))
  · intro P h
    unfold wX3_operandCodes
    refine iX1_wide ?_
    rw [hn']
    refine (sk (by rw [hc]; decide) (sk (by rw [hc]; decide) (sk (by rw [hc]; decide) (sk (by rw [hc]; decide) (tk hc ?_)))))
    refine iX4_value hI.2.1 (by show r7 (c_r k); rw [hM.2.2.1]; exact hr) ?_
    show wX3_operateE 8 (fReg (q_registers q) (c_r (p_code (pO q (-1) k))) (q_code q &&& 1)) (q_code q &&& 1) (pO q (-1) k) _
    rw [er]
    exact iX3_operateE hI hM (rO_reg hI.2.1.1 _ _) ⟨by decide, by decide⟩ h
  · exact inv_opE hI _ _ _
  · exact (same_opE q _ _ _).kept hg

theorem simMv133 {q : SQ} {k : SC} (hI : Inv q) (hg : q_gave q = 0) (hn : c_number k = q_code q) (hM : DecM k q)  (hc : q_code q = 133) : Sim (wX6_moves q) (wX3_operandCodes (pO q (-1) k)) q k 0 := by
  have hn' : c_number (p_code (pO q (-1) k)) = q_code q := hn
  have hm := hM.2.2.2.2.1
  have hr := hM.2.2.2.2.2
  have er := cr_eq (cd := -1) hM
  have h0 : 0 ≤ (q_code q).toInt := by rw [hc]; decide
  have hc2 : c_number (p_code (pO q (-1) k)) = 133 := hn'.trans hc
  apply Sim.one (q1 := fOpE q 8 (fReg (q_registers q) (q_r q) (q_code q &&& 1)) (q_code q &&& 1))
  · intro P h
    rw [fOpE_8] at h
    exact iX6_isWide h0 (sk (by rw [hc]; decide) (sk (by rw [hc]; decide) (sk (by rw [hc]; decide) (sk (by rw [hc]; decide) (sk (by rw [hc]; decide) (tk hc (iX6_operand hI hm (iX6_register hr (iX6_operation h)))))))))
  · intro P h
    unfold wX3_operandCodes
    refine iX1_wide ?_
    rw [hn']
    refine (sk (by rw [hc]; decide) (sk (by rw [hc]; decide) (sk (by rw [hc]; decide) (sk (by rw [hc]; decide) (sk (by rw [hc]; decide) (tk hc ?_))))))
    refine iX4_value hI.2.1 (by show r7 (c_r k); rw [hM.2.2.1]; exact hr) ?_
    show wX3_operateE 8 (fReg (q_registers q) (c_r (p_code (pO q (-1) k))) (q_code q &&& 1)) (q_code q &&& 1) (pO q (-1) k) _
    rw [er]
    exact iX3_operateE hI hM (rO_reg hI.2.1.1 _ _) ⟨by decide, by decide⟩ h
  · exact inv_opE hI _ _ _
  · exact (same_opE q _ _ _).kept hg

theorem mGvR {w v e : Int32} {q : SQ} {P : SQ → Prop} (hr : r7 (q_r q)) (h : P (qs_registers q (fSetR (q_registers q) (q_r q) w e))) : wX6_setRegister (q_r q) w e q P := iX6_setRegister hr h
theorem gv_r (q : SQ) (w v : Int32) : q_r (fGv q w v) = q_r q := (si_gv q w v).2.2.1
theorem iX3_exchangeE {w cd : Int32} {k : SC} {q : SQ} {P : SP → Prop} (hI : Inv q) (hD : DecM k q) (h : P (pO (qs_registers (fGv q w (fReg (q_registers q) (q_r q) w)) (fSetR (q_registers (fGv q w (fReg (q_registers q) (q_r q) w))) (q_r q) w (fE q w))) cd k)) : wX3_exchangeE w (pO q cd k) P := by
  have hr := hD.2.2.2.2.2
  have er : c_r k = q_r q := hD.2.2.1
  refine iX3_e hI hD (iX4_value hI.2.1 (by show r7 (c_r k); rw [er]; exact hr) ?_)
  show wX3_giveE (fReg (q_registers q) (c_r k) w) w (pO q cd k) _
  rw [er]
  refine iX3_giveE hI hD ?_
  have hD2 := (si_gv q w (fReg (q_registers q) (q_r q) w)).dec hD
  generalize fGv q w (fReg (q_registers q) (q_r q) w) = q2 at h hD2 ⊢
  refine iX4_give (by show r7 (c_r k); rw [er]; exact hr) ?_
  show P (pO (qs_registers q2 (fSetR (q_registers q2) (c_r k) w (fE q w))) cd k)
  rw [er]
  exact h

theorem simMv134 {q : SQ} {k : SC} (hI : Inv q) (hg : q_gave q = 0) (hn : c_number k = q_code q) (hM : DecM k q)  (hc : q_code q = 134) : Sim (wX6_moves q) (wX3_operandCodes (pO q (-1) k)) q k 0 := by
  have hn' : c_number (p_code (pO q (-1) k)) = q_code q := hn
  have hm := hM.2.2.2.2.1
  have hr := hM.2.2.2.2.2
  have er := cr_eq (cd := -1) hM
  have h0 : 0 ≤ (q_code q).toInt := by rw [hc]; decide
  have hc2 : c_number (p_code (pO q (-1) k)) = 134 := hn'.trans hc
  apply Sim.one (q1 := qs_registers (fGv q (q_code q &&& 1) (fReg (q_registers q) (q_r q) (q_code q &&& 1))) (fSetR (q_registers (fGv q (q_code q &&& 1) (fReg (q_registers q) (q_r q) (q_code q &&& 1)))) (q_r q) (q_code q &&& 1) (fE q (q_code q &&& 1))))
  · intro P h
    refine iX6_isWide h0 (sk (by rw [hc]; decide) (sk (by rw [hc]; decide) (sk (by rw [hc]; decide) (sk (by rw [hc]; decide) (sk (by rw [hc]; decide) (sk (by rw [hc]; decide) (tk hc ?_)))))))
    refine iX6_operand hI hm (iX6_register hr (iX6_give hI hm ?_))
    have e2 := gv_r q (q_code q &&& 1) (fReg (q_registers q) (q_r q) (q_code q &&& 1))
    generalize fGv q (q_code q &&& 1) (fReg (q_registers q) (q_r q) (q_code q &&& 1)) = q2 at h e2 ⊢
    rw [e2]
    exact iX6_setRegister hr h
  · intro P h
    unfold wX3_operandCodes
    refine iX1_wide ?_
    rw [hn']
    refine (sk (by rw [hc]; decide) (sk (by rw [hc]; decide) (sk (by rw [hc]; decide) (sk (by rw [hc]; decide) (sk (by rw [hc]; decide) (sk (by rw [hc]; decide) (tk hc ?_)))))))
    exact iX3_exchangeE hI hM h
  · exact inv_R (inv_gv hI _ _) (inv_setR (inv_gv hI _ _).2.1.1 _ _ _)
  · exact ((same_gv q _ _).tr (same_R _ _)).kept hg

theorem simMv135 {q : SQ} {k : SC} (hI : Inv q) (hg : q_gave q = 0) (hn : c_number k = q_code q) (hM : DecM k q)  (hc : q_code q = 135) : Sim (wX6_moves q) (wX3_operandCodes (pO q (-1) k)) q k 0 := by
  have hn' : c_number (p_code (pO q (-1) k)) = q_code q := hn
  have hm := hM.2.2.2.2.1
  have hr := hM.2.2.2.2.2
  have er := cr_eq (cd := -1) hM
  have h0 : 0 ≤ (q_code q).toInt := by rw [hc]; decide
  have hc2 : c_number (p_code (pO q (-1) k)) = 135 := hn'.trans hc
  apply Sim.one (q1 := qs_registers (fGv q (q_code q &&& 1) (fReg (q_registers q) (q_r q) (q_code q &&& 1))) (fSetR (q_registers (fGv q (q_code q &&& 1) (fReg (q_registers q) (q_r q) (q_code q &&& 1)))) (q_r q) (q_code q &&& 1) (fE q (q_code q &&& 1))))
  · intro P h
    refine iX6_isWide h0 (sk (by rw [hc]; decide) (sk (by rw [hc]; decide) (sk (by rw [hc]; decide) (sk (by rw [hc]; decide) (sk (by rw [hc]; decide) (sk (by rw [hc]; decide) (sk (by rw [hc]; decide) (tk hc ?_))))))))
    refine iX6_operand hI hm (iX6_register hr (iX6_give hI hm ?_))
    have e2 := gv_r q (q_code q &&& 1) (fReg (q_registers q) (q_r q) (q_code q &&& 1))
    generalize fGv q (q_code q &&& 1) (fReg (q_registers q) (q_r q) (q_code q &&& 1)) = q2 at h e2 ⊢
    rw [e2]
    exact iX6_setRegister hr h
  · intro P h
    unfold wX3_operandCodes
    refine iX1_wide ?_
    rw [hn']
    refine (sk (by rw [hc]; decide) (sk (by rw [hc]; decide) (sk (by rw [hc]; decide) (sk (by rw [hc]; decide) (sk (by rw [hc]; decide) (sk (by rw [hc]; decide) (sk (by rw [hc]; decide) (tk hc ?_))))))))
    exact iX3_exchangeE hI hM h
  · exact inv_R (inv_gv hI _ _) (inv_setR (inv_gv hI _ _).2.1.1 _ _ _)
  · exact ((same_gv q _ _).tr (same_R _ _)).kept hg

theorem simMv136 {q : SQ} {k : SC} (hI : Inv q) (hg : q_gave q = 0) (hn : c_number k = q_code q) (hM : DecM k q)  (hc : q_code q = 136) : Sim (wX6_moves q) (wX3_operandCodes (pO q (-1) k)) q k 0 := by
  have hn' : c_number (p_code (pO q (-1) k)) = q_code q := hn
  have hm := hM.2.2.2.2.1
  have hr := hM.2.2.2.2.2
  have er := cr_eq (cd := -1) hM
  have h0 : 0 ≤ (q_code q).toInt := by rw [hc]; decide
  have hc2 : c_number (p_code (pO q (-1) k)) = 136 := hn'.trans hc
  apply Sim.one (q1 := fGv q (q_code q &&& 1) (fReg (q_registers q) (q_r q) (q_code q &&& 1)))
  · intro P h
    exact iX6_isWide h0 (sk (by rw [hc]; decide) (sk (by rw [hc]; decide) (sk (by rw [hc]; decide) (sk (by rw [hc]; decide) (sk (by rw [hc]; decide) (sk (by rw [hc]; decide) (sk (by rw [hc]; decide) (sk (by rw [hc]; decide) (tk hc (iX6_register hr (iX6_give hI hm h)))))))))))
  · intro P h
    unfold wX3_operandCodes
    refine iX1_wide ?_
    rw [hn']
    refine (sk (by rw [hc]; decide) (sk (by rw [hc]; decide) (sk (by rw [hc]; decide) (sk (by rw [hc]; decide) (sk (by rw [hc]; decide) (sk (by rw [hc]; decide) (sk (by rw [hc]; decide) (sk (by rw [hc]; decide) (tk hc ?_)))))))))
    refine iX4_value hI.2.1 (by show r7 (c_r k); rw [hM.2.2.1]; exact hr) ?_
    show wX3_giveE (fReg (q_registers q) (c_r (p_code (pO q (-1) k))) (q_code q &&& 1)) (q_code q &&& 1) (pO q (-1) k) _
    rw [er]
    exact iX3_giveE hI hM h
  · exact inv_gv hI _ _
  · exact (same_gv q _ _).kept hg

theorem simMv137 {q : SQ} {k : SC} (hI : Inv q) (hg : q_gave q = 0) (hn : c_number k = q_code q) (hM : DecM k q)  (hc : q_code q = 137) : Sim (wX6_moves q) (wX3_operandCodes (pO q (-1) k)) q k 0 := by
  have hn' : c_number (p_code (pO q (-1) k)) = q_code q := hn
  have hm := hM.2.2.2.2.1
  have hr := hM.2.2.2.2.2
  have er := cr_eq (cd := -1) hM
  have h0 : 0 ≤ (q_code q).toInt := by rw [hc]; decide
  have hc2 : c_number (p_code (pO q (-1) k)) = 137 := hn'.trans hc
  apply Sim.one (q1 := fGv q (q_code q &&& 1) (fReg (q_registers q) (q_r q) (q_code q &&& 1)))
  · intro P h
    exact iX6_isWide h0 (sk (by rw [hc]; decide) (sk (by rw [hc]; decide) (sk (by rw [hc]; decide) (sk (by rw [hc]; decide) (sk (by rw [hc]; decide) (sk (by rw [hc]; decide) (sk (by rw [hc]; decide) (sk (by rw [hc]; decide) (sk (by rw [hc]; decide) (tk hc (iX6_register hr (iX6_give hI hm h))))))))))))
  · intro P h
    unfold wX3_operandCodes
    refine iX1_wide ?_
    rw [hn']
    refine (sk (by rw [hc]; decide) (sk (by rw [hc]; decide) (sk (by rw [hc]; decide) (sk (by rw [hc]; decide) (sk (by rw [hc]; decide) (sk (by rw [hc]; decide) (sk (by rw [hc]; decide) (sk (by rw [hc]; decide) (sk (by rw [hc]; decide) (tk hc ?_))))))))))
    refine iX4_value hI.2.1 (by show r7 (c_r k); rw [hM.2.2.1]; exact hr) ?_
    show wX3_giveE (fReg (q_registers q) (c_r (p_code (pO q (-1) k))) (q_code q &&& 1)) (q_code q &&& 1) (pO q (-1) k) _
    rw [er]
    exact iX3_giveE hI hM h
  · exact inv_gv hI _ _
  · exact (same_gv q _ _).kept hg

theorem simMv138 {q : SQ} {k : SC} (hI : Inv q) (hg : q_gave q = 0) (hn : c_number k = q_code q) (hM : DecM k q)  (hc : q_code q = 138) : Sim (wX6_moves q) (wX3_operandCodes (pO q (-1) k)) q k 0 := by
  have hn' : c_number (p_code (pO q (-1) k)) = q_code q := hn
  have hm := hM.2.2.2.2.1
  have hr := hM.2.2.2.2.2
  have er := cr_eq (cd := -1) hM
  have h0 : 0 ≤ (q_code q).toInt := by rw [hc]; decide
  have hc2 : c_number (p_code (pO q (-1) k)) = 138 := hn'.trans hc
  apply Sim.one (q1 := qs_registers q (fSetR (q_registers q) (q_r q) (q_code q &&& 1) (fE q (q_code q &&& 1))))
  · intro P h
    exact iX6_isWide h0 (sk (by rw [hc]; decide) (sk (by rw [hc]; decide) (sk (by rw [hc]; decide) (sk (by rw [hc]; decide) (sk (by rw [hc]; decide) (sk (by rw [hc]; decide) (sk (by rw [hc]; decide) (sk (by rw [hc]; decide) (sk (by rw [hc]; decide) (sk (by rw [hc]; decide) (tk hc (iX6_operand hI hm (iX6_setRegister hr h)))))))))))))
  · intro P h
    unfold wX3_operandCodes
    refine iX1_wide ?_
    rw [hn']
    refine (sk (by rw [hc]; decide) (sk (by rw [hc]; decide) (sk (by rw [hc]; decide) (sk (by rw [hc]; decide) (sk (by rw [hc]; decide) (sk (by rw [hc]; decide) (sk (by rw [hc]; decide) (sk (by rw [hc]; decide) (sk (by rw [hc]; decide) (sk (by rw [hc]; decide) (tk hc ?_)))))))))))
    refine iX3_e hI hM (iX4_give (by show r7 (c_r k); rw [hM.2.2.1]; exact hr) ?_)
    show P (pO (qs_registers q (fSetR (q_registers q) (c_r (p_code (pO q (-1) k))) (q_code q &&& 1) (fE q (q_code q &&& 1)))) (-1) k)
    rw [er]
    exact h
  · exact inv_R hI (inv_setR hI.2.1.1 _ _ _)
  · exact (same_R q _).kept hg

theorem simMv139 {q : SQ} {k : SC} (hI : Inv q) (hg : q_gave q = 0) (hn : c_number k = q_code q) (hM : DecM k q)  (hc : q_code q = 139) : Sim (wX6_moves q) (wX3_operandCodes (pO q (-1) k)) q k 0 := by
  have hn' : c_number (p_code (pO q (-1) k)) = q_code q := hn
  have hm := hM.2.2.2.2.1
  have hr := hM.2.2.2.2.2
  have er := cr_eq (cd := -1) hM
  have h0 : 0 ≤ (q_code q).toInt := by rw [hc]; decide
  have hc2 : c_number (p_code (pO q (-1) k)) = 139 := hn'.trans hc
  apply Sim.one (q1 := qs_registers q (fSetR (q_registers q) (q_r q) (q_code q &&& 1) (fE q (q_code q &&& 1))))
  · intro P h
    exact iX6_isWide h0 (sk (by rw [hc]; decide) (sk (by rw [hc]; decide) (sk (by rw [hc]; decide) (sk (by rw [hc]; decide) (sk (by rw [hc]; decide) (sk (by rw [hc]; decide) (sk (by rw [hc]; decide) (sk (by rw [hc]; decide) (sk (by rw [hc]; decide) (sk (by rw [hc]; decide) (sk (by rw [hc]; decide) (tk hc (iX6_operand hI hm (iX6_setRegister hr h))))))))))))))
  · intro P h
    unfold wX3_operandCodes
    refine iX1_wide ?_
    rw [hn']
    refine (sk (by rw [hc]; decide) (sk (by rw [hc]; decide) (sk (by rw [hc]; decide) (sk (by rw [hc]; decide) (sk (by rw [hc]; decide) (sk (by rw [hc]; decide) (sk (by rw [hc]; decide) (sk (by rw [hc]; decide) (sk (by rw [hc]; decide) (sk (by rw [hc]; decide) (sk (by rw [hc]; decide) (tk hc ?_))))))))))))
    refine iX3_e hI hM (iX4_give (by show r7 (c_r k); rw [hM.2.2.1]; exact hr) ?_)
    show P (pO (qs_registers q (fSetR (q_registers q) (c_r (p_code (pO q (-1) k))) (q_code q &&& 1) (fE q (q_code q &&& 1)))) (-1) k)
    rw [er]
    exact h
  · exact inv_R hI (inv_setR hI.2.1.1 _ _ _)
  · exact (same_R q _).kept hg

theorem simMv140 {q : SQ} {k : SC} (hI : Inv q) (hg : q_gave q = 0) (hn : c_number k = q_code q) (hM : DecM k q)  (hc : q_code q = 140) : Sim (wX6_moves q) (wX3_operandCodes (pO q (-1) k)) q k 0 := by
  have hn' : c_number (p_code (pO q (-1) k)) = q_code q := hn
  have hm := hM.2.2.2.2.1
  have hr := hM.2.2.2.2.2
  have er := cr_eq (cd := -1) hM
  have h0 : 0 ≤ (q_code q).toInt := by rw [hc]; decide
  have hc2 : c_number (p_code (pO q (-1) k)) = 140 := hn'.trans hc
  apply Sim.one (q1 := fGv q 1 (q_segments q (q_r q &&& 3).toNatClampNeg))
  · intro P h
    exact iX6_isWide h0 (sk (by rw [hc]; decide) (sk (by rw [hc]; decide) (sk (by rw [hc]; decide) (sk (by rw [hc]; decide) (sk (by rw [hc]; decide) (sk (by rw [hc]; decide) (sk (by rw [hc]; decide) (sk (by rw [hc]; decide) (sk (by rw [hc]; decide) (sk (by rw [hc]; decide) (sk (by rw [hc]; decide) (sk (by rw [hc]; decide) (tk hc ⟨vp_3 (r3_and _), iX6_give hI hm h⟩)))))))))))))
  · intro P h
    unfold wX3_operandCodes
    refine iX1_wide ?_
    rw [hn']
    refine (sk (by rw [hc]; decide) (sk (by rw [hc]; decide) (sk (by rw [hc]; decide) (sk (by rw [hc]; decide) (sk (by rw [hc]; decide) (sk (by rw [hc]; decide) (sk (by rw [hc]; decide) (sk (by rw [hc]; decide) (sk (by rw [hc]; decide) (sk (by rw [hc]; decide) (sk (by rw [hc]; decide) (sk (by rw [hc]; decide) (tk hc ?_)))))))))))))
    refine iX4_segment ?_
    show wX3_giveE (q_segments q (c_r (p_code (pO q (-1) k)) &&& 3).toNatClampNeg) 1 (pO q (-1) k) _
    rw [er]
    exact iX3_giveE hI hM h
  · exact inv_gv hI _ _
  · exact (same_gv q _ _).kept hg

theorem simMv141 {q : SQ} {k : SC} (hI : Inv q) (hg : q_gave q = 0) (hn : c_number k = q_code q) (hM : DecM k q) (ho : c_offset k = q_offset q ∧ rW (q_offset q)) (hc : q_code q = 141) : Sim (wX6_moves q) (wX3_operandCodes (pO q (-1) k)) q k 0 := by
  have hn' : c_number (p_code (pO q (-1) k)) = q_code q := hn
  have hm := hM.2.2.2.2.1
  have hr := hM.2.2.2.2.2
  have er := cr_eq (cd := -1) hM
  have h0 : 0 ≤ (q_code q).toInt := by rw [hc]; decide
  have hc2 : c_number (p_code (pO q (-1) k)) = 141 := hn'.trans hc
  apply Sim.one (q1 := qs_registers q (upd (q_registers q) (q_r q).toNatClampNeg (q_offset q)))
  · intro P h
    exact iX6_isWide h0 (sk (by rw [hc]; decide) (sk (by rw [hc]; decide) (sk (by rw [hc]; decide) (sk (by rw [hc]; decide) (sk (by rw [hc]; decide) (sk (by rw [hc]; decide) (sk (by rw [hc]; decide) (sk (by rw [hc]; decide) (sk (by rw [hc]; decide) (sk (by rw [hc]; decide) (sk (by rw [hc]; decide) (sk (by rw [hc]; decide) (sk (by rw [hc]; decide) (tk hc ⟨vp_7 hr, h⟩))))))))))))))
  · intro P h
    unfold wX3_operandCodes
    refine iX1_wide ?_
    rw [hn']
    refine (sk (by rw [hc]; decide) (sk (by rw [hc]; decide) (sk (by rw [hc]; decide) (sk (by rw [hc]; decide) (sk (by rw [hc]; decide) (sk (by rw [hc]; decide) (sk (by rw [hc]; decide) (sk (by rw [hc]; decide) (sk (by rw [hc]; decide) (sk (by rw [hc]; decide) (sk (by rw [hc]; decide) (sk (by rw [hc]; decide) (sk (by rw [hc]; decide) (tk hc ?_))))))))))))))
    refine iX4_setWord ?_
    show P (pO (qs_registers q (upd (q_registers q) (c_r k &&& 7).toNatClampNeg (c_offset k &&& 65535))) (-1) k)
    rw [hM.2.2.1, and7_id hr, ho.1, and65535_id ho.2]
    exact h
  · exact inv_R hI (inv_updW hI.2.1.1 _ ho.2)
  · exact (same_R q _).kept hg

theorem simMv142 {q : SQ} {k : SC} (hI : Inv q) (hg : q_gave q = 0) (hn : c_number k = q_code q) (hM : DecM k q)  (hc : q_code q = 142) : Sim (wX6_moves q) (wX3_operandCodes (pO q (-1) k)) q k 1 := by
  have hn' : c_number (p_code (pO q (-1) k)) = q_code q := hn
  have hm := hM.2.2.2.2.1
  have hr := hM.2.2.2.2.2
  have er := cr_eq (cd := -1) hM
  have h0 : 0 ≤ (q_code q).toInt := by rw [hc]; decide
  have hc2 : c_number (p_code (pO q (-1) k)) = 142 := hn'.trans hc
  have rE : rW (fE q 1) := rO_W (rO_e hI 1)
  apply Sim.one (q1 := qs_gave (qs_segments q (upd (q_segments q) (q_r q &&& 3).toNatClampNeg (fE q 1))) 1)
  · intro P h
    exact iX6_isWide h0 (sk (by rw [hc]; decide) (sk (by rw [hc]; decide) (sk (by rw [hc]; decide) (sk (by rw [hc]; decide) (sk (by rw [hc]; decide) (sk (by rw [hc]; decide) (sk (by rw [hc]; decide) (sk (by rw [hc]; decide) (sk (by rw [hc]; decide) (sk (by rw [hc]; decide) (sk (by rw [hc]; decide) (sk (by rw [hc]; decide) (sk (by rw [hc]; decide) (sk (by rw [hc]; decide) (tk hc (iX6_operand hI hm ⟨vp_3 (r3_and _), h⟩))))))))))))))))
  · intro P h
    unfold wX3_operandCodes
    refine iX1_wide ?_
    rw [hn']
    refine (sk (by rw [hc]; decide) (sk (by rw [hc]; decide) (sk (by rw [hc]; decide) (sk (by rw [hc]; decide) (sk (by rw [hc]; decide) (sk (by rw [hc]; decide) (sk (by rw [hc]; decide) (sk (by rw [hc]; decide) (sk (by rw [hc]; decide) (sk (by rw [hc]; decide) (sk (by rw [hc]; decide) (sk (by rw [hc]; decide) (sk (by rw [hc]; decide) (sk (by rw [hc]; decide) (tk hc ?_)))))))))))))))
    refine iX3_e hI hM (iP_setSegment (q := q) ?_)
    rw [show c_r (p_code (pO q (-1) k)) = q_r q from er, and65535_id rE]
    rw [pO_gave] at h
    exact h
  · exact inv_gave _ (inv_Sg hI (inv_updW hI.2.1.2.1 _ rE))
  · exact kept_gave (same_Sg q _)

theorem simMv143 {q : SQ} {k : SC} (hI : Inv q) (hg : q_gave q = 0) (hn : c_number k = q_code q) (hM : DecM k q)  (hc : q_code q = 143) : Sim (wX6_moves q) (wX3_operandCodes (pO q (-1) k)) q k 0 := by
  have hn' : c_number (p_code (pO q (-1) k)) = q_code q := hn
  have hm := hM.2.2.2.2.1
  have hr := hM.2.2.2.2.2
  have er := cr_eq (cd := -1) hM
  have h0 : 0 ≤ (q_code q).toInt := by rw [hc]; decide
  have hc2 : c_number (p_code (pO q (-1) k)) = 143 := hn'.trans hc
  apply Sim.one (q1 := fGv (fPop q) 1 (fPopV q))
  · intro P h
    refine iX6_isWide h0 (sk (by rw [hc]; decide) (sk (by rw [hc]; decide) (sk (by rw [hc]; decide) (sk (by rw [hc]; decide) (sk (by rw [hc]; decide) (sk (by rw [hc]; decide) (sk (by rw [hc]; decide) (sk (by rw [hc]; decide) (sk (by rw [hc]; decide) (sk (by rw [hc]; decide) (sk (by rw [hc]; decide) (sk (by rw [hc]; decide) (sk (by rw [hc]; decide) (sk (by rw [hc]; decide) (sk (by rw [hc]; decide) ?_)))))))))))))))
    exact iX6_pop hI (iX6_give (inv_pop hI) hm h)
  · intro P h
    unfold wX3_operandCodes
    refine iX1_wide ?_
    rw [hn']
    refine (sk (by rw [hc]; decide) (sk (by rw [hc]; decide) (sk (by rw [hc]; decide) (sk (by rw [hc]; decide) (sk (by rw [hc]; decide) (sk (by rw [hc]; decide) (sk (by rw [hc]; decide) (sk (by rw [hc]; decide) (sk (by rw [hc]; decide) (sk (by rw [hc]; decide) (sk (by rw [hc]; decide) (sk (by rw [hc]; decide) (sk (by rw [hc]; decide) (sk (by rw [hc]; decide) (sk (by rw [hc]; decide) ?_)))))))))))))))
    exact iX3_pop hI (iX3_giveE (inv_pop hI) ((si_SP q _).dec hM) h)
  · exact inv_gv (inv_pop hI) _ _
  · exact ((same_pop q).tr (same_gv _ _ _)).kept hg
