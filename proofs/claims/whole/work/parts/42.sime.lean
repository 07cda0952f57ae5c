-- ===== codes C0 to CF =====
def fRetA (q : SQ) : SQ := qs_ip (fPop q) (fPopV q)
def fRetB (q : SQ) : SQ := qs_segments (fPop q) (upd (q_segments (fPop q)) 1 (fPopV q))
def fAdd (q : SQ) (a : Int32) : SQ := fSP q (q_registers q 4 + a)
def fRetN (q : SQ) (a : Int32) : SQ := fAdd (fRetA q) a
def fRetF (q : SQ) (a : Int32) : SQ := fAdd (fRetB (fRetA q)) a
theorem inv_retA {q : SQ} (h : Inv q) : Inv (fRetA q) := inv_Ip (inv_pop h) (rW_popV h)
theorem inv_retB {q : SQ} (h : Inv q) : Inv (fRetB q) := inv_Sg (inv_pop h) (inv_updW (inv_pop h).2.1.2.1 _ (rW_popV h))
theorem inv_add {q : SQ} (h : Inv q) (a : Int32) : Inv (fAdd q a) := inv_SP h _
theorem same_retA (q : SQ) : Same q (fRetA q) := (same_pop q).tr (same_Ip _ _)
theorem same_retB (q : SQ) : Same q (fRetB q) := (same_pop q).tr (same_Sg _ _)
theorem same_add (q : SQ) (a : Int32) : Same q (fAdd q a) := same_SP q _
theorem im_add {a b : Int32} {x : Int32} {q : SQ} {P : SQ → Prop} (h : P (fAdd q a)) : wX6_returns_b22 x a P q := ⟨vp_7 r7_4, vp_7 r7_4, h⟩
theorem iX6_retN {a : Int32} {q : SQ} {P : SQ → Prop} (hI : Inv q) (h : P (fRetN q a)) : wX6_returns 0 a q P :=
  iX6_pop hI ⟨fun _ => im_add (b := 0) (q := fRetA q) h, fun c => absurd rfl c⟩
theorem im_retB {a : Int32} {q : SQ} {P : SQ → Prop} (hI : Inv q) (h : P (fAdd (fRetB q) a)) : wX6_pop q (fun r5 u4 => vp_in 1 4 ∧ wX6_returns_b22 1 a P (qs_segments u4 (upd (q_segments u4) (1 : Int32).toNatClampNeg r5))) :=
  iX6_pop hI ⟨v_14, im_add (b := 0) (q := fRetB q) h⟩
theorem iX6_retF {a : Int32} {q : SQ} {P : SQ → Prop} (hI : Inv q) (h : P (fRetF q a)) : wX6_returns 1 a q P := by
  refine iX6_pop hI ⟨fun c => absurd c (by decide), fun _ => ?_⟩
  exact im_retB (q := fRetA q) (inv_retA hI) h
theorem ic_near {v a cd : Int32} {k : SC} {q : SQ} {P : SP → Prop} (hv : rW v) (h : P (pO (fAdd (qs_ip q v) a) cd k)) : wX4_moveTo v (p_regs (pO q cd k)) (fun u3 => wX4_word 4 u3 (fun r6 u5 => wX4_setWord 4 (r6 + a) u5 (fun u7 => P (ps_regs (pO q cd k) u7)))) := by
  refine iX4_moveTo (iX4_word (iX4_setWord ?_))
  rw [and65535_id hv]
  exact h
theorem iX3_returnNear {a cd : Int32} {k : SC} {q : SQ} {P : SP → Prop} (hI : Inv q) (h : P (pO (fRetN q a) cd k)) : wX3_returnNear a (pO q cd k) P :=
  iX3_pop hI (ic_near (q := fPop q) (rW_popV hI) h)
theorem ic_far {v a cd : Int32} {k : SC} {q : SQ} {P : SP → Prop} (hv : rW v) (h : P (pO (fAdd (qs_segments q (upd (q_segments q) 1 v)) a) cd k)) : wX4_setSegment 1 v (p_regs (pO q cd k)) (fun u7 => wX4_word 4 u7 (fun r10 u9 => wX4_setWord 4 (r10 + a) u9 (fun u11 => P (ps_regs (pO q cd k) u11)))) := by
  refine iX4_setSegment (iX4_word (iX4_setWord ?_))
  rw [and65535_id hv]
  exact h
theorem ic_far2 {a cd : Int32} {k : SC} {q : SQ} {P : SP → Prop} (hI : Inv q) (h : P (pO (fAdd (fRetB q) a) cd k)) : wX3_pop (pO q cd k) (fun r6 u5 => wX4_setSegment 1 r6 (p_regs u5) (fun u7 => wX4_word 4 u7 (fun r10 u9 => wX4_setWord 4 (r10 + a) u9 (fun u11 => P (ps_regs u5 u11))))) :=
  iX3_pop hI (ic_far (q := fPop q) (rW_popV hI) h)
theorem iX3_returnFar {a cd : Int32} {k : SC} {q : SQ} {P : SP → Prop} (hI : Inv q) (h : P (pO (fRetF q a) cd k)) : wX3_returnFar a (pO q cd k) P := by
  refine iX3_pop hI (iX4_moveTo ?_)
  rw [and65535_id (rW_popV hI)]
  exact ic_far2 (q := fRetA q) (inv_retA hI) h
def fFar (q : SQ) (s : Nat) : SQ := qs_segments (qs_registers q (upd (q_registers q) (q_r q).toNatClampNeg (fE q 1))) (upd (q_segments q) s (fGet (mQ q) (q_place q) (q_offset q + 2) 1))
theorem iX3_giveFar {s cd : Int32} {k : SC} {q : SQ} {P : SP → Prop} (hI : Inv q) (hD : DecM k q) (hn : ¬ q_mode q = 3) (hs : r3 s) (h : P (pO (fFar q s.toNatClampNeg) cd k)) : wX3_giveFar s (pO q cd k) P := by
  refine iX3_wordBehindE hI hD hn (iX3_e hI hD (iX4_setWord (iX4_setSegment ?_)))
  rw [and3_id hs, and65535_id (rO_W (rO_get hI.1 _ _ _)), and65535_id (rO_W (rO_e hI 1)), show c_r (p_code (pO q cd k)) = q_r q from hD.2.2.1, and7_id hD.2.2.2.2.2]
  exact h
theorem inv_far {q : SQ} (h : Inv q) (s : Nat) : Inv (fFar q s) := inv_Sg (inv_R h (inv_updW h.2.1.1 _ (rO_W (rO_e h 1)))) (inv_updW h.2.1.2.1 _ (rO_W (rO_get h.1 _ _ _)))
theorem same_far (q : SQ) (s : Nat) : Same q (fFar q s) := (same_R q _).tr (same_Sg _ _)
theorem pO_called (q : SQ) (cd n : Int32) (k : SC) : ps_called (pO q cd k) n = pO q n k := rfl

theorem simRt192 {q : SQ} {k : SC} (hI : Inv q) (hg : q_gave q = 0) (hn : c_number k = q_code q) (hi : q_i q = c_first k ∧ rW (q_i q)) (hc : q_code q = 192) : Sim (wX6_returnsAndMore q) (wX3_returnCodes (pO q (-1) k)) q k 0 := by
  have hn' : c_number (p_code (pO q (-1) k)) = q_code q := hn
  have ei : c_first (p_code (pO q (-1) k)) = q_i q := hi.1.symm
  apply Sim.one (q1 := fRetN q (q_i q))
  · intro P h
    exact (tk hc (iX6_retN hI h))
  · intro P h
    unfold wX3_returnCodes
    rw [hn']
    refine (tk hc ?_)
    unfold wX3_returnCodes_b80
    rw [ei]
    exact iX3_returnNear hI h
  · exact inv_add (inv_retA hI) _
  · exact ((same_retA q).tr (same_add _ _)).kept hg

theorem simRt194 {q : SQ} {k : SC} (hI : Inv q) (hg : q_gave q = 0) (hn : c_number k = q_code q) (hi : q_i q = c_first k ∧ rW (q_i q)) (hc : q_code q = 194) : Sim (wX6_returnsAndMore q) (wX3_returnCodes (pO q (-1) k)) q k 0 := by
  have hn' : c_number (p_code (pO q (-1) k)) = q_code q := hn
  have ei : c_first (p_code (pO q (-1) k)) = q_i q := hi.1.symm
  apply Sim.one (q1 := fRetN q (q_i q))
  · intro P h
    exact (sk (by rw [hc]; decide) (sk (by rw [hc]; decide) (tk hc (iX6_retN hI h))))
  · intro P h
    unfold wX3_returnCodes
    rw [hn']
    refine (sk (by rw [hc]; decide) (sk (by rw [hc]; decide) (tk hc ?_)))
    unfold wX3_returnCodes_b80
    rw [ei]
    exact iX3_returnNear hI h
  · exact inv_add (inv_retA hI) _
  · exact ((same_retA q).tr (same_add _ _)).kept hg

theorem simRt193 {q : SQ} {k : SC} (hI : Inv q) (hg : q_gave q = 0) (hn : c_number k = q_code q)  (hc : q_code q = 193) : Sim (wX6_returnsAndMore q) (wX3_returnCodes (pO q (-1) k)) q k 0 := by
  have hn' : c_number (p_code (pO q (-1) k)) = q_code q := hn
  apply Sim.one (q1 := fRetN q 0)
  · intro P h
    exact (sk (by rw [hc]; decide) (tk hc (iX6_retN hI h)))
  · intro P h
    unfold wX3_returnCodes
    rw [hn']
    refine (sk (by rw [hc]; decide) (tk hc ?_))
    exact iX3_returnNear hI h
  · exact inv_add (inv_retA hI) _
  · exact ((same_retA q).tr (same_add _ _)).kept hg

theorem simRt195 {q : SQ} {k : SC} (hI : Inv q) (hg : q_gave q = 0) (hn : c_number k = q_code q)  (hc : q_code q = 195) : Sim (wX6_returnsAndMore q) (wX3_returnCodes (pO q (-1) k)) q k 0 := by
  have hn' : c_number (p_code (pO q (-1) k)) = q_code q := hn
  apply Sim.one (q1 := fRetN q 0)
  · intro P h
    exact (sk (by rw [hc]; decide) (sk (by rw [hc]; decide) (sk (by rw [hc]; decide) (tk hc (iX6_retN hI h)))))
  · intro P h
    unfold wX3_returnCodes
    rw [hn']
    refine (sk (by rw [hc]; decide) (sk (by rw [hc]; decide) (sk (by rw [hc]; decide) (tk hc ?_))))
    exact iX3_returnNear hI h
  · exact inv_add (inv_retA hI) _
  · exact ((same_retA q).tr (same_add _ _)).kept hg

theorem simRt200 {q : SQ} {k : SC} (hI : Inv q) (hg : q_gave q = 0) (hn : c_number k = q_code q) (hi : q_i q = c_first k ∧ rW (q_i q)) (hc : q_code q = 200) : Sim (wX6_returnsAndMore q) (wX3_returnCodes (pO q (-1) k)) q k 0 := by
  have hn' : c_number (p_code (pO q (-1) k)) = q_code q := hn
  have ei : c_first (p_code (pO q (-1) k)) = q_i q := hi.1.symm
  apply Sim.one (q1 := fRetF q (q_i q))
  · intro P h
    exact (sk (by rw [hc]; decide) (sk (by rw [hc]; decide) (sk (by rw [hc]; decide) (sk (by rw [hc]; decide) (sk (by rw [hc]; decide) (sk (by rw [hc]; decide) (sk (by rw [hc]; decide) (sk (by rw [hc]; decide) (tk hc (iX6_retF hI h))))))))))
  · intro P h
    unfold wX3_returnCodes
    rw [hn']
    refine (sk (by rw [hc]; decide) (sk (by rw [hc]; decide) (sk (by rw [hc]; decide) (sk (by rw [hc]; decide) (sk (by rw [hc]; decide) (sk (by rw [hc]; decide) (sk (by rw [hc]; decide) (sk (by rw [hc]; decide) (tk hc ?_)))))))))
    unfold wX3_returnCodes_b139
    rw [ei]
    exact iX3_returnFar hI h
  · exact inv_add (inv_retB (inv_retA hI)) _
  · exact (((same_retA q).tr (same_retB _)).tr (same_add _ _)).kept hg

theorem simRt202 {q : SQ} {k : SC} (hI : Inv q) (hg : q_gave q = 0) (hn : c_number k = q_code q) (hi : q_i q = c_first k ∧ rW (q_i q)) (hc : q_code q = 202) : Sim (wX6_returnsAndMore q) (wX3_returnCodes (pO q (-1) k)) q k 0 := by
  have hn' : c_number (p_code (pO q (-1) k)) = q_code q := hn
  have ei : c_first (p_code (pO q (-1) k)) = q_i q := hi.1.symm
  apply Sim.one (q1 := fRetF q (q_i q))
  · intro P h
    exact (sk (by rw [hc]; decide) (sk (by rw [hc]; decide) (sk (by rw [hc]; decide) (sk (by rw [hc]; decide) (sk (by rw [hc]; decide) (sk (by rw [hc]; decide) (sk (by rw [hc]; decide) (sk (by rw [hc]; decide) (sk (by rw [hc]; decide) (sk (by rw [hc]; decide) (tk hc (iX6_retF hI h))))))))))))
  · intro P h
    unfold wX3_returnCodes
    rw [hn']
    refine (sk (by rw [hc]; decide) (sk (by rw [hc]; decide) (sk (by rw [hc]; decide) (sk (by rw [hc]; decide) (sk (by rw [hc]; decide) (sk (by rw [hc]; decide) (sk (by rw [hc]; decide) (sk (by rw [hc]; decide) (sk (by rw [hc]; decide) (sk (by rw [hc]; decide) (tk hc ?_)))))))))))
    unfold wX3_returnCodes_b139
    rw [ei]
    exact iX3_returnFar hI h
  · exact inv_add (inv_retB (inv_retA hI)) _
  · exact (((same_retA q).tr (same_retB _)).tr (same_add _ _)).kept hg

theorem simRt201 {q : SQ} {k : SC} (hI : Inv q) (hg : q_gave q = 0) (hn : c_number k = q_code q)  (hc : q_code q = 201) : Sim (wX6_returnsAndMore q) (wX3_returnCodes (pO q (-1) k)) q k 0 := by
  have hn' : c_number (p_code (pO q (-1) k)) = q_code q := hn
  apply Sim.one (q1 := fRetF q 0)
  · intro P h
    exact (sk (by rw [hc]; decide) (sk (by rw [hc]; decide) (sk (by rw [hc]; decide) (sk (by rw [hc]; decide) (sk (by rw [hc]; decide) (sk (by rw [hc]; decide) (sk (by rw [hc]; decide) (sk (by rw [hc]; decide) (sk (by rw [hc]; decide) (tk hc (iX6_retF hI h)))))))))))
  · intro P h
    unfold wX3_returnCodes
    rw [hn']
    refine (sk (by rw [hc]; decide) (sk (by rw [hc]; decide) (sk (by rw [hc]; decide) (sk (by rw [hc]; decide) (sk (by rw [hc]; decide) (sk (by rw [hc]; decide) (sk (by rw [hc]; decide) (sk (by rw [hc]; decide) (sk (by rw [hc]; decide) (tk hc ?_))))))))))
    exact iX3_returnFar hI h
  · exact inv_add (inv_retB (inv_retA hI)) _
  · exact (((same_retA q).tr (same_retB _)).tr (same_add _ _)).kept hg

theorem simRt203 {q : SQ} {k : SC} (hI : Inv q) (hg : q_gave q = 0) (hn : c_number k = q_code q)  (hc : q_code q = 203) : Sim (wX6_returnsAndMore q) (wX3_returnCodes (pO q (-1) k)) q k 0 := by
  have hn' : c_number (p_code (pO q (-1) k)) = q_code q := hn
  apply Sim.one (q1 := fRetF q 0)
  · intro P h
    exact (sk (by rw [hc]; decide) (sk (by rw [hc]; decide) (sk (by rw [hc]; decide) (sk (by rw [hc]; decide) (sk (by rw [hc]; decide) (sk (by rw [hc]; decide) (sk (by rw [hc]; decide) (sk (by rw [hc]; decide) (sk (by rw [hc]; decide) (sk (by rw [hc]; decide) (sk (by rw [hc]; decide) (tk hc (iX6_retF hI h)))))))))))))
  · intro P h
    unfold wX3_returnCodes
    rw [hn']
    refine (sk (by rw [hc]; decide) (sk (by rw [hc]; decide) (sk (by rw [hc]; decide) (sk (by rw [hc]; decide) (sk (by rw [hc]; decide) (sk (by rw [hc]; decide) (sk (by rw [hc]; decide) (sk (by rw [hc]; decide) (sk (by rw [hc]; decide) (sk (by rw [hc]; decide) (sk (by rw [hc]; decide) (tk hc ?_))))))))))))
    exact iX3_returnFar hI h
  · exact inv_add (inv_retB (inv_retA hI)) _
  · exact (((same_retA q).tr (same_retB _)).tr (same_add _ _)).kept hg

theorem simRt196 {q : SQ} {k : SC} (hI : Inv q) (hg : q_gave q = 0) (hn : c_number k = q_code q) (hM : DecM k q) (hnm : ¬ q_mode q = 3) (hc : q_code q = 196) : Sim (wX6_returnsAndMore q) (wX3_returnCodes (pO q (-1) k)) q k 0 := by
  have hn' : c_number (p_code (pO q (-1) k)) = q_code q := hn
  apply Sim.one (q1 := fFar q (0 : Int32).toNatClampNeg)
  · intro P h
    exact (sk (by rw [hc]; decide) (sk (by rw [hc]; decide) (sk (by rw [hc]; decide) (sk (by rw [hc]; decide) (tk hc (iX6_operand hI hM.2.2.2.2.1 (tk hc (iX6_get hI.1 ⟨vp_3 r3_0, vp_7 hM.2.2.2.2.2, h⟩))))))))
  · intro P h
    unfold wX3_returnCodes
    rw [hn']
    refine (sk (by rw [hc]; decide) (sk (by rw [hc]; decide) (sk (by rw [hc]; decide) (sk (by rw [hc]; decide) (tk hc ?_)))))
    exact iX3_giveFar hI hM hnm r3_0 h
  · exact inv_far hI _
  · exact (same_far q _).kept hg

theorem simRt197 {q : SQ} {k : SC} (hI : Inv q) (hg : q_gave q = 0) (hn : c_number k = q_code q) (hM : DecM k q) (hnm : ¬ q_mode q = 3) (hc : q_code q = 197) : Sim (wX6_returnsAndMore q) (wX3_returnCodes (pO q (-1) k)) q k 0 := by
  have hn' : c_number (p_code (pO q (-1) k)) = q_code q := hn
  apply Sim.one (q1 := fFar q (3 : Int32).toNatClampNeg)
  · intro P h
    exact (sk (by rw [hc]; decide) (sk (by rw [hc]; decide) (sk (by rw [hc]; decide) (sk (by rw [hc]; decide) (sk (by rw [hc]; decide) (tk hc (iX6_operand hI hM.2.2.2.2.1 (sk (by rw [hc]; decide) (iX6_get hI.1 ⟨vp_3 r3_3, vp_7 hM.2.2.2.2.2, h⟩)))))))))
  · intro P h
    unfold wX3_returnCodes
    rw [hn']
    refine (sk (by rw [hc]; decide) (sk (by rw [hc]; decide) (sk (by rw [hc]; decide) (sk (by rw [hc]; decide) (sk (by rw [hc]; decide) (tk hc ?_))))))
    exact iX3_giveFar hI hM hnm r3_3 h
  · exact inv_far hI _
  · exact (same_far q _).kept hg

theorem simRt198 {q : SQ} {k : SC} (hI : Inv q) (hg : q_gave q = 0) (hn : c_number k = q_code q) (hM : DecM k q) (hi : q_i q = c_first k) (hc : q_code q = 198) : Sim (wX6_returnsAndMore q) (wX3_returnCodes (pO q (-1) k)) q k 0 := by
  have hn' : c_number (p_code (pO q (-1) k)) = q_code q := hn
  apply Sim.one (q1 := fGv q (q_code q &&& 1) (q_i q))
  · intro P h
    exact (sk (by rw [hc]; decide) (sk (by rw [hc]; decide) (sk (by rw [hc]; decide) (sk (by rw [hc]; decide) (sk (by rw [hc]; decide) (sk (by rw [hc]; decide) (tk hc (iX6_isWide (by rw [hc]; decide) (iX6_give hI hM.2.2.2.2.1 h)))))))))
  · intro P h
    unfold wX3_returnCodes
    rw [hn']
    refine (sk (by rw [hc]; decide) (sk (by rw [hc]; decide) (sk (by rw [hc]; decide) (sk (by rw [hc]; decide) (sk (by rw [hc]; decide) (sk (by rw [hc]; decide) (tk hc ?_)))))))
    refine iX1_wide ?_
    rw [hn', show c_first (p_code (pO q (-1) k)) = q_i q from hi.symm]
    exact iX3_giveE hI hM h
  · exact inv_gv hI _ _
  · exact (same_gv q _ _).kept hg

theorem simRt199 {q : SQ} {k : SC} (hI : Inv q) (hg : q_gave q = 0) (hn : c_number k = q_code q) (hM : DecM k q) (hi : q_i q = c_first k) (hc : q_code q = 199) : Sim (wX6_returnsAndMore q) (wX3_returnCodes (pO q (-1) k)) q k 0 := by
  have hn' : c_number (p_code (pO q (-1) k)) = q_code q := hn
  apply Sim.one (q1 := fGv q (q_code q &&& 1) (q_i q))
  · intro P h
    exact (sk (by rw [hc]; decide) (sk (by rw [hc]; decide) (sk (by rw [hc]; decide) (sk (by rw [hc]; decide) (sk (by rw [hc]; decide) (sk (by rw [hc]; decide) (sk (by rw [hc]; decide) (tk hc (iX6_isWide (by rw [hc]; decide) (iX6_give hI hM.2.2.2.2.1 h))))))))))
  · intro P h
    unfold wX3_returnCodes
    rw [hn']
    refine (sk (by rw [hc]; decide) (sk (by rw [hc]; decide) (sk (by rw [hc]; decide) (sk (by rw [hc]; decide) (sk (by rw [hc]; decide) (sk (by rw [hc]; decide) (sk (by rw [hc]; decide) (tk hc ?_))))))))
    refine iX1_wide ?_
    rw [hn', show c_first (p_code (pO q (-1) k)) = q_i q from hi.symm]
    exact iX3_giveE hI hM h
  · exact inv_gv hI _ _
  · exact (same_gv q _ _).kept hg

theorem simRt204 {q : SQ} {k : SC} (hI : Inv q) (hg : q_gave q = 0) (hn : c_number k = q_code q)  (hc : q_code q = 204) : Sim (wX6_returnsAndMore q) (wX3_returnCodes (pO q (-1) k)) q k 0 := by
  have hn' : c_number (p_code (pO q (-1) k)) = q_code q := hn
  apply Sim.int (q1 := q) (n := 3)
  · decide
  · intro P h
    exact (sk (by rw [hc]; decide) (sk (by rw [hc]; decide) (sk (by rw [hc]; decide) (sk (by rw [hc]; decide) (sk (by rw [hc]; decide) (sk (by rw [hc]; decide) (sk (by rw [hc]; decide) (sk (by rw [hc]; decide) (sk (by rw [hc]; decide) (sk (by rw [hc]; decide) (sk (by rw [hc]; decide) (sk (by rw [hc]; decide) (tk hc (iX6_interrupt hI h))))))))))))))
  · intro P h
    unfold wX3_returnCodes
    rw [hn']
    refine (sk (by rw [hc]; decide) (sk (by rw [hc]; decide) (sk (by rw [hc]; decide) (sk (by rw [hc]; decide) (sk (by rw [hc]; decide) (sk (by rw [hc]; decide) (sk (by rw [hc]; decide) (sk (by rw [hc]; decide) (sk (by rw [hc]; decide) (sk (by rw [hc]; decide) (sk (by rw [hc]; decide) (sk (by rw [hc]; decide) (tk hc ?_)))))))))))))
    exact h
  · exact hI
  · exact Same.rf.kept hg

theorem simRt205 {q : SQ} {k : SC} (hI : Inv q) (hg : q_gave q = 0) (hn : c_number k = q_code q) (hi : q_i q = c_first k ∧ rB (q_i q)) (hc : q_code q = 205) : Sim (wX6_returnsAndMore q) (wX3_returnCodes (pO q (-1) k)) q k 0 := by
  have hn' : c_number (p_code (pO q (-1) k)) = q_code q := hn
  apply Sim.int (q1 := q) (n := q_i q)
  · exact fun z => by have := hi.2.1; rw [z] at this; exact absurd this (by decide)
  · intro P h
    exact (sk (by rw [hc]; decide) (sk (by rw [hc]; decide) (sk (by rw [hc]; decide) (sk (by rw [hc]; decide) (sk (by rw [hc]; decide) (sk (by rw [hc]; decide) (sk (by rw [hc]; decide) (sk (by rw [hc]; decide) (sk (by rw [hc]; decide) (sk (by rw [hc]; decide) (sk (by rw [hc]; decide) (sk (by rw [hc]; decide) (sk (by rw [hc]; decide) (tk hc (iX6_interrupt hI h)))))))))))))))
  · intro P h
    unfold wX3_returnCodes
    rw [hn']
    refine (sk (by rw [hc]; decide) (sk (by rw [hc]; decide) (sk (by rw [hc]; decide) (sk (by rw [hc]; decide) (sk (by rw [hc]; decide) (sk (by rw [hc]; decide) (sk (by rw [hc]; decide) (sk (by rw [hc]; decide) (sk (by rw [hc]; decide) (sk (by rw [hc]; decide) (sk (by rw [hc]; decide) (sk (by rw [hc]; decide) (sk (by rw [hc]; decide) (tk hc ?_))))))))))))))
    rw [hi.1] at h
    exact h
  · exact hI
  · exact Same.rf.kept hg

theorem simRt206 {q : SQ} {k : SC} (hI : Inv q) (hg : q_gave q = 0) (hn : c_number k = q_code q)  (hc : q_code q = 206) : Sim (wX6_returnsAndMore q) (wX3_returnCodes (pO q (-1) k)) q k 0 := by
  have hn' : c_number (p_code (pO q (-1) k)) = q_code q := hn
  by_cases c : fH (q_flags q) 2048 = 0
  · apply Sim.one (q1 := q)
    · intro P h
      exact (sk (by rw [hc]; decide) (sk (by rw [hc]; decide) (sk (by rw [hc]; decide) (sk (by rw [hc]; decide) (sk (by rw [hc]; decide) (sk (by rw [hc]; decide) (sk (by rw [hc]; decide) (sk (by rw [hc]; decide) (sk (by rw [hc]; decide) (sk (by rw [hc]; decide) (sk (by rw [hc]; decide) (sk (by rw [hc]; decide) (sk (by rw [hc]; decide) (sk (by rw [hc]; decide) (tk hc (iX6_has (tk c h)))))))))))))))))
    · intro P h
      unfold wX3_returnCodes
      rw [hn']
      refine (sk (by rw [hc]; decide) (sk (by rw [hc]; decide) (sk (by rw [hc]; decide) (sk (by rw [hc]; decide) (sk (by rw [hc]; decide) (sk (by rw [hc]; decide) (sk (by rw [hc]; decide) (sk (by rw [hc]; decide) (sk (by rw [hc]; decide) (sk (by rw [hc]; decide) (sk (by rw [hc]; decide) (sk (by rw [hc]; decide) (sk (by rw [hc]; decide) (sk (by rw [hc]; decide) (tk hc ?_)))))))))))))))
      exact iX0_has (tk c h)
    · exact hI
    · exact Same.rf.kept hg
  · apply Sim.int (q1 := q) (n := 4)
    · decide
    · intro P h
      exact (sk (by rw [hc]; decide) (sk (by rw [hc]; decide) (sk (by rw [hc]; decide) (sk (by rw [hc]; decide) (sk (by rw [hc]; decide) (sk (by rw [hc]; decide) (sk (by rw [hc]; decide) (sk (by rw [hc]; decide) (sk (by rw [hc]; decide) (sk (by rw [hc]; decide) (sk (by rw [hc]; decide) (sk (by rw [hc]; decide) (sk (by rw [hc]; decide) (sk (by rw [hc]; decide) (tk hc (iX6_has (sk c (iX6_interrupt hI h))))))))))))))))))
    · intro P h
      unfold wX3_returnCodes
      rw [hn']
      refine (sk (by rw [hc]; decide) (sk (by rw [hc]; decide) (sk (by rw [hc]; decide) (sk (by rw [hc]; decide) (sk (by rw [hc]; decide) (sk (by rw [hc]; decide) (sk (by rw [hc]; decide) (sk (by rw [hc]; decide) (sk (by rw [hc]; decide) (sk (by rw [hc]; decide) (sk (by rw [hc]; decide) (sk (by rw [hc]; decide) (sk (by rw [hc]; decide) (sk (by rw [hc]; decide) (tk hc ?_)))))))))))))))
      exact iX0_has (sk c h)
    · exact hI
    · exact Same.rf.kept hg

theorem simRt207 {q : SQ} {k : SC} (hI : Inv q) (hg : q_gave q = 0) (hn : c_number k = q_code q)  (hc : q_code q = 207) : Sim (wX6_returnsAndMore q) (wX3_returnCodes (pO q (-1) k)) q k 0 := by
  have hn' : c_number (p_code (pO q (-1) k)) = q_code q := hn
  apply Sim.one (q1 := qs_flags (fPop (fRetF q 0)) (fPopV (fRetF q 0) &&& 4053))
  · intro P h
    refine (sk (by rw [hc]; decide) (sk (by rw [hc]; decide) (sk (by rw [hc]; decide) (sk (by rw [hc]; decide) (sk (by rw [hc]; decide) (sk (by rw [hc]; decide) (sk (by rw [hc]; decide) (sk (by rw [hc]; decide) (sk (by rw [hc]; decide) (sk (by rw [hc]; decide) (sk (by rw [hc]; decide) (sk (by rw [hc]; decide) (sk (by rw [hc]; decide) (sk (by rw [hc]; decide) (sk (by rw [hc]; decide) ?_)))))))))))))))
    refine iX6_retF hI ?_
    have h3 : Inv (fRetF q 0) := inv_add (inv_retB (inv_retA hI)) _
    generalize fRetF q 0 = q3 at h h3 ⊢
    exact iX6_pop h3 h
  · intro P h
    unfold wX3_returnCodes
    rw [hn']
    refine (sk (by rw [hc]; decide) (sk (by rw [hc]; decide) (sk (by rw [hc]; decide) (sk (by rw [hc]; decide) (sk (by rw [hc]; decide) (sk (by rw [hc]; decide) (sk (by rw [hc]; decide) (sk (by rw [hc]; decide) (sk (by rw [hc]; decide) (sk (by rw [hc]; decide) (sk (by rw [hc]; decide) (sk (by rw [hc]; decide) (sk (by rw [hc]; decide) (sk (by rw [hc]; decide) (sk (by rw [hc]; decide) ?_)))))))))))))))
    refine iX3_returnFar hI ?_
    have h3 : Inv (fRetF q 0) := inv_add (inv_retB (inv_retA hI)) _
    generalize fRetF q 0 = q3 at h h3 ⊢
    exact iX3_pop h3 (iP_keep (q := fPop q3) h)
  · exact inv_F _ (inv_pop (inv_add (inv_retB (inv_retA hI)) _))
  · exact (((((same_retA q).tr (same_retB _)).tr (same_add _ _)).tr (same_pop _)).tr (same_F _ _)).kept hg
