-- ----- FE, FF
theorem mLast {q : SQ} {P : SQ → Prop} (hI : Inv q) (h0 : 0 ≤ (q_code q).toInt) (hm : r7 (q_m q)) (h : wX6_last_b38 P (q_code q &&& 1) (fE q (q_code q &&& 1)) (if q_mode q = 3 then 0 else fGet (mQ q) (q_place q) (q_offset q + 2) 1) q) : wX6_last q P := by
  refine iX6_isWide h0 (iX6_operand hI hm ⟨fun c => ?_, fun c => iX6_get hI.1 ?_⟩)
  · rw [if_pos c] at h; exact h
  · rw [if_neg c] at h; exact h
theorem simFEa {q : SQ} {k : SC} (hI : Inv q) (hg : q_gave q = 0) (hn : c_number k = q_code q) (hM : DecM k q) (h0 : 0 ≤ (q_code q).toInt) (o : Int32) (hr : q_r q = 0 ∧ o = 9 ∨ q_r q = 1 ∧ o = 10) : Sim (wX6_last q) (wX3_codesFE (pO q (-1) k)) q k 0 := by
  have hn' : c_number (p_code (pO q (-1) k)) = q_code q := hn
  have hm := hM.2.2.2.2.1
  have er : c_r (p_code (pO q (-1) k)) = q_r q := hM.2.2.1
  apply Sim.one (q1 := fGv (qs_flags q (fOpF (q_flags q) o (fE q (q_code q &&& 1)) 0 (q_code q &&& 1))) (q_code q &&& 1) (fOpV (q_flags q) o (fE q (q_code q &&& 1)) 0 (q_code q &&& 1)))
  · intro P h
    refine mLast hI h0 hm ?_
    have e9 : 9 + q_r q = o := by rcases hr with ⟨c, rfl⟩ | ⟨c, rfl⟩ <;> rw [c] <;> rfl
    have b : wX6_last_b80 P (q_code q &&& 1) (fE q (q_code q &&& 1)) q := by
      unfold wX6_last_b80
      rw [e9]
      exact iX6_operation (iX6_give (inv_F _ hI) hm h)
    exact ⟨fun _ => b, fun c => ⟨fun _ => b, fun c2 => (hr.elim (fun z => c z.1) (fun z => c2 z.1)).elim⟩⟩
  · intro P h
    unfold wX3_codesFE
    refine iX1_wide ?_
    rw [hn', er]
    have b52 : wX3_codesFE_b52 P (q_code q &&& 1) (pO q (-1) k) := by
      refine iX3_e hI hM ?_
      rw [er]
      rcases hr with ⟨c, rfl⟩ | ⟨c, rfl⟩
      · rw [c]
        exact sk (by decide) (iX0_byOne (rO_e hI _) (iX3_giveE (q := qs_flags q (fOpF (q_flags q) 9 (fE q (q_code q &&& 1)) 0 (q_code q &&& 1))) (inv_F _ hI) hM h))
      · rw [c]
        exact tk rfl (iX0_byOne (rO_e hI _) (iX3_giveE (q := qs_flags q (fOpF (q_flags q) 10 (fE q (q_code q &&& 1)) 0 (q_code q &&& 1))) (inv_F _ hI) hM h))
    exact ⟨fun _ => b52, fun c => ⟨fun _ => b52, fun c2 => (hr.elim (fun z => c z.1) (fun z => c2 z.1)).elim⟩⟩
  · exact inv_gv (inv_F _ hI) _ _
  · exact ((same_F q _).tr (same_gv _ _ _)).kept hg
theorem e_W {q : SQ} (h : Inv q) : rW (fE q 1) := rO_W (rO_e h 1)
theorem w_one {c : Int32} (h : ¬ c &&& 1 = 0) : c &&& 1 = 1 := (rC_flag c).elim (fun z => absurd (ti_ext z) h) (fun z => ti_ext z)
theorem simFE2 {q : SQ} {k : SC} (hI : Inv q) (hg : q_gave q = 0) (hn : c_number k = q_code q) (hM : DecM k q) (h0 : 0 ≤ (q_code q).toInt) (hw : q_code q &&& 1 = 1) (hr : q_r q = 2) : Sim (wX6_last q) (wX3_codesFE (pO q (-1) k)) q k 0 := by
  have hn' : c_number (p_code (pO q (-1) k)) = q_code q := hn
  have hm := hM.2.2.2.2.1
  have er : c_r (p_code (pO q (-1) k)) = q_r q := hM.2.2.1
  apply Sim.one (q1 := qs_ip (fPush q (q_ip q)) (fE q 1))
  · intro P h
    refine mLast hI h0 hm ?_
    unfold wX6_last_b38
    rw [hr, hw]
    exact sk (by decide) (sk (by decide) (tk rfl (iX6_push hI h)))
  · intro P h
    unfold wX3_codesFE
    refine iX1_wide ?_
    rw [hn', er, hr]
    refine sk (by decide) (sk (by decide) (tk rfl (iX3_e (q := q) hI hM (iX3_push hI (iP_moveTo (q := fPush q (q_ip q)) ?_)))))
    rw [and65535_id (e_W hI)]
    exact h
  · exact inv_Ip (inv_push hI _) (e_W hI)
  · exact ((same_push q _).tr (same_Ip _ _)).kept hg
theorem simFE4 {q : SQ} {k : SC} (hI : Inv q) (hg : q_gave q = 0) (hn : c_number k = q_code q) (hM : DecM k q) (h0 : 0 ≤ (q_code q).toInt) (hw : q_code q &&& 1 = 1) (hr : q_r q = 4) : Sim (wX6_last q) (wX3_codesFE (pO q (-1) k)) q k 0 := by
  have hn' : c_number (p_code (pO q (-1) k)) = q_code q := hn
  have hm := hM.2.2.2.2.1
  have er : c_r (p_code (pO q (-1) k)) = q_r q := hM.2.2.1
  apply Sim.one (q1 := qs_ip q (fE q 1))
  · intro P h
    refine mLast hI h0 hm ?_
    unfold wX6_last_b38
    rw [hr, hw]
    exact sk (by decide) (sk (by decide) (sk (by decide) (sk (by decide) (tk rfl h))))
  · intro P h
    unfold wX3_codesFE
    refine iX1_wide ?_
    rw [hn', er, hr]
    refine sk (by decide) (sk (by decide) (sk (by decide) (sk (by decide) (tk rfl (iX3_e (q := q) hI hM (iP_moveTo (q := q) ?_))))))
    rw [and65535_id (e_W hI)]
    exact h
  · exact inv_Ip hI (e_W hI)
  · exact (same_Ip q _).kept hg
theorem simFE3 {q : SQ} {k : SC} (hI : Inv q) (hg : q_gave q = 0) (hn : c_number k = q_code q) (hM : DecM k q) (h0 : 0 ≤ (q_code q).toInt) (hw : q_code q &&& 1 = 1) (h3 : ¬ q_mode q = 3) (hr : q_r q = 3) : Sim (wX6_last q) (wX3_codesFE (pO q (-1) k)) q k 0 := by
  have hn' : c_number (p_code (pO q (-1) k)) = q_code q := hn
  have hm := hM.2.2.2.2.1
  have er : c_r (p_code (pO q (-1) k)) = q_r q := hM.2.2.1
  have hc : rW (fGet (mQ q) (q_place q) (q_offset q + 2) 1) := rO_W (rO_get hI.1 _ _ _)
  apply Sim.one (q1 := fCallFar q (fE q 1) (fGet (mQ q) (q_place q) (q_offset q + 2) 1))
  · intro P h
    refine mLast hI h0 hm ?_
    unfold wX6_last_b38
    rw [hr, hw, if_neg h3]
    exact sk (by decide) (sk (by decide) (sk (by decide) (tk rfl (iX6_callFar hI h))))
  · intro P h
    unfold wX3_codesFE
    refine iX1_wide ?_
    rw [hn', er, hr]
    exact sk (by decide) (sk (by decide) (sk (by decide) (tk rfl (iX3_e (q := q) hI hM (iX3_wordBehindE hI hM h3 (iX3_callFar hI (e_W hI) hc h))))))
  · exact inv_callFar hI (e_W hI) hc
  · exact (same_callFar q _ _).kept hg
theorem simFE5 {q : SQ} {k : SC} (hI : Inv q) (hg : q_gave q = 0) (hn : c_number k = q_code q) (hM : DecM k q) (h0 : 0 ≤ (q_code q).toInt) (hw : q_code q &&& 1 = 1) (h3 : ¬ q_mode q = 3) (hr : q_r q = 5) : Sim (wX6_last q) (wX3_codesFE (pO q (-1) k)) q k 0 := by
  have hn' : c_number (p_code (pO q (-1) k)) = q_code q := hn
  have hm := hM.2.2.2.2.1
  have er : c_r (p_code (pO q (-1) k)) = q_r q := hM.2.2.1
  have hc : rW (fGet (mQ q) (q_place q) (q_offset q + 2) 1) := rO_W (rO_get hI.1 _ _ _)
  apply Sim.one (q1 := fJumpFar q (fE q 1) (fGet (mQ q) (q_place q) (q_offset q + 2) 1))
  · intro P h
    refine mLast hI h0 hm ?_
    unfold wX6_last_b38
    rw [hr, hw, if_neg h3]
    exact sk (by decide) (sk (by decide) (sk (by decide) (sk (by decide) (sk (by decide) (tk rfl ⟨v_14, h⟩)))))
  · intro P h
    unfold wX3_codesFE
    refine iX1_wide ?_
    rw [hn', er, hr]
    exact sk (by decide) (sk (by decide) (sk (by decide) (sk (by decide) (sk (by decide) (tk rfl (iX3_e (q := q) hI hM (iX3_wordBehindE hI hM h3 (iX3_jumpFar (e_W hI) hc h))))))))
  · exact inv_jumpFar hI (e_W hI) hc
  · exact (same_jumpFar q _ _).kept hg
theorem pushed_fin {q : SQ} {k : SC} {P : SP → Prop} {j : Int32} (hI : Inv q) (hj : r7 j) (h : P (pO (fPush q (upd (q_registers q) 4 (q_registers q 4 - 2 &&& 65535) j.toNatClampNeg)) (-1) k)) : wX3_pushedRegister j (pO q (-1) k) (fun r37 u36 => wX3_codesFE_b194 P r37 u36) := by
  have fin : ∀ v : Int32, v &&& 65535 = upd (q_registers q) 4 (q_registers q 4 - 2 &&& 65535) j.toNatClampNeg &&& 65535 → wX3_push v (pO q (-1) k) (fun u8 => P u8) := by
    intro v hv
    refine iX3_push hI ?_
    rw [push_low q hv]
    exact h
  refine ⟨fun d => ?_, fun d => ?_⟩
  · rw [d]
    refine iX4_word (fin _ ?_)
    have e4 : j.toNatClampNeg = 4 := by rw [d]; rfl
    rw [e4]
    show (q_registers q 4 - 2) &&& 65535 = upd (q_registers q) 4 (q_registers q 4 - 2 &&& 65535) 4 &&& 65535
    unfold upd
    rw [if_pos rfl, and65535_id (rW_and _)]
  · refine iX4_word (fin _ ?_)
    rw [and7_id hj]
    unfold upd
    rw [if_neg]
    intro z
    apply d
    apply ti_ext
    have := ti_cl (x := j) hj.1
    rw [z] at this
    exact this.symm
theorem simFE6 {q : SQ} {k : SC} (hI : Inv q) (hg : q_gave q = 0) (hn : c_number k = q_code q) (hM : DecM k q) (h0 : 0 ≤ (q_code q).toInt) (hw : q_code q &&& 1 = 1) (hr : q_r q = 6 ∨ q_r q = 7) : Sim (wX6_last q) (wX3_codesFE (pO q (-1) k)) q k 0 := by
  have hn' : c_number (p_code (pO q (-1) k)) = q_code q := hn
  have hm := hM.2.2.2.2.1
  have er : c_r (p_code (pO q (-1) k)) = q_r q := hM.2.2.1
  have hs : ∀ j : Int32, ¬ j = 6 → ¬ j = 7 → ¬ q_r q = j := by
    rintro j h6 h7 rfl
    exact hr.elim h6 h7
  by_cases c3 : q_mode q = 3
  · apply Sim.one (q1 := fPush q (upd (q_registers q) 4 (q_registers q 4 - 2 &&& 65535) (q_m q).toNatClampNeg))
    · intro P h
      refine mLast hI h0 hm ?_
      exact sk (hs _ (by decide) (by decide)) (sk (hs _ (by decide) (by decide)) (sk (hs _ (by decide) (by decide)) (sk (hs _ (by decide) (by decide)) (sk (hs _ (by decide) (by decide)) (sk (hs _ (by decide) (by decide))
        ⟨vp_7 r7_4, vp_7 r7_4, vp_3 r3_2, vp_7 r7_4, fun _ => ⟨vp_7 hm, iX6_put hI.1 h⟩, fun z => absurd c3 z⟩)))))
    · intro P h
      unfold wX3_codesFE
      refine iX1_wide ?_
      rw [hn', er]
      refine sk (hs _ (by decide) (by decide)) (sk (hs _ (by decide) (by decide)) (sk (hs _ (by decide) (by decide)) (sk (hs _ (by decide) (by decide)) (sk (hs _ (by decide) (by decide)) (sk (hs _ (by decide) (by decide)) (iX1_inRegister ⟨fun d => ?_, fun _ => ?_⟩))))))
      · exact absurd (hM.1.trans c3) (bI_0.mp d)
      · have em : c_m (p_code (pO q (-1) k)) = q_m q := hM.2.1
        rw [em]
        exact pushed_fin hI hm h
    · exact inv_push hI _
    · exact (same_push q _).kept hg
  · apply Sim.one (q1 := fPush q (fE q 1))
    · intro P h
      refine mLast hI h0 hm ?_
      rw [hw]
      exact sk (hs _ (by decide) (by decide)) (sk (hs _ (by decide) (by decide)) (sk (hs _ (by decide) (by decide)) (sk (hs _ (by decide) (by decide)) (sk (hs _ (by decide) (by decide)) (sk (hs _ (by decide) (by decide))
        ⟨vp_7 r7_4, vp_7 r7_4, vp_3 r3_2, vp_7 r7_4, fun z => absurd z c3, fun _ => iX6_put hI.1 h⟩)))))
    · intro P h
      unfold wX3_codesFE
      refine iX1_wide ?_
      rw [hn', er]
      refine sk (hs _ (by decide) (by decide)) (sk (hs _ (by decide) (by decide)) (sk (hs _ (by decide) (by decide)) (sk (hs _ (by decide) (by decide)) (sk (hs _ (by decide) (by decide)) (sk (hs _ (by decide) (by decide)) (iX1_inRegister ⟨fun _ => ?_, fun d => ?_⟩))))))
      · exact iX3_e (q := q) hI hM (iX3_push hI h)
      · exact absurd (bI_0.mpr (fun z => c3 (hM.1.symm.trans z))) d
    · exact inv_push hI _
    · exact (same_push q _).kept hg
