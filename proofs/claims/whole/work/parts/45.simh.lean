-- ===== codes F4 to FF =====
theorem xor_one (f : Int32) : f ^^^ 1 = fMark f 1 (if fH f 1 = 0 then 1 else 0) := by
  have hb := and_two f 0 (m := 1) (by omega) (by decide)
  have e1 : (Int32.toBitVec 1) = BitVec.twoPow 32 0 := by decide
  have e2 : (Int32.toBitVec ((1 : Int32) ^^^ (-1))) = ~~~(BitVec.twoPow 32 0) := by decide
  by_cases c : f &&& 1 = 0
  · have h0 := hb.mp c
    have hz : fH f 1 = 0 := bI_f (fun z => z c)
    rw [if_pos hz]
    unfold fMark
    rw [if_neg (by decide)]
    apply Int32.toBitVec_inj.mp
    rw [Int32.toBitVec_xor, Int32.toBitVec_or, e1]
    apply BitVec.eq_of_getLsbD_eq
    intro i hi
    simp only [BitVec.getLsbD_xor, BitVec.getLsbD_or, BitVec.getLsbD_twoPow]
    by_cases h : 0 = i
    · subst h; have h1 := h0; simp at h1; simp [h0, h1]
    · simp [h]
  · have h0 : f.toBitVec.getLsbD 0 = true := by
      cases hq : f.toBitVec.getLsbD 0 with
      | true => rfl
      | false => exact absurd (hb.mpr hq) c
    have hz : ¬ fH f 1 = 0 := fun z => by have : fH f 1 = 1 := bI_t c; rw [this] at z; exact absurd z (by decide)
    rw [if_neg hz]
    unfold fMark
    rw [if_pos rfl]
    apply Int32.toBitVec_inj.mp
    rw [Int32.toBitVec_xor, Int32.toBitVec_and, e1, e2]
    apply BitVec.eq_of_getLsbD_eq
    intro i hi
    simp only [BitVec.getLsbD_xor, BitVec.getLsbD_and, BitVec.getLsbD_not, BitVec.getLsbD_twoPow]
    by_cases h : 0 = i
    · subst h; have h1 := h0; simp at h1; simp [h0, h1]
    · simp [h, hi]

theorem simLa244 {q : SQ} {k : SC} (hI : Inv q) (hg : q_gave q = 0) (hn : c_number k = q_code q)  (hc : q_code q = 244) : Sim (wX6_flagsAndMore q) (wX3_lastCodes (pO q (-1) k)) q k 0 := by
  have hn' : c_number (p_code (pO q (-1) k)) = q_code q := hn
  apply Sim.one (q1 := qs_halted q 1)
  · intro P h
    exact (tk hc h)
  · intro P h
    unfold wX3_lastCodes
    refine iX1_wide ?_
    rw [hn']
    refine (tk hc ?_)
    exact h
  · exact inv_Ht _ hI
  · exact (same_Ht q _).kept hg

theorem simLa245 {q : SQ} {k : SC} (hI : Inv q) (hg : q_gave q = 0) (hn : c_number k = q_code q)  (hc : q_code q = 245) : Sim (wX6_flagsAndMore q) (wX3_lastCodes (pO q (-1) k)) q k 0 := by
  have hn' : c_number (p_code (pO q (-1) k)) = q_code q := hn
  apply Sim.one (q1 := qs_flags q (q_flags q ^^^ 1))
  · intro P h
    exact (sk (by rw [hc]; decide) (tk hc h))
  · intro P h
    unfold wX3_lastCodes
    refine iX1_wide ?_
    rw [hn']
    refine (sk (by rw [hc]; decide) (tk hc ?_))
    rw [xor_one] at h
    refine iX0_has ⟨fun (c : fH (q_flags q) 1 = 0) => iP_mark (q := q) ?_, fun (c : ¬ fH (q_flags q) 1 = 0) => iP_mark (q := q) ?_⟩
    · rw [if_pos c] at h; exact h
    · rw [if_neg c] at h; exact h
  · exact inv_F _ hI
  · exact (same_F q _).kept hg

theorem simLa248 {q : SQ} {k : SC} (hI : Inv q) (hg : q_gave q = 0) (hn : c_number k = q_code q)  (hc : q_code q = 248) : Sim (wX6_flagsAndMore q) (wX3_lastCodes (pO q (-1) k)) q k 0 := by
  have hn' : c_number (p_code (pO q (-1) k)) = q_code q := hn
  apply Sim.one (q1 := qs_flags q (fMark (q_flags q) 1 (q_code q &&& 1)))
  · intro P h
    exact (sk (by rw [hc]; decide) (sk (by rw [hc]; decide) (sk (by rw [hc]; decide) (sk (by rw [hc]; decide) (tk hc (iX6_isWide (by rw [hc]; decide) (iX6_mark h)))))))
  · intro P h
    unfold wX3_lastCodes
    refine iX1_wide ?_
    rw [hn']
    refine (sk (by rw [hc]; decide) (sk (by rw [hc]; decide) (sk (by rw [hc]; decide) (sk (by rw [hc]; decide) (tk hc ?_)))))
    exact iP_mark (q := q) h
  · exact inv_F _ hI
  · exact (same_F q _).kept hg

theorem simLa249 {q : SQ} {k : SC} (hI : Inv q) (hg : q_gave q = 0) (hn : c_number k = q_code q)  (hc : q_code q = 249) : Sim (wX6_flagsAndMore q) (wX3_lastCodes (pO q (-1) k)) q k 0 := by
  have hn' : c_number (p_code (pO q (-1) k)) = q_code q := hn
  apply Sim.one (q1 := qs_flags q (fMark (q_flags q) 1 (q_code q &&& 1)))
  · intro P h
    exact (sk (by rw [hc]; decide) (sk (by rw [hc]; decide) (sk (by rw [hc]; decide) (sk (by rw [hc]; decide) (sk (by rw [hc]; decide) (tk hc (iX6_isWide (by rw [hc]; decide) (iX6_mark h))))))))
  · intro P h
    unfold wX3_lastCodes
    refine iX1_wide ?_
    rw [hn']
    refine (sk (by rw [hc]; decide) (sk (by rw [hc]; decide) (sk (by rw [hc]; decide) (sk (by rw [hc]; decide) (sk (by rw [hc]; decide) (tk hc ?_))))))
    exact iP_mark (q := q) h
  · exact inv_F _ hI
  · exact (same_F q _).kept hg

theorem simLa250 {q : SQ} {k : SC} (hI : Inv q) (hg : q_gave q = 0) (hn : c_number k = q_code q)  (hc : q_code q = 250) : Sim (wX6_flagsAndMore q) (wX3_lastCodes (pO q (-1) k)) q k 0 := by
  have hn' : c_number (p_code (pO q (-1) k)) = q_code q := hn
  apply Sim.one (q1 := qs_flags q (fMark (q_flags q) 512 (q_code q &&& 1)))
  · intro P h
    exact (sk (by rw [hc]; decide) (sk (by rw [hc]; decide) (sk (by rw [hc]; decide) (sk (by rw [hc]; decide) (sk (by rw [hc]; decide) (sk (by rw [hc]; decide) (tk hc (iX6_isWide (by rw [hc]; decide) (iX6_mark h)))))))))
  · intro P h
    unfold wX3_lastCodes
    refine iX1_wide ?_
    rw [hn']
    refine (sk (by rw [hc]; decide) (sk (by rw [hc]; decide) (sk (by rw [hc]; decide) (sk (by rw [hc]; decide) (sk (by rw [hc]; decide) (sk (by rw [hc]; decide) (tk hc ?_)))))))
    exact iP_mark (q := q) h
  · exact inv_F _ hI
  · exact (same_F q _).kept hg

theorem simLa251 {q : SQ} {k : SC} (hI : Inv q) (hg : q_gave q = 0) (hn : c_number k = q_code q)  (hc : q_code q = 251) : Sim (wX6_flagsAndMore q) (wX3_lastCodes (pO q (-1) k)) q k 0 := by
  have hn' : c_number (p_code (pO q (-1) k)) = q_code q := hn
  apply Sim.one (q1 := qs_flags q (fMark (q_flags q) 512 (q_code q &&& 1)))
  · intro P h
    exact (sk (by rw [hc]; decide) (sk (by rw [hc]; decide) (sk (by rw [hc]; decide) (sk (by rw [hc]; decide) (sk (by rw [hc]; decide) (sk (by rw [hc]; decide) (sk (by rw [hc]; decide) (tk hc (iX6_isWide (by rw [hc]; decide) (iX6_mark h))))))))))
  · intro P h
    unfold wX3_lastCodes
    refine iX1_wide ?_
    rw [hn']
    refine (sk (by rw [hc]; decide) (sk (by rw [hc]; decide) (sk (by rw [hc]; decide) (sk (by rw [hc]; decide) (sk (by rw [hc]; decide) (sk (by rw [hc]; decide) (sk (by rw [hc]; decide) (tk hc ?_))))))))
    exact iP_mark (q := q) h
  · exact inv_F _ hI
  · exact (same_F q _).kept hg

theorem simLa252 {q : SQ} {k : SC} (hI : Inv q) (hg : q_gave q = 0) (hn : c_number k = q_code q)  (hc : q_code q = 252) : Sim (wX6_flagsAndMore q) (wX3_lastCodes (pO q (-1) k)) q k 0 := by
  have hn' : c_number (p_code (pO q (-1) k)) = q_code q := hn
  apply Sim.one (q1 := qs_flags q (fMark (q_flags q) 1024 (q_code q &&& 1)))
  · intro P h
    exact (sk (by rw [hc]; decide) (sk (by rw [hc]; decide) (sk (by rw [hc]; decide) (sk (by rw [hc]; decide) (sk (by rw [hc]; decide) (sk (by rw [hc]; decide) (sk (by rw [hc]; decide) (sk (by rw [hc]; decide) (tk hc (iX6_isWide (by rw [hc]; decide) (iX6_mark h)))))))))))
  · intro P h
    unfold wX3_lastCodes
    refine iX1_wide ?_
    rw [hn']
    refine (sk (by rw [hc]; decide) (sk (by rw [hc]; decide) (sk (by rw [hc]; decide) (sk (by rw [hc]; decide) (sk (by rw [hc]; decide) (sk (by rw [hc]; decide) (sk (by rw [hc]; decide) (sk (by rw [hc]; decide) (tk hc ?_)))))))))
    exact iP_mark (q := q) h
  · exact inv_F _ hI
  · exact (same_F q _).kept hg

theorem simLa253 {q : SQ} {k : SC} (hI : Inv q) (hg : q_gave q = 0) (hn : c_number k = q_code q)  (hc : q_code q = 253) : Sim (wX6_flagsAndMore q) (wX3_lastCodes (pO q (-1) k)) q k 0 := by
  have hn' : c_number (p_code (pO q (-1) k)) = q_code q := hn
  apply Sim.one (q1 := qs_flags q (fMark (q_flags q) 1024 (q_code q &&& 1)))
  · intro P h
    exact (sk (by rw [hc]; decide) (sk (by rw [hc]; decide) (sk (by rw [hc]; decide) (sk (by rw [hc]; decide) (sk (by rw [hc]; decide) (sk (by rw [hc]; decide) (sk (by rw [hc]; decide) (sk (by rw [hc]; decide) (sk (by rw [hc]; decide) (tk hc (iX6_isWide (by rw [hc]; decide) (iX6_mark h))))))))))))
  · intro P h
    unfold wX3_lastCodes
    refine iX1_wide ?_
    rw [hn']
    refine (sk (by rw [hc]; decide) (sk (by rw [hc]; decide) (sk (by rw [hc]; decide) (sk (by rw [hc]; decide) (sk (by rw [hc]; decide) (sk (by rw [hc]; decide) (sk (by rw [hc]; decide) (sk (by rw [hc]; decide) (sk (by rw [hc]; decide) (tk hc ?_))))))))))
    exact iP_mark (q := q) h
  · exact inv_F _ hI
  · exact (same_F q _).kept hg

-- ----- F6, F7
theorem r7_12 : ¬ (12 : Int32) = 9 ∧ ¬ (12 : Int32) = 10 := ⟨by decide, by decide⟩
theorem r7_11 : ¬ (11 : Int32) = 9 ∧ ¬ (11 : Int32) = 10 := ⟨by decide, by decide⟩
theorem simF6a {q : SQ} {k : SC} (hI : Inv q) (hg : q_gave q = 0) (hn : c_number k = q_code q) (hM : DecM k q) (h0 : 0 ≤ (q_code q).toInt) (hr : q_r q = 0 ∨ q_r q = 1) (hi : q_i q = c_first k ∧ rO (q_i q) (q_code q &&& 1)) : Sim (wX6_byOne q) (wX3_codesF6 (pO q (-1) k)) q k 0 := by
  have hn' : c_number (p_code (pO q (-1) k)) = q_code q := hn
  have hm := hM.2.2.2.2.1
  have er : c_r (p_code (pO q (-1) k)) = q_r q := hM.2.2.1
  apply Sim.one (q1 := qs_flags q (fOpF (q_flags q) 8 (fE q (q_code q &&& 1)) (q_i q) (q_code q &&& 1)))
  · intro P h
    have b52 : wX6_byOne_b52 P (q_code q &&& 1) (fE q (q_code q &&& 1)) q := iX6_operation h
    refine iX6_isWide h0 (iX6_operand hI hm ⟨fun _ => b52, fun c => ⟨fun _ => b52, fun c2 => (hr.elim c c2).elim⟩⟩)
  · intro P h
    unfold wX3_codesF6
    refine iX1_wide ?_
    rw [hn', er]
    have b52 : wX3_codesF6_b52 P (q_code q &&& 1) (pO q (-1) k) := by
      refine iX3_e hI hM ?_
      rw [show c_first (p_code (pO q (-1) k)) = q_i q from hi.1.symm]
      exact iX0_operation (rO_e hI _) hi.2 (by decide) (by decide) h
    exact ⟨fun _ => b52, fun c => ⟨fun _ => b52, fun c2 => (hr.elim c c2).elim⟩⟩
  · exact inv_F _ hI
  · exact (same_F q _).kept hg
theorem simF6b {q : SQ} {k : SC} (hI : Inv q) (hg : q_gave q = 0) (hn : c_number k = q_code q) (hM : DecM k q) (h0 : 0 ≤ (q_code q).toInt) (o : Int32) (hr : q_r q = 2 ∧ o = 12 ∨ q_r q = 3 ∧ o = 11) : Sim (wX6_byOne q) (wX3_codesF6 (pO q (-1) k)) q k 0 := by
  have hn' : c_number (p_code (pO q (-1) k)) = q_code q := hn
  have hm := hM.2.2.2.2.1
  have er : c_r (p_code (pO q (-1) k)) = q_r q := hM.2.2.1
  apply Sim.one (q1 := fGv (qs_flags q (fOpF (q_flags q) o (fE q (q_code q &&& 1)) 0 (q_code q &&& 1))) (q_code q &&& 1) (fOpV (q_flags q) o (fE q (q_code q &&& 1)) 0 (q_code q &&& 1)))
  · intro P h
    refine iX6_isWide h0 (iX6_operand hI hm ?_)
    rcases hr with ⟨c, rfl⟩ | ⟨c, rfl⟩
    · rw [c]
      exact sk (by decide) (sk (by decide) (tk rfl (iX6_operation (iX6_give (inv_F _ hI) hm h))))
    · rw [c]
      exact sk (by decide) (sk (by decide) (sk (by decide) (tk rfl (iX6_operation (iX6_give (inv_F _ hI) hm h)))))
  · intro P h
    unfold wX3_codesF6
    refine iX1_wide ?_
    rw [hn', er]
    rcases hr with ⟨c, rfl⟩ | ⟨c, rfl⟩
    · rw [c]
      exact sk (by decide) (sk (by decide) (tk rfl (iX3_e hI hM (iX0_operation (rO_e hI _) (rO_zero _) (by decide) (by decide) (iX3_giveE (q := qs_flags q (fOpF (q_flags q) 12 (fE q (q_code q &&& 1)) 0 (q_code q &&& 1))) (inv_F _ hI) hM h)))))
    · rw [c]
      exact sk (by decide) (sk (by decide) (sk (by decide) (tk rfl (iX3_e hI hM (iX0_operation (rO_e hI _) (rO_zero _) (by decide) (by decide) (iX3_giveE (q := qs_flags q (fOpF (q_flags q) 11 (fE q (q_code q &&& 1)) 0 (q_code q &&& 1))) (inv_F _ hI) hM h))))))
  · exact inv_gv (inv_F _ hI) _ _
  · exact ((same_F q _).tr (same_gv _ _ _)).kept hg
