-- ===== codes 90 to 9F =====
theorem cut_hi {a : Int32} (h : rW a) : fCut a 1 >>> ((16 : Int32) &&& 31) &&& 65535 = if a ≤ 32767 then 0 else 65535 := ti_ext (by
  have h1 := h.1
  have h2 := h.2
  have t : (32767 : Int32).toInt = 32767 := rfl
  have e : (fCut a 1).toInt = a.toInt.bmod 65536 := by unfold fCut; rw [if_neg (by decide), ti_i16]
  rw [ti_and65535, ti_shr16, e, bm_16]
  by_cases c : a ≤ 32767
  · have := ti_le.mp c
    rw [if_pos c, if_pos (by omega)]
    show _ = (0 : Int)
    omega
  · have : ¬ a.toInt ≤ 32767 := fun z => c (ti_le.mpr (by omega))
    rw [if_neg c, if_neg (by omega)]
    show _ = (65535 : Int)
    omega)
theorem upd_swap (f : A32) (k : Nat) : upd (upd f k (f 0)) 0 (f k) = upd (upd f 0 (f k)) k (f 0) := by
  funext j
  unfold upd
  by_cases h0 : j = 0
  · by_cases hk : j = k
    · rw [if_pos h0, if_pos hk, ← hk, h0]
    · rw [if_pos h0, if_neg hk, if_pos h0]
  · by_cases hk : j = k
    · rw [if_neg h0, if_pos hk, if_pos hk]
    · rw [if_neg h0, if_neg hk, if_neg hk, if_neg h0]
theorem iX3_exchangeA {j cd : Int32} {k : SC} {q : SQ} {P : SP → Prop} (hI : Inv q) (hj : r7 j) (h : P (pO (qs_registers q (upd (upd (q_registers q) j.toNatClampNeg (q_registers q 0)) 0 (q_registers q j.toNatClampNeg))) cd k)) : wX3_exchangeA j (pO q cd k) P := by
  have e0 : upd (q_registers q) 0 (q_registers q j.toNatClampNeg &&& 65535) = upd (q_registers q) 0 (q_registers q j.toNatClampNeg) := by rw [and65535_id (hI.2.1.1 _)]
  refine iX3_a hI (iX4_word (iX3_giveA (q := q) ?_))
  show wX4_setWord j (q_registers q 0) (p_regs (pO (qs_registers q (upd (q_registers q) 0 (q_registers q (j &&& 7).toNatClampNeg &&& 65535))) cd k)) (fun u7 => P (ps_regs (pO (qs_registers q (upd (q_registers q) 0 (q_registers q (j &&& 7).toNatClampNeg &&& 65535))) cd k) u7))
  rw [and7_id hj, e0]
  refine iP_setWord (q := qs_registers q (upd (q_registers q) 0 (q_registers q j.toNatClampNeg))) ?_
  rw [and7_id hj, and65535_id (hI.2.1.1 0)]
  rw [upd_swap] at h
  exact h

theorem simOt152 {q : SQ} {k : SC} (hI : Inv q) (hg : q_gave q = 0) (hn : c_number k = q_code q)  (hc : q_code q = 152) : Sim (wX6_others q) (wX3_exchangeAndFlagCodes (pO q (-1) k)) q k 0 := by
  have hn' : c_number (p_code (pO q (-1) k)) = q_code q := hn
  apply Sim.one (q1 := qs_registers q (upd (q_registers q) 0 (fExt (q_registers q 0 &&& 255) &&& 65535)))
  · intro P h
    exact (tk hc ⟨v_08, iX6_extended ⟨v_08, h⟩⟩)
  · intro P h
    unfold wX3_exchangeAndFlagCodes
    rw [hn']
    refine (tk hc ?_)
    refine iX3_a hI (iX0_signed (iX3_giveA (q := q) ?_))
    show P (pO (qs_registers q (upd (q_registers q) 0 (fCut (q_registers q 0 &&& 255) 0 &&& 65535))) (-1) k)
    rw [ext_cut (rB_and _)]
    exact h
  · exact inv_R hI (inv_updW hI.2.1.1 _ (rW_and _))
  · exact (same_R q _).kept hg

theorem simOt153 {q : SQ} {k : SC} (hI : Inv q) (hg : q_gave q = 0) (hn : c_number k = q_code q)  (hc : q_code q = 153) : Sim (wX6_others q) (wX3_exchangeAndFlagCodes (pO q (-1) k)) q k 0 := by
  have hn' : c_number (p_code (pO q (-1) k)) = q_code q := hn
  apply Sim.one (q1 := qs_registers q (upd (q_registers q) 2 (if q_registers q 0 ≤ 32767 then 0 else 65535)))
  · intro P h
    exact (sk (by rw [hc]; decide) (tk hc ⟨v_08, fun (c : q_registers q 0 ≤ 32767) => ⟨v_28, by rw [if_pos c] at h; exact h⟩, fun (c : ¬ q_registers q 0 ≤ 32767) => ⟨v_28, by rw [if_neg c] at h; exact h⟩⟩))
  · intro P h
    unfold wX3_exchangeAndFlagCodes
    rw [hn']
    refine (sk (by rw [hc]; decide) (tk hc ?_))
    refine iX3_a hI (iX0_signed (iP_setWord (q := q) ?_))
    have e : (fCut (fReg (q_registers q) 0 1) 1 >>> ((16 : Int32) &&& 31) &&& 65535) = if q_registers q 0 ≤ 32767 then 0 else 65535 := cut_hi (hI.2.1.1 0)
    rw [e]
    exact h
  · exact inv_R hI (inv_updW hI.2.1.1 _ (by split <;> exact ⟨by decide, by decide⟩))
  · exact (same_R q _).kept hg

theorem simOt154 {q : SQ} {k : SC} (hI : Inv q) (hg : q_gave q = 0) (hn : c_number k = q_code q) (hi : q_i q = c_first k ∧ rW (q_i q)) (hj : q_j q = c_second k ∧ rW (q_j q)) (hc : q_code q = 154) : Sim (wX6_others q) (wX3_exchangeAndFlagCodes (pO q (-1) k)) q k 0 := by
  have hn' : c_number (p_code (pO q (-1) k)) = q_code q := hn
  apply Sim.one (q1 := fCallFar q (q_i q) (q_j q))
  · intro P h
    exact (sk (by rw [hc]; decide) (sk (by rw [hc]; decide) (tk hc (iX6_callFar hI h))))
  · intro P h
    unfold wX3_exchangeAndFlagCodes
    rw [hn']
    refine (sk (by rw [hc]; decide) (sk (by rw [hc]; decide) (tk hc ?_)))
    rw [show c_first (p_code (pO q (-1) k)) = q_i q from hi.1.symm, show c_second (p_code (pO q (-1) k)) = q_j q from hj.1.symm]
    exact iX3_callFar hI hi.2 hj.2 h
  · exact inv_callFar hI hi.2 hj.2
  · exact (same_callFar q _ _).kept hg

theorem simOt155 {q : SQ} {k : SC} (hI : Inv q) (hg : q_gave q = 0) (hn : c_number k = q_code q)  (hc : q_code q = 155) : Sim (wX6_others q) (wX3_exchangeAndFlagCodes (pO q (-1) k)) q k 0 := by
  have hn' : c_number (p_code (pO q (-1) k)) = q_code q := hn
  apply Sim.one (q1 := q)
  · intro P h
    exact (sk (by rw [hc]; decide) (sk (by rw [hc]; decide) (sk (by rw [hc]; decide) (tk hc h))))
  · intro P h
    unfold wX3_exchangeAndFlagCodes
    rw [hn']
    refine (sk (by rw [hc]; decide) (sk (by rw [hc]; decide) (sk (by rw [hc]; decide) (tk hc ?_))))
    exact h
  · exact hI
  · exact Same.rf.kept hg

theorem simOt156 {q : SQ} {k : SC} (hI : Inv q) (hg : q_gave q = 0) (hn : c_number k = q_code q)  (hc : q_code q = 156) : Sim (wX6_others q) (wX3_exchangeAndFlagCodes (pO q (-1) k)) q k 0 := by
  have hn' : c_number (p_code (pO q (-1) k)) = q_code q := hn
  apply Sim.one (q1 := fPush q (q_flags q ||| 61442))
  · intro P h
    exact (sk (by rw [hc]; decide) (sk (by rw [hc]; decide) (sk (by rw [hc]; decide) (sk (by rw [hc]; decide) (tk hc (iX6_push hI h))))))
  · intro P h
    unfold wX3_exchangeAndFlagCodes
    rw [hn']
    refine (sk (by rw [hc]; decide) (sk (by rw [hc]; decide) (sk (by rw [hc]; decide) (sk (by rw [hc]; decide) (tk hc ?_)))))
    exact iX3_push hI h
  · exact inv_push hI _
  · exact (same_push q _).kept hg

theorem simOt157 {q : SQ} {k : SC} (hI : Inv q) (hg : q_gave q = 0) (hn : c_number k = q_code q)  (hc : q_code q = 157) : Sim (wX6_others q) (wX3_exchangeAndFlagCodes (pO q (-1) k)) q k 0 := by
  have hn' : c_number (p_code (pO q (-1) k)) = q_code q := hn
  apply Sim.one (q1 := qs_flags (fPop q) (fPopV q &&& 4053))
  · intro P h
    exact (sk (by rw [hc]; decide) (sk (by rw [hc]; decide) (sk (by rw [hc]; decide) (sk (by rw [hc]; decide) (sk (by rw [hc]; decide) (tk hc (iX6_pop hI h)))))))
  · intro P h
    unfold wX3_exchangeAndFlagCodes
    rw [hn']
    refine (sk (by rw [hc]; decide) (sk (by rw [hc]; decide) (sk (by rw [hc]; decide) (sk (by rw [hc]; decide) (sk (by rw [hc]; decide) (tk hc ?_))))))
    exact iX3_pop hI (iP_keep (q := fPop q) h)
  · exact inv_F _ (inv_pop hI)
  · exact ((same_pop q).tr (same_F _ _)).kept hg

theorem simOt158 {q : SQ} {k : SC} (hI : Inv q) (hg : q_gave q = 0) (hn : c_number k = q_code q)  (hc : q_code q = 158) : Sim (wX6_others q) (wX3_exchangeAndFlagCodes (pO q (-1) k)) q k 0 := by
  have hn' : c_number (p_code (pO q (-1) k)) = q_code q := hn
  apply Sim.one (q1 := qs_flags q ((q_flags q &&& 65280 ||| q_registers q 0 >>> ((8 : Int32) &&& 31)) &&& 4053))
  · intro P h
    exact (sk (by rw [hc]; decide) (sk (by rw [hc]; decide) (sk (by rw [hc]; decide) (sk (by rw [hc]; decide) (sk (by rw [hc]; decide) (sk (by rw [hc]; decide) (tk hc ⟨v_08, h⟩)))))))
  · intro P h
    unfold wX3_exchangeAndFlagCodes
    rw [hn']
    refine (sk (by rw [hc]; decide) (sk (by rw [hc]; decide) (sk (by rw [hc]; decide) (sk (by rw [hc]; decide) (sk (by rw [hc]; decide) (sk (by rw [hc]; decide) (tk hc ?_)))))))
    exact iX4_value hI.2.1 r7_4 (iX0_keep h)
  · exact inv_F _ hI
  · exact (same_F q _).kept hg

theorem simOt159 {q : SQ} {k : SC} (hI : Inv q) (hg : q_gave q = 0) (hn : c_number k = q_code q)  (hc : q_code q = 159) : Sim (wX6_others q) (wX3_exchangeAndFlagCodes (pO q (-1) k)) q k 0 := by
  have hn' : c_number (p_code (pO q (-1) k)) = q_code q := hn
  apply Sim.one (q1 := qs_registers q (fSetR (q_registers q) 4 0 (q_flags q ||| 2)))
  · intro P h
    exact (sk (by rw [hc]; decide) (sk (by rw [hc]; decide) (sk (by rw [hc]; decide) (sk (by rw [hc]; decide) (sk (by rw [hc]; decide) (sk (by rw [hc]; decide) (sk (by rw [hc]; decide) (tk hc (iX6_setRegister r7_4 h)))))))))
  · intro P h
    unfold wX3_exchangeAndFlagCodes
    rw [hn']
    refine (sk (by rw [hc]; decide) (sk (by rw [hc]; decide) (sk (by rw [hc]; decide) (sk (by rw [hc]; decide) (sk (by rw [hc]; decide) (sk (by rw [hc]; decide) (sk (by rw [hc]; decide) (tk hc ?_))))))))
    exact iP_give r7_4 h
  · exact inv_R hI (inv_setR hI.2.1.1 _ _ _)
  · exact (same_R q _).kept hg

theorem simOtX {q : SQ} {k : SC} (hI : Inv q) (hg : q_gave q = 0) (hn : c_number k = q_code q)  (n152 : ¬ q_code q = 152) (n153 : ¬ q_code q = 153) (n154 : ¬ q_code q = 154) (n155 : ¬ q_code q = 155) (n156 : ¬ q_code q = 156) (n157 : ¬ q_code q = 157) (n158 : ¬ q_code q = 158) (n159 : ¬ q_code q = 159) : Sim (wX6_others q) (wX3_exchangeAndFlagCodes (pO q (-1) k)) q k 0 := by
  have hn' : c_number (p_code (pO q (-1) k)) = q_code q := hn
  apply Sim.one (q1 := qs_registers q (upd (upd (q_registers q) (q_code q &&& 7).toNatClampNeg (q_registers q 0)) 0 (q_registers q (q_code q &&& 7).toNatClampNeg)))
  · intro P h
    exact (sk n152 (sk n153 (sk n154 (sk n155 (sk n156 (sk n157 (sk n158 (sk n159 ⟨vp_7 (r7_and _), v_08, vp_7 (r7_and _), v_08, h⟩))))))))
  · intro P h
    unfold wX3_exchangeAndFlagCodes
    rw [hn']
    refine (sk n152 (sk n153 (sk n154 (sk n155 (sk n156 (sk n157 (sk n158 (sk n159 ?_))))))))
    exact iX3_exchangeA hI (r7_and _) h
  · exact inv_R hI (inv_updW (inv_updW hI.2.1.1 _ (hI.2.1.1 _)) _ (hI.2.1.1 _))
  · exact (same_R q _).kept hg

-- ===== codes A0 to BF, but strings =====
def rS (q : SQ) : Prop := q_segment q = -1 ∨ r3 (q_segment q)
def fSeg (q : SQ) (a : Int32) : Int32 := q_segments q (if q_segment q = -1 then a else q_segment q).toNatClampNeg
theorem iX6_segmentOr {a : Int32} {q : SQ} {P : Int32 → SQ → Prop} (hs : rS q) (ha : r3 a) (h : P (fSeg q a) q) : wX6_segmentOr a q P := by
  unfold fSeg at h
  refine ⟨fun c => ⟨vp_3 ha, ?_⟩, fun c => ⟨vp_3 (hs.resolve_left c), ?_⟩⟩
  · rw [if_pos c] at h; exact h
  · rw [if_neg c] at h; exact h
theorem iX3_segmentFor {a cd : Int32} {k : SC} {q : SQ} {P : Int32 → SP → Prop} (hs : rS q) (hk : c_givenSegment k = q_segment q) (ha : r3 a) (h : P (fSeg q a) (pO q cd k)) : wX3_segmentFor a (pO q cd k) P := by
  have hk' : c_givenSegment (p_code (pO q cd k)) = q_segment q := hk
  unfold fSeg at h
  unfold wX3_segmentFor wX1_segmentOr
  rw [hk']
  refine ⟨fun c => iX4_segment ?_, fun c => iX4_segment ?_⟩
  · rw [if_pos c] at h; rw [and3_id ha]; exact h
  · rw [if_neg c] at h; rw [and3_id (hs.resolve_left c)]; exact h
theorem r3_3 : r3 3 := ⟨by decide, by decide⟩
theorem r3_0 : r3 0 := ⟨by decide, by decide⟩
theorem give_and {j v w : Int32} {u : SR} {P : SR → Prop} (h : P (rs_words u (fSetR (r_words u) (j &&& 7) w v))) : wX4_give j v w u P := by
  have e4 : (j &&& 7) &&& 4 = j &&& 4 := by
    apply Int32.toBitVec_inj.mp
    rw [Int32.toBitVec_and, Int32.toBitVec_and, Int32.toBitVec_and, BitVec.and_assoc]
    congr 1
  have e3 : (j &&& 7) &&& 3 = j &&& 3 := by
    apply Int32.toBitVec_inj.mp
    rw [Int32.toBitVec_and, Int32.toBitVec_and, Int32.toBitVec_and, BitVec.and_assoc]
    congr 1
  have h2 := iX4_give (r7_and j) h
  unfold wX4_give at h2 ⊢
  rw [e4, e3, and7_code] at h2
  exact h2

theorem simMemR {q : SQ} {k : SC} (hI : Inv q) (hg : q_gave q = 0) (hn : c_number k = q_code q) (hs : rS q) (hk : c_givenSegment k = q_segment q) (hi : q_i q = c_first k ∧ rW (q_i q)) (h0 : 160 ≤ (q_code q).toInt) (h1 : (q_code q).toInt ≤ 161) : Sim (wX6_memory q) (wX3_placeCodes (pO q (-1) k)) q k 0 := by
  have hn' : c_number (p_code (pO q (-1) k)) = q_code q := hn
  have t176 : (176 : Int32).toInt = 176 := rfl
  have t162 : (162 : Int32).toInt = 162 := rfl
  have t164 : (164 : Int32).toInt = 164 := rfl
  have t168 : (168 : Int32).toInt = 168 := rfl
  have t170 : (170 : Int32).toInt = 170 := rfl
  have ei : c_first (p_code (pO q (-1) k)) = q_i q := hi.1.symm
  apply Sim.one (q1 := qs_registers q (fSetR (q_registers q) 0 (q_code q &&& 1) (fGet (mQ q) (fSeg q 3) (q_i q) (q_code q &&& 1))))
  · intro P h
    exact iX6_isWide (by omega) (tk (ti_lt.mpr (by omega)) (sk (fun c => absurd (ti_le.mp c) (by omega)) (iX6_segmentOr hs r3_3 (iX6_get hI.1 (iX6_setRegister r7_0 h)))))
  · intro P h
    unfold wX3_placeCodes
    refine iX1_wide ?_
    rw [hn']
    refine iX3_segmentFor hs hk r3_3 ?_
    rw [hn', ei]
    exact tk (ti_lt.mpr (by omega)) (tk (ti_lt.mpr (by omega)) (iX2_load hI.1 (iX3_giveA (q := q) h)))
  · exact inv_R hI (inv_setR hI.2.1.1 _ _ _)
  · exact (same_R q _).kept hg

theorem simMemW {q : SQ} {k : SC} (hI : Inv q) (hg : q_gave q = 0) (hn : c_number k = q_code q) (hs : rS q) (hk : c_givenSegment k = q_segment q) (hi : q_i q = c_first k ∧ rW (q_i q)) (h0 : 162 ≤ (q_code q).toInt) (h1 : (q_code q).toInt ≤ 163) : Sim (wX6_memory q) (wX3_placeCodes (pO q (-1) k)) q k 0 := by
  have hn' : c_number (p_code (pO q (-1) k)) = q_code q := hn
  have t176 : (176 : Int32).toInt = 176 := rfl
  have t162 : (162 : Int32).toInt = 162 := rfl
  have t164 : (164 : Int32).toInt = 164 := rfl
  have t168 : (168 : Int32).toInt = 168 := rfl
  have t170 : (170 : Int32).toInt = 170 := rfl
  have ei : c_first (p_code (pO q (-1) k)) = q_i q := hi.1.symm
  apply Sim.one (q1 := sMQ q (fPut (mQ q) (fSeg q 3) (q_i q) (q_code q &&& 1) (fReg (q_registers q) 0 (q_code q &&& 1))))
  · intro P h
    exact iX6_isWide (by omega) (tk (ti_lt.mpr (by omega)) (tk (ti_le.mpr (by omega)) (sk (fun c => absurd (ti_le.mp c) (by omega)) (iX6_segmentOr hs r3_3 (iX6_register r7_0 (iX6_put hI.1 h))))))
  · intro P h
    unfold wX3_placeCodes
    refine iX1_wide ?_
    rw [hn']
    refine iX3_segmentFor hs hk r3_3 ?_
    rw [hn', ei]
    exact tk (ti_lt.mpr (by omega)) (sk (fun c => absurd (ti_lt.mp c) (by omega)) (iX3_a hI (iX2_store hI.1 h)))
  · exact inv_Mm hI (inv_put hI.1)
  · exact (same_M q _).kept hg

theorem simMemT {q : SQ} {k : SC} (hI : Inv q) (hg : q_gave q = 0) (hn : c_number k = q_code q) (hs : rS q) (hk : c_givenSegment k = q_segment q) (hi : q_i q = c_first k ∧ rO (q_i q) (q_code q &&& 1)) (h0 : 168 ≤ (q_code q).toInt) (h1 : (q_code q).toInt ≤ 169) : Sim (wX6_memory q) (wX3_placeCodes (pO q (-1) k)) q k 0 := by
  have hn' : c_number (p_code (pO q (-1) k)) = q_code q := hn
  have t176 : (176 : Int32).toInt = 176 := rfl
  have t162 : (162 : Int32).toInt = 162 := rfl
  have t164 : (164 : Int32).toInt = 164 := rfl
  have t168 : (168 : Int32).toInt = 168 := rfl
  have t170 : (170 : Int32).toInt = 170 := rfl
  have ei : c_first (p_code (pO q (-1) k)) = q_i q := hi.1.symm
  apply Sim.one (q1 := qs_flags q (fOpF (q_flags q) 8 (fReg (q_registers q) 0 (q_code q &&& 1)) (q_i q) (q_code q &&& 1)))
  · intro P h
    exact iX6_isWide (by omega) (tk (ti_lt.mpr (by omega)) (tk (ti_le.mpr (by omega)) (tk (ti_le.mpr (by omega)) (sk (fun c => absurd (ti_lt.mp c) (by omega)) (sk (fun c => absurd (ti_lt.mp c) (by omega)) (tk (ti_lt.mpr (by omega)) (tk rfl (iX6_register r7_0 (iX6_operation h)))))))))
  · intro P h
    unfold wX3_placeCodes
    refine iX1_wide ?_
    rw [hn']
    refine iX3_segmentFor hs hk r3_3 ?_
    rw [hn', ei]
    exact sk (fun c => absurd (ti_lt.mp c) (by omega)) (iX3_a hI (by rw [ei]; exact iX0_operation (rO_reg hI.2.1.1 _ _) hi.2 (by decide) (by decide) h))
  · exact inv_F _ hI
  · exact (same_F q _).kept hg
