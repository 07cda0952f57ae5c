-- ----- longs
theorem tl_ext {x y : Int64} (h : x.toInt = y.toInt) : x = y := Int64.toInt_inj.mp h
theorem tl_shr16 (p : Int64) : (p >>> ((16 : Int32).toInt64 &&& 63)).toInt = p.toInt / 65536 := by
  have e : (p >>> ((16 : Int32).toInt64 &&& 63)).toBitVec = p.toBitVec.sshiftRight 16 := by rw [Int64.toBitVec_shiftRight]; rfl
  show BitVec.toInt _ = _
  rw [e, BitVec.toInt_sshiftRight, Int.shiftRight_eq_div_pow]; rfl
theorem tl_and32 (x : Int64) : (x &&& 4294967295).toInt = x.toInt % 4294967296 := by
  have hb : (x &&& 4294967295).toBitVec.toNat = x.toBitVec.toNat % 4294967296 := by
    rw [Int64.toBitVec_and, BitVec.toNat_and]
    show x.toBitVec.toNat &&& 4294967295 = _
    exact Nat.and_two_pow_sub_one_eq_mod _ 32
  have h1 : (x &&& 4294967295).toInt = _ := BitVec.toInt_eq_toNat_cond (x &&& 4294967295).toBitVec
  have h2 : x.toInt = _ := BitVec.toInt_eq_toNat_cond x.toBitVec
  have h3 := x.toBitVec.isLt
  rw [h1, h2, hb]
  split <;> split <;> omega
theorem bm_lo (n : Int) : ∃ k : Int, n.bmod (2 ^ 32) = n + k * 4294967296 := by
  refine ⟨-(n / 4294967296) - (if n % 4294967296 < 2147483648 then 0 else 1), ?_⟩
  have hb : n.bmod (2 ^ 32) = if n % 4294967296 < 2147483648 then n % 4294967296 else n % 4294967296 - 4294967296 := by unfold Int.bmod; rfl
  rw [hb]
  split <;> omega
theorem hi_half (p : Int64) : p.toInt32 >>> ((16 : Int32) &&& 31) &&& 65535 = (p >>> ((16 : Int32).toInt64 &&& 63)).toInt32 &&& 65535 := ti_ext (by
  rw [ti_and65535, ti_and65535, ti_shr16, Int64.toInt_toInt32, Int64.toInt_toInt32, tl_shr16]
  rcases bm_lo p.toInt with ⟨a, ha⟩
  rcases bm_lo (p.toInt / 65536) with ⟨b, hb⟩
  rw [ha, hb]
  omega)
-- ----- products
theorem fReg_01 (f : A32) : fReg f 0 1 = f 0 := by unfold fReg; rw [if_neg (by decide)]; rfl
theorem iX3_multiply {sg : Int32} {q : SQ} {k : SC} {P : SP → Prop} (hI : Inv q) (hM : DecM k q) (hn : c_number k = q_code q) (h : P (pO (fMul q (fE q (q_code q &&& 1)) sg (q_code q &&& 1)) (-1) k)) : wX3_multiply sg (pO q (-1) k) P := by
  unfold wX3_multiply
  refine iX1_wide ?_
  show wX3_a (c_number k &&& 1) (pO q (-1) k) _
  rw [hn]
  generalize hw : q_code q &&& 1 = w at *
  refine iX3_a hI (iX3_e hI hM (iX0_product (rO_reg hI.2.1.1 _ _) (rO_e hI w) ?_))
  refine iX3_giveA (q := qs_flags q (fProF (q_flags q) (fPro (fReg (q_registers q) 0 w) (fE q w) w sg) w sg)) (cd := -1) (k := k) ?_
  unfold fMul fProR at h
  have e1 : ∀ v : Int32, fSetR (q_registers q) 0 1 v = upd (q_registers q) 0 (v &&& 65535) := by
    intro v; unfold fSetR; rw [if_neg (by decide)]; rfl
  refine ⟨fun c => ?_, fun c => ?_⟩
  · rw [if_pos c] at h
    show P (pO (qs_registers (qs_flags q _) (fSetR (q_registers q) 0 1 _)) (-1) k)
    rw [e1]
    exact h
  · rw [if_neg c] at h
    refine iP_setWord (q := qs_registers (qs_flags q _) (fSetR (q_registers q) 0 1 _)) ?_
    show P (pO (qs_registers (qs_flags q _) (upd (fSetR (q_registers q) 0 1 _) 2 _)) (-1) k)
    rw [e1, hi_half]
    have e2 : fAll w = 65535 := by unfold fAll; rw [if_neg c]
    rw [e2] at h
    exact h
theorem inv_mul {q : SQ} (h : Inv q) (e sg w : Int32) : Inv (fMul q e sg w) := by
  refine inv_R (inv_F _ h) ?_
  unfold fProR
  split
  · exact inv_updW h.2.1.1 _ (rW_and _)
  · exact inv_updW (inv_updW h.2.1.1 _ (rO_W (rO_andAll _ w))) _ (rW_and _)
theorem simF6c {q : SQ} {k : SC} (hI : Inv q) (hg : q_gave q = 0) (hn : c_number k = q_code q) (hM : DecM k q) (h0 : 0 ≤ (q_code q).toInt) (sg : Int32) (hr : q_r q = 4 ∧ sg = 0 ∨ q_r q = 5 ∧ sg = 1) : Sim (wX6_byOne q) (wX3_codesF6 (pO q (-1) k)) q k 0 := by
  have hn' : c_number (p_code (pO q (-1) k)) = q_code q := hn
  have hm := hM.2.2.2.2.1
  have er : c_r (p_code (pO q (-1) k)) = q_r q := hM.2.2.1
  apply Sim.one (q1 := fMul q (fE q (q_code q &&& 1)) sg (q_code q &&& 1))
  · intro P h
    refine iX6_isWide h0 (iX6_operand hI hm ?_)
    rcases hr with ⟨c, rfl⟩ | ⟨c, rfl⟩
    · have b : wX6_byOne_b102 P (q_code q &&& 1) (fE q (q_code q &&& 1)) q := sk (by rw [c]; decide) (iX6_product h)
      rw [c]
      exact sk (by decide) (sk (by decide) (sk (by decide) (sk (by decide) (tk rfl b))))
    · have b : wX6_byOne_b102 P (q_code q &&& 1) (fE q (q_code q &&& 1)) q := tk c (iX6_product h)
      rw [c]
      exact sk (by decide) (sk (by decide) (sk (by decide) (sk (by decide) (sk (by decide) (tk rfl b)))))
  · intro P h
    unfold wX3_codesF6
    refine iX1_wide ?_
    rw [hn', er]
    rcases hr with ⟨c, rfl⟩ | ⟨c, rfl⟩
    · have b : wX3_codesF6_b126 P (pO q (-1) k) := by
        unfold wX3_codesF6_b126
        rw [er, c]
        exact sk (by decide) (iX3_multiply hI hM hn h)
      rw [c]
      exact sk (by decide) (sk (by decide) (sk (by decide) (sk (by decide) (tk rfl b))))
    · have b : wX3_codesF6_b126 P (pO q (-1) k) := by
        unfold wX3_codesF6_b126
        rw [er, c]
        exact tk rfl (iX3_multiply hI hM hn h)
      rw [c]
      exact sk (by decide) (sk (by decide) (sk (by decide) (sk (by decide) (sk (by decide) (tk rfl b)))))
  · exact inv_mul hI _ _ _
  · exact ((same_F q _).tr (same_R _ _)).kept hg
-- ----- quotients
theorem div_one {v : Int32} (h : rW v) : (if lg_cmp v.toInt64 ((65536 : Int64) / 2) < 0 then v.toInt64 else v.toInt64 - 65536) = (fSgn v 1).toInt64 := by
  have hs := ti_sgn (v := v) (w := 1) ((rO_1 (by decide)).mpr h)
  have et : (fTop 1).toInt = 32768 := rfl
  have ea : (fAll 1).toInt = 65535 := rfl
  have eh : ((65536 : Int64) / 2).toInt = 32768 := by decide
  rw [et, ea] at hs
  apply tl_ext
  rw [Int32.toInt_toInt64, hs]
  by_cases c : v.toInt < 32768
  · rw [if_pos c, if_pos ((lg_cmp_lt _ _).mpr (Int64.lt_iff_toInt_lt.mpr (by rw [Int32.toInt_toInt64, eh]; exact c))), Int32.toInt_toInt64]
  · rw [if_neg c, if_neg (fun z => c (by have := Int64.lt_iff_toInt_lt.mp ((lg_cmp_lt _ _).mp z); rw [Int32.toInt_toInt64, eh] at this; exact this))]
    have := lg_i2l_sub v 65536
    have e : (65536 : Int32).toInt = 65536 := rfl
    rw [e] at this
    show (v.toInt64 - (65536 : Int32).toInt64).toInt = _
    rw [this]
    omega
theorem two_words {d a : Int32} (hd : rW d) (ha : rW a) : (d <<< ((16 : Int32) &&& 31) ||| a).toInt = if d.toInt < 32768 then d.toInt * 65536 + a.toInt else d.toInt * 65536 + a.toInt - 4294967296 := by
  have nd := ti_nat d
  have na := ti_nat a
  have d0 := hd.1; have d1 := hd.2; have a0 := ha.1; have a1 := ha.2
  rw [if_neg (by omega)] at nd na
  have es : (d <<< ((16 : Int32) &&& 31)).toBitVec = d.toBitVec <<< 16 := by rw [Int32.toBitVec_shiftLeft]; rfl
  have e : (d <<< ((16 : Int32) &&& 31) ||| a).toBitVec.toNat = d.toBitVec.toNat * 65536 + a.toBitVec.toNat := by
    rw [Int32.toBitVec_or, BitVec.toNat_or, es, BitVec.toNat_shiftLeft, Nat.mod_eq_of_lt (by rw [Nat.shiftLeft_eq]; omega), ← Nat.shiftLeft_add_eq_or_of_lt (by omega), Nat.shiftLeft_eq]
  have h1 : (d <<< ((16 : Int32) &&& 31) ||| a).toInt = _ := BitVec.toInt_eq_toNat_cond (d <<< ((16 : Int32) &&& 31) ||| a).toBitVec
  rw [h1, e]
  split <;> split <;> omega
theorem tl_two {d a : Int32} (hd : rW d) (ha : rW a) : (d.toInt64 * 65536 + a.toInt64).toInt = d.toInt * 65536 + a.toInt := by
  have d0 := hd.1; have d1 := hd.2; have a0 := ha.1; have a1 := ha.2
  have e : (65536 : Int64).toInt = 65536 := by decide
  rw [Int64.toInt_add, Int64.toInt_mul, Int32.toInt_toInt64, Int32.toInt_toInt64, e, bm_64 (n := d.toInt * 65536) (by omega) (by omega), bm_64 (by omega) (by omega)]
theorem div_two {d a : Int32} (hd : rW d) (ha : rW a) : (d <<< ((16 : Int32) &&& 31) ||| a).toInt64 &&& 4294967295 = d.toInt64 * 65536 + a.toInt64 := tl_ext (by
  have d0 := hd.1; have d1 := hd.2; have a0 := ha.1; have a1 := ha.2
  rw [tl_and32, tl_two hd ha, Int32.toInt_toInt64, two_words hd ha]
  split <;> omega)
theorem div_sgn {d a : Int32} (hd : rW d) (ha : rW a) : (d <<< ((16 : Int32) &&& 31) ||| a).toInt64 = if lg_cmp (d.toInt64 * 65536 + a.toInt64) ((4294967296 : Int64) / 2) < 0 then d.toInt64 * 65536 + a.toInt64 else d.toInt64 * 65536 + a.toInt64 - 4294967296 := tl_ext (by
  have d0 := hd.1; have d1 := hd.2; have a0 := ha.1; have a1 := ha.2
  have eh : ((4294967296 : Int64) / 2).toInt = 2147483648 := by decide
  have ef : (4294967296 : Int64).toInt = 4294967296 := by decide
  rw [Int32.toInt_toInt64, two_words hd ha]
  by_cases c : d.toInt < 32768
  · rw [if_pos c, if_pos ((lg_cmp_lt _ _).mpr (Int64.lt_iff_toInt_lt.mpr (by rw [tl_two hd ha, eh]; omega))), tl_two hd ha]
  · rw [if_neg c, if_neg (fun z => c (by have := Int64.lt_iff_toInt_lt.mp ((lg_cmp_lt _ _).mp z); rw [tl_two hd ha, eh] at this; omega)), Int64.toInt_sub, tl_two hd ha, ef, bm_64 (by omega) (by omega)])
theorem iX3_dividend {w sg cd : Int32} {q : SQ} {k : SC} {P : Int64 → SP → Prop} (hI : Inv q) (h : P (fNum (q_registers q) w sg) (pO q cd k)) : wX3_dividend w sg (pO q cd k) P := by
  unfold fNum at h
  refine ⟨fun c => ?_, fun c => ?_⟩
  · rw [if_pos c] at h
    refine ⟨fun d => iX3_a hI ?_, fun d => iX3_a hI (iX0_signed ?_)⟩
    · rw [if_pos d] at h
      rw [fReg_01]
      exact h
    · rw [if_neg d, div_one (hI.2.1.1 0)] at h
      rw [fReg_01, cut_sgn ((rO_1 (by decide)).mpr (hI.2.1.1 0))]
      exact h
  · rw [if_neg c] at h
    refine ⟨vp_7 (r7_and 2), iX3_a (q := q) (cd := cd) (k := k) hI ?_⟩
    rw [fReg_01]
    show (sg = 0 → P (((q_registers q 2 <<< ((16 : Int32) &&& 31)) ||| q_registers q 0).toInt64 &&& 4294967295) (pO q cd k)) ∧ (¬ sg = 0 → P ((q_registers q 2 <<< ((16 : Int32) &&& 31)) ||| q_registers q 0).toInt64 (pO q cd k))
    refine ⟨fun d => ?_, fun d => ?_⟩
    · rw [if_pos d] at h
      rw [div_two (hI.2.1.1 2) (hI.2.1.1 0)]
      exact h
    · rw [if_neg d] at h
      rw [div_sgn (hI.2.1.1 2) (hI.2.1.1 0)]
      exact h
theorem most_c (w : Int32) : (fTop w - 1).toInt64 = (fTop w).toInt64 - 1 := by
  unfold fTop
  split <;> decide
theorem iX0_fits {a : Int64} {w sg : Int32} {P : Int32 → Unit → Prop} (h0 : (0 < lg_cmp a (fMost w sg) ∨ ¬ 0 ≤ lg_cmp a (fLeast w sg)) → P 0 ()) (h1 : ¬ (0 < lg_cmp a (fMost w sg) ∨ ¬ 0 ≤ lg_cmp a (fLeast w sg)) → P 1 ()) : wX0_fits a w sg () P := by
  have nl : ∀ x : Int32, ¬ 0 ≤ x ↔ x < 0 := by
    intro x; rw [ti_le, ti_lt]; have : (0 : Int32).toInt = 0 := rfl; omega
  have b40 : ∀ t : Int64, t = fLeast w sg → ¬ 0 < lg_cmp a (fMost w sg) → wX0_fits_b40 a w sg P t () := by
    rintro t rfl c
    exact ⟨fun d => h0 (Or.inr ((nl _).mpr d)), fun d => h1 (fun z => z.elim c (fun z => d ((nl _).mp z)))⟩
  have b19 : ∀ t : Int64, t = fMost w sg → wX0_fits_b19 a w sg P t () := by
    rintro t rfl
    refine ⟨fun c => h0 (Or.inl c), fun c => ⟨fun d => b40 _ ?_ c, fun d => b40 _ ?_ c⟩⟩
    · rw [fLeast, if_pos d]
    · rw [fLeast, if_neg d]
  refine ⟨fun d => iX0_mask (b19 _ ?_), fun d => iX0_highest (b19 _ ?_)⟩
  · rw [fMost, if_pos d]
  · rw [fMost, if_neg d, most_c]
theorem quo_b (x a b : Int32) : ((x &&& 65280 ||| a &&& 255) &&& 255 ||| (b &&& 255) <<< ((8 : Int32) &&& 31)) = (a &&& 255 ||| (b &&& 255) <<< ((8 : Int32) &&& 31)) := by
  have e : (x &&& 65280 ||| a &&& 255) &&& 255 = a &&& 255 := by
    apply Int32.toBitVec_inj.mp
    rw [Int32.toBitVec_and, Int32.toBitVec_or, Int32.toBitVec_and, Int32.toBitVec_and]
    have e1 : (Int32.toBitVec 65280 &&& Int32.toBitVec 255) = 0#32 := by decide
    have e2 : (Int32.toBitVec 255 &&& Int32.toBitVec 255) = Int32.toBitVec 255 := by decide
    rw [BitVec.and_comm, BitVec.and_or_distrib_left, ← BitVec.and_assoc, BitVec.and_comm (Int32.toBitVec 255) x.toBitVec, BitVec.and_assoc, BitVec.and_comm (Int32.toBitVec 255) (Int32.toBitVec 65280), e1, BitVec.and_zero, BitVec.zero_or, BitVec.and_comm, BitVec.and_assoc, e2]
  rw [e]
theorem upd_two (f : A32) (i : Nat) (a b : Int32) : upd (upd f i a) i b = upd f i b := by
  funext j
  unfold upd
  by_cases c : j = i
  · rw [if_pos c, if_pos c]
  · rw [if_neg c, if_neg c, if_neg c]
theorem iX3_divide {sg : Int32} {q : SQ} {k : SC} {P : SP → Prop} (hI : Inv q) (hM : DecM k q) (hn : c_number k = q_code q)
    (h0 : fNone (fNum (q_registers q) (q_code q &&& 1) sg) (fDen (fE q (q_code q &&& 1)) (q_code q &&& 1) sg) (q_code q &&& 1) sg → P (pO q 0 k))
    (h1 : ¬ fNone (fNum (q_registers q) (q_code q &&& 1) sg) (fDen (fE q (q_code q &&& 1)) (q_code q &&& 1) sg) (q_code q &&& 1) sg → P (pO (qs_registers q (fQuoR (q_registers q) (fNum (q_registers q) (q_code q &&& 1) sg) (fDen (fE q (q_code q &&& 1)) (q_code q &&& 1) sg) (q_code q &&& 1))) (-1) k)) : wX3_divide sg (pO q (-1) k) P := by
  unfold wX3_divide
  refine iX1_wide ?_
  rw [show c_number (p_code (pO q (-1) k)) = q_code q from hn]
  generalize hw : q_code q &&& 1 = w at *
  have fin : ∀ y : Int64, y = fDen (fE q w) w sg → wX3_divide_b31 sg P w y (pO q (-1) k) := by
    rintro y rfl
    refine ⟨fun c => h0 (Or.inl c), fun c => iX3_dividend hI ⟨fun z => c ((cmp_0 _ _).mpr z), iX0_fits (fun d => ?_) (fun d => ?_)⟩⟩
    · exact ⟨fun _ => h0 (Or.inr d), fun e => absurd rfl e⟩
    · have h := h1 (fun z => z.elim c d)
      refine ⟨fun e => absurd e (by decide), fun _ => iX3_giveA (q := q) ?_⟩
      unfold fQuoR at h
      refine ⟨fun e => ?_, fun e => ?_⟩
      · rw [if_pos e] at h
        refine ⟨fun z => c ((cmp_0 _ _).mpr z), iP_give (q := qs_registers q _) r7_4 ?_⟩
        show P (pO (qs_registers q (fSetR (fSetR (q_registers q) 0 w _) 4 w _)) (-1) k)
        subst e
        unfold fSetR
        rw [if_pos rfl, if_pos rfl, if_pos (by decide), if_neg (by decide)]
        show P (pO (qs_registers q (upd (upd (q_registers q) 0 (q_registers q 0 &&& 65280 ||| ((fNum (q_registers q) 0 sg / fDen (fE q 0) 0 sg).toInt32 &&& 255))) 0 (upd (q_registers q) 0 (q_registers q 0 &&& 65280 ||| ((fNum (q_registers q) 0 sg / fDen (fE q 0) 0 sg).toInt32 &&& 255)) 0 &&& 255 ||| ((fNum (q_registers q) 0 sg - fNum (q_registers q) 0 sg / fDen (fE q 0) 0 sg * fDen (fE q 0) 0 sg).toInt32 &&& 255) <<< ((8 : Int32) &&& 31)))) (-1) k)
        rw [upd_two, show upd (q_registers q) 0 (q_registers q 0 &&& 65280 ||| ((fNum (q_registers q) 0 sg / fDen (fE q 0) 0 sg).toInt32 &&& 255)) 0 = (q_registers q 0 &&& 65280 ||| ((fNum (q_registers q) 0 sg / fDen (fE q 0) 0 sg).toInt32 &&& 255)) from if_pos rfl, quo_b]
        exact h
      · rw [if_neg e] at h
        refine ⟨fun z => c ((cmp_0 _ _).mpr z), iP_give (q := qs_registers q _) ⟨by decide, by decide⟩ ?_⟩
        show P (pO (qs_registers q (fSetR (fSetR (q_registers q) 0 w _) 2 w _)) (-1) k)
        unfold fSetR
        rw [if_neg e, if_neg e]
        exact h
  refine ⟨fun c => iX3_e hI hM (fin _ ?_), fun c => iX3_e hI hM (iX0_signed (fin _ ?_))⟩
  · rw [fDen, if_pos c]
  · rw [fDen, if_neg c, cut_sgn (rO_e hI w)]
theorem inv_quo {q : SQ} (h : Inv q) (x y : Int64) (w : Int32) : Inv (qs_registers q (fQuoR (q_registers q) x y w)) := by
  refine inv_R h ?_
  unfold fQuoR
  split
  · exact inv_updW h.2.1.1 _ (or_hi (rB_and _) (rB_and _))
  · exact inv_updW (inv_updW h.2.1.1 _ (rW_and _)) _ (rW_and _)
theorem simF6d {q : SQ} {k : SC} (hI : Inv q) (hg : q_gave q = 0) (hn : c_number k = q_code q) (hM : DecM k q) (h0 : 0 ≤ (q_code q).toInt) (sg : Int32) (hr : q_r q = 6 ∧ sg = 0 ∨ q_r q = 7 ∧ sg = 1) : Sim (wX6_byOne q) (wX3_codesF6 (pO q (-1) k)) q k 0 := by
  have hn' : c_number (p_code (pO q (-1) k)) = q_code q := hn
  have hm := hM.2.2.2.2.1
  have er : c_r (p_code (pO q (-1) k)) = q_r q := hM.2.2.1
  have mo : ∀ P : SQ → Prop, (fNone (fNum (q_registers q) (q_code q &&& 1) sg) (fDen (fE q (q_code q &&& 1)) (q_code q &&& 1) sg) (q_code q &&& 1) sg → P (fInt q 0)) → (¬ fNone (fNum (q_registers q) (q_code q &&& 1) sg) (fDen (fE q (q_code q &&& 1)) (q_code q &&& 1) sg) (q_code q &&& 1) sg → P (qs_registers q (fQuoR (q_registers q) (fNum (q_registers q) (q_code q &&& 1) sg) (fDen (fE q (q_code q &&& 1)) (q_code q &&& 1) sg) (q_code q &&& 1)))) → wX6_byOne q P := by
    intro P ha hb
    have b : wX6_byOne_b140 P (q_code q &&& 1) (fE q (q_code q &&& 1)) sg q :=
      iX6_quotient (fun c => ⟨fun _ => iX6_interrupt hI (ha c), fun e => absurd rfl e⟩) (fun c => ⟨fun e => absurd e (by decide), fun _ => hb c⟩)
    refine iX6_isWide h0 (iX6_operand hI hm ?_)
    rcases hr with ⟨c, rfl⟩ | ⟨c, rfl⟩
    · rw [c]
      exact sk (by decide) (sk (by decide) (sk (by decide) (sk (by decide) (sk (by decide) (sk (by decide) (sk (by decide) b))))))
    · rw [c]
      exact sk (by decide) (sk (by decide) (sk (by decide) (sk (by decide) (sk (by decide) (sk (by decide) (tk rfl b))))))
  have cl : ∀ P : SP → Prop, wX3_divide sg (pO q (-1) k) P → wX3_codesF6 (pO q (-1) k) P := by
    intro P b
    unfold wX3_codesF6
    refine iX1_wide ?_
    rw [er]
    rcases hr with ⟨c, rfl⟩ | ⟨c, rfl⟩
    · rw [c]
      exact sk (by decide) (sk (by decide) (sk (by decide) (sk (by decide) (sk (by decide) (sk (by decide) (sk (by decide) b))))))
    · rw [c]
      exact sk (by decide) (sk (by decide) (sk (by decide) (sk (by decide) (sk (by decide) (sk (by decide) (tk rfl b))))))
  by_cases d : fNone (fNum (q_registers q) (q_code q &&& 1) sg) (fDen (fE q (q_code q &&& 1)) (q_code q &&& 1) sg) (q_code q &&& 1) sg
  · exact Sim.int (q1 := q) (n := 0) (by decide) (fun P h => mo P (fun _ => h) (fun z => absurd d z)) (fun P h => cl P (iX3_divide hI hM hn (fun _ => h) (fun z => absurd d z))) hI (Same.rf.kept hg)
  · exact Sim.one (fun P h => mo P (fun z => absurd z d) (fun _ => h)) (fun P h => cl P (iX3_divide hI hM hn (fun z => absurd z d) (fun _ => h))) (inv_quo hI _ _ _) ((same_R q _).kept hg)
