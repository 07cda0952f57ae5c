-- ----- strings, once: the class
theorem mark_and {f k on m : Int32} (h1 : (k ^^^ (-1)) &&& m = m) (h2 : k &&& m = 0) : fMark f k on &&& m = f &&& m := by
  unfold fMark
  split
  · rw [Int32.and_assoc, h1]
  · apply Int32.toBitVec_inj.mp
    have e := congrArg Int32.toBitVec h2
    rw [Int32.toBitVec_and] at e
    rw [Int32.toBitVec_and, Int32.toBitVec_or, Int32.toBitVec_and, BitVec.and_comm, BitVec.and_or_distrib_left, BitVec.and_comm m.toBitVec k.toBitVec, e, BitVec.and_comm]
    exact BitVec.or_zero
theorem op7 (f a b w : Int32) : fOpF f 7 a b w = fDifF f a b 0 w := by
  unfold fOpF
  rw [if_neg (by decide), if_neg (by decide), if_neg (by decide), if_neg (by decide), if_neg (by decide), if_neg (by decide), if_neg (by decide), if_pos rfl]
theorem op7_dir (f a b w : Int32) : fH (fOpF f 7 a b w) 1024 = fH f 1024 := by
  have e : fOpF f 7 a b w &&& 1024 = f &&& 1024 := by
    rw [op7]
    unfold fDifF fBy
    rw [mark_and (by decide) (by decide), mark_and (by decide) (by decide), mark_and (by decide) (by decide), mark_and (by decide) (by decide), mark_and (by decide) (by decide), mark_and (by decide) (by decide)]
  unfold fH
  rw [e]
theorem stride_F {q : SQ} {f : Int32} (h : fH f 1024 = fH (q_flags q) 1024) : fStride (qs_flags q f) = fStride q := by
  show (if q_code q &&& 1 = 0 then 1 else 2) * (if fH f 1024 = 0 then (1 : Int32) else -1) = _
  rw [h]
  rfl
theorem iX3_stringStride {cd : Int32} {q : SQ} {k : SC} {P : Int32 → SP → Prop} (hn : c_number k = q_code q) (h : P (fStride q) (pO q cd k)) : wX3_stringStride (pO q cd k) P := by
  have b15 : ∀ s0 : Int32, s0 = (if q_code q &&& 1 = 0 then 1 else 2) → wX3_stringStride_b15 P s0 (pO q cd k) := by
    rintro s0 rfl
    unfold fStride at h
    have en : ∀ x : Int32, x * (-1) = -x := fun x => by rw [Int32.mul_neg, Int32.mul_one]
    refine iX0_has ⟨fun (c : fH (q_flags q) 1024 = 0) => ?_, fun (c : ¬ fH (q_flags q) 1024 = 0) => ?_⟩
    · rw [if_pos c, Int32.mul_one] at h; exact h
    · rw [if_neg c, en] at h; exact h
  unfold wX3_stringStride
  refine iX1_wide ?_
  rw [show c_number (p_code (pO q cd k)) = q_code q from hn]
  refine ⟨fun c => b15 _ ?_, fun c => b15 _ ?_⟩
  · rw [if_pos c]
  · rw [if_neg c]
theorem iX3_passSource {b cd : Int32} {q : SQ} {k : SC} {P : SP → Prop} (hn : c_number k = q_code q) (hb : fStride q = b) (h : P (pO (fPassS b q) cd k)) : wX3_passSource (pO q cd k) P := by
  subst hb
  exact iX4_word (iX3_stringStride (q := q) hn (iP_setWord (q := q) h))
theorem iX3_passTarget {b cd : Int32} {q : SQ} {k : SC} {P : SP → Prop} (hn : c_number k = q_code q) (hb : fStride q = b) (h : P (pO (fPassT b q) cd k)) : wX3_passTarget (pO q cd k) P := by
  subst hb
  exact iX4_word (iX3_stringStride (q := q) hn (iP_setWord (q := q) h))
theorem stride_S (q : SQ) (b : Int32) : fStride (fPassS b q) = fStride q := rfl
theorem stride_M (q : SQ) (M : SM) : fStride (sMQ q M) = fStride q := rfl
theorem stride_R (q : SQ) (R : A32) : fStride (qs_registers q R) = fStride q := rfl
theorem kind_of {n : Int32} : (n &&& 254 = 164 → n >>> ((1 : Int32) &&& 31) &&& 7 = 2) ∧ (n &&& 254 = 166 → n >>> ((1 : Int32) &&& 31) &&& 7 = 3) ∧ (n &&& 254 = 170 → n >>> ((1 : Int32) &&& 31) &&& 7 = 5) ∧ (n &&& 254 = 172 → n >>> ((1 : Int32) &&& 31) &&& 7 = 6) ∧ (n &&& 254 = 174 → n >>> ((1 : Int32) &&& 31) &&& 7 = 7) := by
  have e : (n &&& 254).toInt = n.toInt % 256 - n.toInt % 2 := by
    have h1 : n &&& 254 = (n &&& 255) - (n &&& 1) := by
      apply Int32.toBitVec_inj.mp
      rw [Int32.toBitVec_sub, Int32.toBitVec_and, Int32.toBitVec_and, Int32.toBitVec_and]
      have : ∀ x : BitVec 32, x &&& Int32.toBitVec 254 = (x &&& Int32.toBitVec 255) - (x &&& Int32.toBitVec 1) := by
        intro x
        apply BitVec.eq_of_toNat_eq
        rw [BitVec.toNat_sub, BitVec.toNat_and, BitVec.toNat_and, BitVec.toNat_and]
        show x.toNat &&& 254 = (2 ^ 32 - (x.toNat &&& 1) + (x.toNat &&& 255)) % 2 ^ 32
        have a1 : x.toNat &&& 1 = x.toNat % 2 := Nat.and_two_pow_sub_one_eq_mod _ 1
        have a2 : x.toNat &&& 255 = x.toNat % 256 := Nat.and_two_pow_sub_one_eq_mod _ 8
        have a3 : x.toNat &&& 254 = x.toNat / 2 % 128 * 2 := by
          have := Nat.and_two_pow_sub_one_eq_mod (x.toNat / 2) 7
          have e2 : x.toNat &&& 254 = ((x.toNat &&& 254) / 2) * 2 + (x.toNat &&& 254) % 2 := by omega
          have e3 : (x.toNat &&& 254) / 2 = x.toNat / 2 &&& 127 := Nat.and_div_two
          have e4 : (x.toNat &&& 254) % 2 = 0 := by
            have := Nat.and_mod_two_pow (a := x.toNat) (b := 254) (n := 1)
            rw [show 2 ^ 1 = 2 from rfl] at this
            rw [this, show 254 % 2 = 0 from rfl, Nat.and_zero]
          have e5 : x.toNat / 2 &&& 127 = x.toNat / 2 % 128 := this
          rw [e2, e3, e4, e5, Nat.add_zero]
        rw [a1, a2, a3]
        omega
      exact this n.toBitVec
    rw [h1, ti_sub, ti_and255, ti_and1]
    · rw [ti_and255, ti_and1]; omega
    · rw [ti_and255, ti_and1]; omega
  refine ⟨fun h => ?_, fun h => ?_, fun h => ?_, fun h => ?_, fun h => ?_⟩ <;>
  · have h' := congrArg Int32.toInt h
    rw [e] at h'
    apply ti_ext
    rw [ti_and7, ti_shr1]
    first
      | (have e1 : (164 : Int32).toInt = 164 := rfl; have e2 : (2 : Int32).toInt = 2 := rfl; rw [e1] at h'; rw [e2]; omega)
      | (have e1 : (166 : Int32).toInt = 166 := rfl; have e2 : (3 : Int32).toInt = 3 := rfl; rw [e1] at h'; rw [e2]; omega)
      | (have e1 : (170 : Int32).toInt = 170 := rfl; have e2 : (5 : Int32).toInt = 5 := rfl; rw [e1] at h'; rw [e2]; omega)
      | (have e1 : (172 : Int32).toInt = 172 := rfl; have e2 : (6 : Int32).toInt = 6 := rfl; rw [e1] at h'; rw [e2]; omega)
      | (have e1 : (174 : Int32).toInt = 174 := rfl; have e2 : (7 : Int32).toInt = 7 := rfl; rw [e1] at h'; rw [e2]; omega)
theorem cStr {cd : Int32} {q : SQ} {k : SC} {P : SP → Prop} (hI : Inv q) (hs : rS q) (hg : c_givenSegment k = q_segment q) (hn : c_number k = q_code q) (hk : q_code q &&& 254 = 164 ∨ q_code q &&& 254 = 166 ∨ q_code q &&& 254 = 170 ∨ q_code q &&& 254 = 172 ∨ q_code q &&& 254 = 174) (h : P (pO (fStr q) cd k)) : wX3_stringOnce (pO q cd k) P := by
  unfold fStr at h
  unfold wX3_stringOnce
  refine iX1_wide (iX4_word (iX4_word (iX3_segmentFor (q := q) (cd := cd) (k := k) hs hg r3_3 (iX4_segment ?_))))
  rw [show c_number (p_code (pO q cd k)) = q_code q from hn]
  have rs : rO (fSrc q) (q_code q &&& 1) := rO_get hI.1 _ _ _
  have rt : rO (fTgt q) (q_code q &&& 1) := rO_get hI.1 _ _ _
  have ra : rO (fAcc q) (q_code q &&& 1) := rO_reg hI.2.1.1 _ _
  rcases hk with c | c | c | c | c
  · rw [kind_of.1 c]
    rw [if_pos c] at h
    exact tk rfl (iX2_load hI.1 (iX2_store hI.1 (iX3_passSource (q := sMQ q (fToT q (fSrc q))) hn (stride_M _ _) (iX3_passTarget (q := fPassS (fStride q) (sMQ q (fToT q (fSrc q)))) hn ((stride_S _ _).trans (stride_M _ _)) h))))
  · rw [kind_of.2.1 c]
    rw [c, if_neg (by decide), if_pos rfl, op7] at h
    have hd : fH (fDifF (q_flags q) (fSrc q) (fTgt q) 0 (q_code q &&& 1)) 1024 = fH (q_flags q) 1024 := by rw [← op7]; exact op7_dir _ _ _ _
    exact sk (by decide) (tk rfl (iX2_load hI.1 (iX2_load hI.1 (iX0_compare rs rt (iX3_passSource (q := qs_flags q (fDifF (q_flags q) (fSrc q) (fTgt q) 0 (q_code q &&& 1))) hn (stride_F hd) (iX3_passTarget (q := fPassS (fStride q) (qs_flags q (fDifF (q_flags q) (fSrc q) (fTgt q) 0 (q_code q &&& 1)))) hn ((stride_S _ _).trans (stride_F hd)) h))))))
  · rw [kind_of.2.2.1 c]
    rw [c, if_neg (by decide), if_neg (by decide), if_pos rfl] at h
    exact sk (by decide) (sk (by decide) (sk (by decide) (tk rfl (iX3_a (q := q) (cd := cd) (k := k) hI (iX2_store hI.1 (iX3_passTarget (q := sMQ q (fToT q (fAcc q))) hn (stride_M _ _) h))))))
  · rw [kind_of.2.2.2.1 c]
    rw [c, if_neg (by decide), if_neg (by decide), if_neg (by decide), if_pos rfl] at h
    exact sk (by decide) (sk (by decide) (sk (by decide) (sk (by decide) (tk rfl (iX2_load hI.1 (iX3_giveA (q := q) (cd := cd) (k := k) (iX3_passSource (q := qs_registers q (fSetR (q_registers q) 0 (q_code q &&& 1) (fSrc q))) hn (stride_R _ _) h)))))))
  · rw [kind_of.2.2.2.2 c]
    rw [c, if_neg (by decide), if_neg (by decide), if_neg (by decide), if_neg (by decide), op7] at h
    have hd : fH (fDifF (q_flags q) (fAcc q) (fTgt q) 0 (q_code q &&& 1)) 1024 = fH (q_flags q) 1024 := by rw [← op7]; exact op7_dir _ _ _ _
    exact sk (by decide) (sk (by decide) (sk (by decide) (sk (by decide) (sk (by decide) (iX3_a (q := q) (cd := cd) (k := k) hI (iX2_load hI.1 (iX0_compare ra rt (iX3_passTarget (q := qs_flags q (fDifF (q_flags q) (fAcc q) (fTgt q) 0 (q_code q &&& 1))) hn (stride_F hd) h))))))))
