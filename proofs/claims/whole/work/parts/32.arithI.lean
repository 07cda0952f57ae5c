-- ===== both sides' arithmetic comes to these functions =====
theorem iX6_top {w : Int32} {P : Int32 → Unit → Prop} (h : P (fTop w) ()) : wX6_top w () P := ⟨fun q => by rw [fTop, if_pos q] at h; exact h, fun q => by rw [fTop, if_neg q] at h; exact h⟩
theorem iX6_all {w : Int32} {P : Int32 → Unit → Prop} (h : P (fAll w) ()) : wX6_all w () P := ⟨fun q => by rw [fAll, if_pos q] at h; exact h, fun q => by rw [fAll, if_neg q] at h; exact h⟩
theorem iX0_highest {w : Int32} {P : Int32 → Unit → Prop} (h : P (fTop w) ()) : wX0_highest w () P := ⟨fun q => by rw [fTop, if_pos q] at h; exact h, fun q => by rw [fTop, if_neg q] at h; exact h⟩
theorem iX0_mask {w : Int32} {P : Int32 → Unit → Prop} (h : P (fAll w) ()) : wX0_mask w () P := ⟨fun q => by rw [fAll, if_pos q] at h; exact h, fun q => by rw [fAll, if_neg q] at h; exact h⟩
theorem iX0_signed {v w : Int32} {P : Int32 → Unit → Prop} (h : P (fCut v w) ()) : wX0_signed v w () P := ⟨fun q => by rw [fCut, if_pos q] at h; exact h, fun q => by rw [fCut, if_neg q] at h; exact h⟩
theorem iX6_signed {v w : Int32} {P : Int32 → Unit → Prop} (h : P (fSgn v w) ()) : wX6_signed v w () P := by
  unfold wX6_signed
  refine iX6_top ⟨fun q => ?_, fun q => iX6_all ?_⟩
  · rw [fSgn, if_pos q] at h; exact h
  · rw [fSgn, if_neg q] at h; exact h
theorem iX6_mark {k on : Int32} {u : SQ} {P : SQ → Prop} (h : P (qs_flags u (fMark (q_flags u) k on))) : wX6_mark k on u P := ⟨fun q => by rw [fMark, if_pos q] at h; exact h, fun q => by rw [fMark, if_neg q] at h; exact h⟩
theorem iX0_mark {k on : Int32} {u : Int32} {P : Int32 → Prop} (h : P (fMark u k on)) : wX0_mark k on u P := ⟨fun q => by rw [fMark, if_pos q] at h; exact h, fun q => by rw [fMark, if_neg q] at h; exact h⟩
theorem iX6_has {k : Int32} {u : SQ} {P : Int32 → SQ → Prop} (h : P (bI (¬ q_flags u &&& k = 0)) u) : wX6_has k u P := br_n (fun z => P z u) h
theorem iX0_has {k : Int32} {u : Int32} {P : Int32 → Int32 → Prop} (h : P (bI (¬ u &&& k = 0)) u) : wX0_has k u P := br_n (fun z => P z u) h
theorem iX0_keep {v : Int32} {u : Int32} {P : Int32 → Prop} (h : P (v &&& 4053)) : wX0_keep v u P := h
set_option maxRecDepth 20000 in
theorem iX6_byAnswer {v w : Int32} {u : SQ} {P : SQ → Prop} (h : P (qs_flags u (fBy (q_flags u) v w))) : wX6_byAnswer v w u P := by
  unfold wX6_byAnswer
  refine br_p (fun z => wX6_byAnswer_b12 v w P z u) (iX6_mark (iX6_top (br_n (fun z => wX6_byAnswer_b33 v w P z (qs_flags u (fMark (q_flags u) 64 (bI (v = 0))))) (iX6_mark ⟨9, ?_⟩))))
  iterate 8
    rw [wX6_byAnswer_b41]
    refine ⟨fun q => absurd q (by decide), fun _ => ?_⟩
  rw [wX6_byAnswer_b41]
  refine ⟨fun _ => ⟨by decide, ?_⟩, fun q => absurd (by decide) q⟩
  refine br_p (fun z => wX6_byAnswer_b76 v w P z _) (iX6_mark ?_)
  exact h
def bcE (a : Int32) : Int32 :=
  let x1 := a - ((a.toUInt32 >>> ((1 : Int32).toUInt32 &&& Int32.toUInt32 31)).toInt32 &&& 1431655765)
  let x2 := (x1 &&& 858993459) + ((x1.toUInt32 >>> ((2 : Int32).toUInt32 &&& Int32.toUInt32 31)).toInt32 &&& 858993459)
  let x3 := (x2 + (x2.toUInt32 >>> ((4 : Int32).toUInt32 &&& Int32.toUInt32 31)).toInt32) &&& 252645135
  let x4 := x3 + (x3.toUInt32 >>> ((8 : Int32).toUInt32 &&& Int32.toUInt32 31)).toInt32
  let x5 := x4 + (x4.toUInt32 >>> ((16 : Int32).toUInt32 &&& Int32.toUInt32 31)).toInt32
  x5 &&& 63
theorem iJ6_bitCount {v : Int32} {P : Int32 → Unit → Prop} (h : P (bcE v) ()) : wJ6_bitCount_0f7a4 v () P := h
theorem par_256 : ∀ j : Fin 256, (bcE (nI j.val) &&& 1 = 0 ↔ fOnes (nI j.val) - fOnes (nI j.val) / 2 * 2 = 0) := by decide +kernel
theorem ones_step (v s : Int32) (k : Nat) (hs : (s.toBitVec.smod 32).toNat = k) (hk : k < 8) : (v &&& 255) >>> s &&& 1 = v >>> s &&& 1 := ti_ext (by
  rw [ti_and1, ti_and1, pk_shr _ s k hs, pk_shr _ s k hs, ti_and255, Int.shiftRight_eq_div_pow, Int.shiftRight_eq_div_pow]
  rcases (show k = 0 ∨ k = 1 ∨ k = 2 ∨ k = 3 ∨ k = 4 ∨ k = 5 ∨ k = 6 ∨ k = 7 by omega) with rfl | rfl | rfl | rfl | rfl | rfl | rfl | rfl <;> simp only [Nat.reducePow] <;> omega)
theorem ones_255 (v : Int32) : fOnes (v &&& 255) = fOnes v := by
  unfold fOnes
  rw [ones_step v _ 0 (by decide) (by omega), ones_step v _ 1 (by decide) (by omega), ones_step v _ 2 (by decide) (by omega), ones_step v _ 3 (by decide) (by omega), ones_step v _ 4 (by decide) (by omega), ones_step v _ 5 (by decide) (by omega), ones_step v _ 6 (by decide) (by omega), ones_step v _ 7 (by decide) (by omega)]
theorem par_c (v : Int32) : (bcE (v &&& 255) &&& 1 = 0) ↔ fOnes v - fOnes v / 2 * 2 = 0 := by
  obtain ⟨j, hj, e⟩ := pk_andE v (m := 255) 8 rfl
  rw [← ones_255 v, e]
  exact par_256 ⟨j, hj⟩
theorem by_nf (f a b c : Int32) (ha : zB a) (hb : zB b) (hc : zB c) : (((f &&& (-197)) ||| (if a = 0 then 0 else 64)) ||| (if b = 0 then 0 else 128)) ||| (if c = 0 then 0 else 4) = fMark (fMark (fMark f 64 a) 128 b) 4 c := by
  have e : f = nf (-1) 0 f := nf_id f
  rcases ha with rfl | rfl <;> rcases hb with rfl | rfl <;> rcases hc with rfl | rfl <;> (simp only [fMark, show ¬ (1 : Int32) = 0 by decide, if_true, if_false]; rw [e]; simp only [nf_and, nf_or]; congr 1 <;> decide)
theorem iX0_byAnswer {v w : Int32} {u : Int32} {P : Int32 → Int32 → Prop} (h : P v (fBy u v w)) : wX0_byAnswer v w u P := by
  have hp := par_c v
  have key : ∀ a b c : Int32, (a = 0 ∧ ¬ v = 0 ∨ a = 64 ∧ v = 0) → (b = 0 ∧ v &&& fTop w = 0 ∨ b = 128 ∧ ¬ v &&& fTop w = 0) → (c = 0 ∧ ¬ bcE (v &&& 255) &&& 1 = 0 ∨ c = 4 ∧ bcE (v &&& 255) &&& 1 = 0) → (((u &&& (-197)) ||| a) ||| b) ||| c = fBy u v w := by
    intro a b c ha hb hc
    unfold fBy
    rw [← by_nf u _ _ _ bI_z bI_z (show zB (fPar v) from bI_z)]
    congr 1
    · congr 1
      · congr 1
        rcases ha with ⟨rfl, q⟩ | ⟨rfl, q⟩
        · rw [bI_f q]; rfl
        · rw [bI_t q]; rfl
      · rcases hb with ⟨rfl, q⟩ | ⟨rfl, q⟩
        · rw [bI_f (fun z => z q)]; rfl
        · rw [bI_t q]; rfl
    · unfold fPar
      rcases hc with ⟨rfl, q⟩ | ⟨rfl, q⟩
      · rw [bI_f (fun z => q (hp.mpr z))]; rfl
      · rw [bI_t (hp.mp q)]; rfl
  have goal : ∀ a b c : Int32, (a = 0 ∧ ¬ v = 0 ∨ a = 64 ∧ v = 0) → (b = 0 ∧ v &&& fTop w = 0 ∨ b = 128 ∧ ¬ v &&& fTop w = 0) → (c = 0 ∧ ¬ bcE (v &&& 255) &&& 1 = 0 ∨ c = 4 ∧ bcE (v &&& 255) &&& 1 = 0) → P v ((((u &&& (-197)) ||| a) ||| b) ||| c) := by
    intro a b c ha hb hc
    rw [key a b c ha hb hc]
    exact h
  have s3 : ∀ a b : Int32, (a = 0 ∧ ¬ v = 0 ∨ a = 64 ∧ v = 0) → (b = 0 ∧ v &&& fTop w = 0 ∨ b = 128 ∧ ¬ v &&& fTop w = 0) → ∀ z, wX0_byAnswer_b52 v w P (u &&& (-197) ||| a) b z := by
    intro a b ha hb z
    exact iJ6_bitCount ⟨fun q => goal a b 4 ha hb (Or.inr ⟨rfl, q⟩), fun q => goal a b 0 ha hb (Or.inl ⟨rfl, q⟩)⟩
  have s2 : ∀ a : Int32, (a = 0 ∧ ¬ v = 0 ∨ a = 64 ∧ v = 0) → ∀ z, wX0_byAnswer_b27 v w P (u &&& (-197)) a z := by
    intro a ha z
    exact iX0_highest ⟨fun q => s3 a 0 ha (Or.inl ⟨rfl, q⟩) _, fun q => s3 a 128 ha (Or.inr ⟨rfl, q⟩) _⟩
  exact ⟨fun q => s2 64 (Or.inr ⟨rfl, q⟩) _, fun q => s2 0 (Or.inl ⟨rfl, q⟩) _⟩
theorem iX0_settle {all exact four w u : Int32} {P : Int32 → Int32 → Prop} (h : P (all &&& fAll w) (fMark (fMark (fMark u 1 (bI (¬ all = all &&& fAll w))) 16 (bI (¬ four &&& 15 = four))) 2048 (bI (¬ exact = fCut (all &&& fAll w) w)))) : wX0_settle all exact four w u P :=
  iX0_mask (br_n (fun z => wX0_settle_b22 all exact four w P (all &&& fAll w) z u) (iX0_mark (br_n (fun z => wX0_settle_b41 all exact four w P (all &&& fAll w) z _) (iX0_mark (iX0_signed (br_n (fun z => wX0_settle_b64 all exact four w P (all &&& fAll w) z _) (iX0_mark h)))))))
theorem iX6_sum {a b c w : Int32} {u : SQ} {P : Int32 → SQ → Prop} (h : P (fSumV a b c w) (qs_flags u (fSumF (q_flags u) a b c w))) : wX6_sum a b c w u P := by
  unfold wX6_sum
  refine iX6_signed (iX6_signed (iX6_all (br_n (fun z => wX6_sum_b41 a b c w P _ _ z u) (iX6_mark (br_n (fun z => wX6_sum_b68 a b c w P _ _ z _) (iX6_mark (iX6_top ?_)))))))
  have fin : ∀ z : Int32, z = bI (fSgn a w + fSgn b w + c < -(fTop w) ∨ ¬ fSgn a w + fSgn b w + c < fTop w) → wX6_sum_b101 a b c w P (a + b + c) z (qs_flags u (fMark (fMark (q_flags u) 1 (bI (¬ a + b + c ≤ fAll w))) 16 (bI (¬ (a &&& 15) + (b &&& 15) + c ≤ 15)))) := by
    rintro z rfl
    exact iX6_mark (iX6_all (iX6_byAnswer (iX6_all h)))
  refine ⟨fun q => fin 1 (bI_t (Or.inl q)).symm, fun q => iX6_top ⟨fun q2 => fin 0 (bI_f (fun z => z.elim q (fun y => y q2))).symm, fun q2 => fin 1 (bI_t (Or.inr q2)).symm⟩⟩
theorem iX6_difference {a b c w : Int32} {u : SQ} {P : Int32 → SQ → Prop} (h : P (fDifV a b c w) (qs_flags u (fDifF (q_flags u) a b c w))) : wX6_difference a b c w u P := by
  unfold wX6_difference
  refine iX6_signed (iX6_signed (br_n (fun z => wX6_difference_b36 a b c w P _ _ z u) (iX6_mark (br_n (fun z => wX6_difference_b61 a b c w P _ _ z _) (iX6_mark (iX6_top ?_))))))
  have fin : ∀ z : Int32, z = bI (fSgn a w - fSgn b w - c < -(fTop w) ∨ ¬ fSgn a w - fSgn b w - c < fTop w) → wX6_difference_b94 a b c w P (a - b - c) z (qs_flags u (fMark (fMark (q_flags u) 1 (bI (¬ 0 ≤ a - b - c))) 16 (bI (¬ 0 ≤ (a &&& 15) - (b &&& 15) - c)))) := by
    rintro z rfl
    exact iX6_mark (iX6_all (iX6_byAnswer (iX6_all h)))
  refine ⟨fun q => fin 1 (bI_t (Or.inl q)).symm, fun q => iX6_top ⟨fun q2 => fin 0 (bI_f (fun z => z.elim q (fun y => y q2))).symm, fun q2 => fin 1 (bI_t (Or.inr q2)).symm⟩⟩
theorem iX6_bits {v w : Int32} {u : SQ} {P : Int32 → SQ → Prop} (h : P v (qs_flags u (fBitF (q_flags u) v w))) : wX6_bits v w u P := iX6_byAnswer h
theorem iX0_bits {v w : Int32} {u : Int32} {P : Int32 → Int32 → Prop} (h : P v (fBitF u v w)) : wX0_bits v w u P := iX0_byAnswer h
-- ----- the class's sums and differences, of operands
def rC (c : Int32) : Prop := c.toInt = 0 ∨ c.toInt = 1
theorem rC_0 : rC 0 := Or.inl rfl
theorem rC_flag (f : Int32) : rC (f &&& 1) := by unfold rC; rw [ti_and1]; omega
theorem sgn_rng {v w : Int32} (h : rO v w) : -(fTop w).toInt ≤ (fSgn v w).toInt ∧ (fSgn v w).toInt < (fTop w).toInt ∧ ((fSgn v w).toInt = v.toInt ∨ (fSgn v w).toInt = v.toInt - (fAll w).toInt - 1) ∧ (v.toInt < (fTop w).toInt ↔ 0 ≤ (fSgn v w).toInt) := by
  have h1 := h.1
  have h2 := h.2
  rw [ti_sgn h]
  rw [ti_top, ti_all]
  by_cases hw : w = 0
  · rw [if_pos hw] at h2
    rw [if_pos hw, if_pos hw]
    split <;> refine ⟨by omega, by omega, by omega, ?_⟩ <;> constructor <;> intro _ <;> omega
  · rw [if_neg hw] at h2
    rw [if_neg hw, if_neg hw]
    split <;> refine ⟨by omega, by omega, by omega, ?_⟩ <;> constructor <;> intro _ <;> omega
theorem ti_neg_top (w : Int32) : (-(fTop w)).toInt = -(fTop w).toInt := ti_neg (by rw [ti_top]; split <;> omega)
set_option maxHeartbeats 1000000 in
theorem sum_cond {a b c w : Int32} (ha : rO a w) (hb : rO b w) (hc : rC c) : (a + b + c = a + b + c &&& fAll w ↔ a + b + c ≤ fAll w) ∧ ((a &&& 15) + (b &&& 15) + c &&& 15 = (a &&& 15) + (b &&& 15) + c ↔ (a &&& 15) + (b &&& 15) + c ≤ 15) ∧ (fCut a w + fCut b w + c = fCut (a + b + c &&& fAll w) w ↔ ¬ (fSgn a w + fSgn b w + c < -(fTop w) ∨ ¬ fSgn a w + fSgn b w + c < fTop w)) := by
  have a1 := ha.1
  have a2 := ha.2
  have b1 := hb.1
  have b2 := hb.2
  have c1 : 0 ≤ c.toInt ∧ c.toInt ≤ 1 := by rcases hc with h | h <;> omega
  have a3 := rO_W ha
  have b3 := rO_W hb
  have eab : (a + b).toInt = a.toInt + b.toInt := ti_add (by have := a3.2; have := b3.2; omega) (by have := a3.2; have := b3.2; omega)
  have eS : (a + b + c).toInt = a.toInt + b.toInt + c.toInt := by
    rw [ti_add (by rw [eab]; omega) (by rw [eab]; have := a3.2; have := b3.2; omega), eab]
  have fa := ti_and15 a
  have fb := ti_and15 b
  have eF1 : ((a &&& 15) + (b &&& 15)).toInt = a.toInt % 16 + b.toInt % 16 := by rw [ti_add (by omega) (by omega), fa, fb]
  have eF : ((a &&& 15) + (b &&& 15) + c).toInt = a.toInt % 16 + b.toInt % 16 + c.toInt := by rw [ti_add (by omega) (by omega), eF1]
  have sa := ti_sgn ha
  have sb := ti_sgn hb
  have ra := sgn_rng ha
  have rb := sgn_rng hb
  have tT := ti_top w
  have tA := ti_all w
  have tT2 : (fTop w).toInt ≤ 32768 := by rw [tT]; split <;> omega
  have eX1 : (fSgn a w + fSgn b w).toInt = (fSgn a w).toInt + (fSgn b w).toInt := ti_add (by omega) (by omega)
  have eX : (fSgn a w + fSgn b w + c).toInt = (fSgn a w).toInt + (fSgn b w).toInt + c.toInt := by rw [ti_add (by omega) (by omega), eX1]
  have eM := ti_andAll (a + b + c) w
  have eZ := ti_sgn (rO_andAll (a + b + c) w)
  have eN := ti_neg_top w
  have k15 : (15 : Int32).toInt = 15 := rfl
  refine ⟨?_, ?_, ?_⟩
  · rw [ti_eq, ti_le, eM, eS, tA]
    split at a2 <;> (rename_i hw; simp only [hw, if_true, if_false, if_pos, if_neg, not_false_eq_true] at *; constructor <;> intro _ <;> omega)
  · rw [ti_eq, ti_le, ti_and15, eF, k15]
    constructor <;> intro _ <;> omega
  · rw [cut_sgn ha, cut_sgn hb, cut_sgn (rO_andAll _ w), ti_eq, ti_lt, ti_lt, eX, eZ, eM, eN, eS, sa, sb, tT, tA]
    by_cases hw : w = 0
    · simp only [if_pos hw]
      rw [if_pos hw] at a2 b2
      split <;> split <;> split <;> constructor <;> intro _ <;> omega
    · simp only [if_neg hw]
      rw [if_neg hw] at a2 b2
      split <;> split <;> split <;> constructor <;> intro _ <;> omega
theorem iX0_sum {a b c w u : Int32} {P : Int32 → Int32 → Prop} (ha : rO a w) (hb : rO b w) (hc : rC c) (h : P (fSumV a b c w) (fSumF u a b c w)) : wX0_sum a b c w u P := by
  refine iX0_signed (iX0_signed (iX0_settle (iX0_byAnswer ?_)))
  obtain ⟨h1, h2, h3⟩ := sum_cond ha hb hc
  rw [bI_congr (not_congr h1), bI_congr (not_congr h2), bI_congr ((not_congr h3).trans Decidable.not_not)]
  exact h
set_option maxHeartbeats 1000000 in
theorem dif_cond {a b c w : Int32} (ha : rO a w) (hb : rO b w) (hc : rC c) : (a - b - c = a - b - c &&& fAll w ↔ 0 ≤ a - b - c) ∧ ((a &&& 15) - (b &&& 15) - c &&& 15 = (a &&& 15) - (b &&& 15) - c ↔ 0 ≤ (a &&& 15) - (b &&& 15) - c) ∧ (fCut a w - fCut b w - c = fCut (a - b - c &&& fAll w) w ↔ ¬ (fSgn a w - fSgn b w - c < -(fTop w) ∨ ¬ fSgn a w - fSgn b w - c < fTop w)) := by
  have a1 := ha.1
  have a2 := ha.2
  have b1 := hb.1
  have b2 := hb.2
  have c1 : 0 ≤ c.toInt ∧ c.toInt ≤ 1 := by rcases hc with h | h <;> omega
  have a3 := rO_W ha
  have b3 := rO_W hb
  have eab : (a - b).toInt = a.toInt - b.toInt := ti_sub (by have := a3.2; have := b3.2; omega) (by have := a3.2; have := b3.2; omega)
  have eS : (a - b - c).toInt = a.toInt - b.toInt - c.toInt := by
    rw [ti_sub (by rw [eab]; have := b3.2; omega) (by rw [eab]; have := a3.2; have := b3.2; omega), eab]
  have fa := ti_and15 a
  have fb := ti_and15 b
  have eF1 : ((a &&& 15) - (b &&& 15)).toInt = a.toInt % 16 - b.toInt % 16 := by rw [ti_sub (by omega) (by omega), fa, fb]
  have eF : ((a &&& 15) - (b &&& 15) - c).toInt = a.toInt % 16 - b.toInt % 16 - c.toInt := by rw [ti_sub (by omega) (by omega), eF1]
  have sa := ti_sgn ha
  have sb := ti_sgn hb
  have ra := sgn_rng ha
  have rb := sgn_rng hb
  have tT := ti_top w
  have tA := ti_all w
  have tT2 : (fTop w).toInt ≤ 32768 := by rw [tT]; split <;> omega
  have eX1 : (fSgn a w - fSgn b w).toInt = (fSgn a w).toInt - (fSgn b w).toInt := ti_sub (by omega) (by omega)
  have eX : (fSgn a w - fSgn b w - c).toInt = (fSgn a w).toInt - (fSgn b w).toInt - c.toInt := by rw [ti_sub (by omega) (by omega), eX1]
  have eM := ti_andAll (a - b - c) w
  have eZ := ti_sgn (rO_andAll (a - b - c) w)
  have eN := ti_neg_top w
  have k0 : (0 : Int32).toInt = 0 := rfl
  refine ⟨?_, ?_, ?_⟩
  · rw [ti_eq, ti_le, eM, eS, k0]
    split at a2 <;> (rename_i hw; simp only [hw, if_true, if_false, if_pos, if_neg, not_false_eq_true] at *; constructor <;> intro _ <;> omega)
  · rw [ti_eq, ti_le, ti_and15, eF, k0]
    constructor <;> intro _ <;> omega
  · rw [cut_sgn ha, cut_sgn hb, cut_sgn (rO_andAll _ w), ti_eq, ti_lt, ti_lt, eX, eZ, eM, eN, eS, sa, sb, tT, tA]
    by_cases hw : w = 0
    · simp only [if_pos hw]
      rw [if_pos hw] at a2 b2
      split <;> split <;> split <;> constructor <;> intro _ <;> omega
    · simp only [if_neg hw]
      rw [if_neg hw] at a2 b2
      split <;> split <;> split <;> constructor <;> intro _ <;> omega
theorem iX0_difference {a b c w u : Int32} {P : Int32 → Int32 → Prop} (ha : rO a w) (hb : rO b w) (hc : rC c) (h : P (fDifV a b c w) (fDifF u a b c w)) : wX0_difference a b c w u P := by
  refine iX0_signed (iX0_signed (iX0_settle (iX0_byAnswer ?_)))
  obtain ⟨h1, h2, h3⟩ := dif_cond ha hb hc
  rw [bI_congr (not_congr h1), bI_congr (not_congr h2), bI_congr ((not_congr h3).trans Decidable.not_not)]
  exact h
theorem iX0_compare {a b w u : Int32} {P : Int32 → Prop} (ha : rO a w) (hb : rO b w) (h : P (fDifF u a b 0 w)) : wX0_compare a b w u P := iX0_difference ha hb rC_0 h
-- ----- operations
theorem iX6_operation {o a b w : Int32} {u : SQ} {P : Int32 → SQ → Prop} (h : P (fOpV (q_flags u) o a b w) (qs_flags u (fOpF (q_flags u) o a b w))) : wX6_operation o a b w u P := by
  unfold wX6_operation
  unfold fOpV fOpF at h
  refine ⟨fun q => ?_, fun q => ?_⟩
  · rw [if_pos q, if_pos q] at h; exact iX6_sum h
  rw [if_neg q, if_neg q] at h; clear q
  refine ⟨fun q => ?_, fun q => ?_⟩
  · rw [if_pos q, if_pos q] at h; exact iX6_bits h
  rw [if_neg q, if_neg q] at h; clear q
  refine ⟨fun q => ?_, fun q => ?_⟩
  · rw [if_pos q, if_pos q] at h; exact iX6_sum h
  rw [if_neg q, if_neg q] at h; clear q
  refine ⟨fun q => ?_, fun q => ?_⟩
  · rw [if_pos q, if_pos q] at h; exact iX6_difference h
  rw [if_neg q, if_neg q] at h; clear q
  refine ⟨fun q => ?_, fun q => ?_⟩
  · rw [if_pos q, if_pos q] at h; exact iX6_bits h
  rw [if_neg q, if_neg q] at h; clear q
  refine ⟨fun q => ?_, fun q => ?_⟩
  · rw [if_pos q, if_pos q] at h; exact iX6_difference h
  rw [if_neg q, if_neg q] at h; clear q
  refine ⟨fun q => ?_, fun q => ?_⟩
  · rw [if_pos q, if_pos q] at h; exact iX6_bits h
  rw [if_neg q, if_neg q] at h; clear q
  refine ⟨fun q => ?_, fun q => ?_⟩
  · rw [if_pos q, if_pos q] at h; exact iX6_difference h
  rw [if_neg q, if_neg q] at h; clear q
  refine ⟨fun q => ?_, fun q => ?_⟩
  · rw [if_pos q, if_pos q] at h; exact iX6_bits h
  rw [if_neg q, if_neg q] at h; clear q
  refine ⟨fun q => ?_, fun q => ?_⟩
  · rw [if_pos q, if_pos q] at h
    exact iX6_sum (br_n (fun z => wX6_operation_b193 o a b w P _ z _) (iX6_mark h))
  rw [if_neg q, if_neg q] at h; clear q
  refine ⟨fun q => ?_, fun q => ?_⟩
  · rw [if_pos q, if_pos q] at h
    exact iX6_difference (br_n (fun z => wX6_operation_b222 o a b w P _ z _) (iX6_mark h))
  rw [if_neg q, if_neg q] at h; clear q
  refine ⟨fun q => ?_, fun q => ?_⟩
  · rw [if_pos q, if_pos q] at h; exact iX6_difference h
  rw [if_neg q, if_neg q] at h; clear q
  exact iX6_all h
/-- the class's operations but 9 and 10, which it does by another method -/
theorem not_all {a w : Int32} (ha : rO a w) : (a ^^^ (-1)) &&& fAll w = a ^^^ fAll w := by
  conv => rhs; rw [← andAll_id ha]
  apply Int32.toBitVec_inj.mp
  simp only [Int32.toBitVec_and, Int32.toBitVec_xor]
  apply BitVec.eq_of_getLsbD_eq
  intro i hi
  have e : (Int32.toBitVec (-1)).getLsbD i = true := by
    have : Int32.toBitVec (-1) = BitVec.allOnes 32 := by decide
    rw [this, BitVec.getLsbD_allOnes]; simpa using hi
  simp only [BitVec.getLsbD_and, BitVec.getLsbD_xor, e]
  cases a.toBitVec.getLsbD i <;> cases (fAll w).toBitVec.getLsbD i <;> rfl
theorem rO_zero (w : Int32) : rO 0 w := ⟨by decide, by split <;> decide⟩
theorem rO_one (w : Int32) : rO 1 w := ⟨by decide, by split <;> decide⟩
theorem iX0_operation {o a b w u : Int32} {P : Int32 → Int32 → Prop} (ha : rO a w) (hb : rO b w) (h9 : ¬ o = 9) (h10 : ¬ o = 10) (h : P (fOpV u o a b w) (fOpF u o a b w)) : wX0_operation o a b w u P := by
  unfold wX0_operation
  unfold fOpV fOpF at h
  rw [if_neg h9, if_neg h9, if_neg h10, if_neg h10] at h
  refine ⟨fun q => ?_, fun q => ?_⟩
  · rw [if_pos q, if_pos q] at h; exact iX0_sum ha hb rC_0 h
  rw [if_neg q, if_neg q] at h; clear q
  refine ⟨fun q => ?_, fun q => ?_⟩
  · rw [if_pos q, if_pos q] at h; exact iX0_bits h
  rw [if_neg q, if_neg q] at h; clear q
  refine ⟨fun q => ?_, fun q => ?_⟩
  · rw [if_pos q, if_pos q] at h; exact iX0_sum ha hb (rC_flag _) h
  rw [if_neg q, if_neg q] at h; clear q
  refine ⟨fun q => ?_, fun q => ?_⟩
  · rw [if_pos q, if_pos q] at h; exact iX0_difference ha hb (rC_flag _) h
  rw [if_neg q, if_neg q] at h; clear q
  refine ⟨fun q => ?_, fun q => ?_⟩
  · rw [if_pos q, if_pos q] at h; exact iX0_bits h
  rw [if_neg q, if_neg q] at h; clear q
  refine ⟨fun q => ?_, fun q => ?_⟩
  · rw [if_pos q, if_pos q] at h; exact iX0_difference ha hb rC_0 h
  rw [if_neg q, if_neg q] at h; clear q
  refine ⟨fun q => ?_, fun q => ?_⟩
  · rw [if_pos q, if_pos q] at h; exact iX0_bits h
  rw [if_neg q, if_neg q] at h; clear q
  refine ⟨fun q => ?_, fun q => ?_⟩
  · rw [if_pos q, if_pos q] at h; exact iX0_difference ha hb rC_0 h
  rw [if_neg q, if_neg q] at h; clear q
  refine ⟨fun q => ?_, fun q => ?_⟩
  · rw [if_pos q, if_pos q] at h; exact iX0_bits h
  rw [if_neg q, if_neg q] at h; clear q
  refine ⟨fun q => absurd q h9, fun _ => ⟨fun q => absurd q h10, fun _ => ⟨fun q => ?_, fun q => ?_⟩⟩⟩
  · rw [if_pos q, if_pos q] at h; exact iX0_difference (rO_zero w) ha rC_0 h
  · rw [if_neg q, if_neg q] at h
    refine iX0_mask ?_
    rw [not_all ha]
    exact h
/-- one more, one less: CARRY stays -/
theorem carry_back (f g : Int32) : (g &&& (-2)) ||| (f &&& 1) = fMark g 1 (bI (¬ f &&& 1 ≤ 0)) := by
  have hr : (f &&& 1).toInt = 0 ∨ (f &&& 1).toInt = 1 := by rw [ti_and1]; omega
  have e : g = nf (-1) 0 g := nf_id g
  rcases hr with q | q
  · have e0 : f &&& 1 = 0 := ti_ext q
    rw [e0, bI_f (by decide)]
    unfold fMark
    rw [if_pos rfl, e, nf_and, nf_and, nf_or]
    rfl
  · have e1 : f &&& 1 = 1 := ti_ext q
    rw [e1, bI_t (by decide)]
    unfold fMark
    rw [if_neg (by decide), e, nf_and, nf_or, nf_or]
    rfl
theorem iX0_byOne {a back w u : Int32} {P : Int32 → Int32 → Prop} (ha : rO a w) (h : P (fOpV u (if back = 0 then 9 else 10) a 0 w) (fOpF u (if back = 0 then 9 else 10) a 0 w)) : wX0_byOne a back w u P := by
  refine ⟨fun q => iX0_sum ha (rO_one w) rC_0 ?_, fun q => iX0_difference ha (rO_one w) rC_0 ?_⟩
  · rw [if_pos q] at h
    unfold wX0_byOne_b31
    rw [carry_back]
    exact h
  · rw [if_neg q] at h
    unfold wX0_byOne_b31
    rw [carry_back]
    exact h
