-- ===== the arithmetic of both sides as functions =====
def bI (c : Prop) [Decidable c] : Int32 := if c then 1 else 0
theorem bI_t {c : Prop} [Decidable c] (h : c) : bI c = 1 := if_pos h
theorem bI_f {c : Prop} [Decidable c] (h : ¬ c) : bI c = 0 := if_neg h
theorem bI_congr {c d : Prop} [Decidable c] [Decidable d] (h : c ↔ d) : bI c = bI d := by
  by_cases hc : c
  · rw [bI_t hc, bI_t (h.mp hc)]
  · rw [bI_f hc, bI_f (fun q => hc (h.mpr q))]
theorem bI_z {c : Prop} [Decidable c] : zB (bI c) := by
  by_cases hc : c
  · rw [bI_t hc]; exact zB_1
  · rw [bI_f hc]; exact zB_0
theorem bI_0 {c : Prop} [Decidable c] : bI c = 0 ↔ ¬ c := by
  by_cases hc : c
  · rw [bI_t hc]; exact ⟨fun q => absurd q (by decide), fun q => absurd hc q⟩
  · rw [bI_f hc]; exact ⟨fun _ => hc, fun _ => rfl⟩
/-- a branch that gives 1 or 0 -/
theorem br_p {c : Prop} [Decidable c] (B : Int32 → Prop) (h : B (bI c)) : (c → B 1) ∧ (¬ c → B 0) := ⟨fun q => by rw [bI_t q] at h; exact h, fun q => by rw [bI_f q] at h; exact h⟩
theorem br_n {c : Prop} [Decidable c] (B : Int32 → Prop) (h : B (bI (¬ c))) : (c → B 0) ∧ (¬ c → B 1) := ⟨fun q => by rw [bI_f (fun z => z q)] at h; exact h, fun q => by rw [bI_t q] at h; exact h⟩
def fAll (w : Int32) : Int32 := if w = 0 then 255 else 65535
def fTop (w : Int32) : Int32 := if w = 0 then 128 else 32768
def fSgn (v w : Int32) : Int32 := if v &&& fTop w = 0 then v else v - fAll w - 1
def fCut (v w : Int32) : Int32 := if w = 0 then v.toInt8.toInt32 else v.toInt16.toInt32
def fMark (f k on : Int32) : Int32 := if on = 0 then f &&& (k ^^^ (-1)) else f ||| k
def fOnes (v : Int32) : Int32 := (((((((0 + ((v >>> ((0 : Int32) &&& 31)) &&& 1)) + ((v >>> (((0 : Int32) + 1) &&& 31)) &&& 1)) + ((v >>> ((((0 : Int32) + 1) + 1) &&& 31)) &&& 1)) + ((v >>> (((((0 : Int32) + 1) + 1) + 1) &&& 31)) &&& 1)) + ((v >>> ((((((0 : Int32) + 1) + 1) + 1) + 1) &&& 31)) &&& 1)) + ((v >>> (((((((0 : Int32) + 1) + 1) + 1) + 1) + 1) &&& 31)) &&& 1)) + ((v >>> ((((((((0 : Int32) + 1) + 1) + 1) + 1) + 1) + 1) &&& 31)) &&& 1)) + ((v >>> (((((((((0 : Int32) + 1) + 1) + 1) + 1) + 1) + 1) + 1) &&& 31)) &&& 1)
def fPar (v : Int32) : Int32 := bI (fOnes v - fOnes v / 2 * 2 = 0)
def fBy (f v w : Int32) : Int32 := fMark (fMark (fMark f 64 (bI (v = 0))) 128 (bI (¬ v &&& fTop w = 0))) 4 (fPar v)
def fSumF (f a b c w : Int32) : Int32 := fBy (fMark (fMark (fMark f 1 (bI (¬ a + b + c ≤ fAll w))) 16 (bI (¬ (a &&& 15) + (b &&& 15) + c ≤ 15))) 2048 (bI (fSgn a w + fSgn b w + c < -(fTop w) ∨ ¬ fSgn a w + fSgn b w + c < fTop w))) (a + b + c &&& fAll w) w
def fSumV (a b c w : Int32) : Int32 := a + b + c &&& fAll w
def fDifF (f a b c w : Int32) : Int32 := fBy (fMark (fMark (fMark f 1 (bI (¬ 0 ≤ a - b - c))) 16 (bI (¬ 0 ≤ (a &&& 15) - (b &&& 15) - c))) 2048 (bI (fSgn a w - fSgn b w - c < -(fTop w) ∨ ¬ fSgn a w - fSgn b w - c < fTop w))) (a - b - c &&& fAll w) w
def fDifV (a b c w : Int32) : Int32 := a - b - c &&& fAll w
def fBitF (f v w : Int32) : Int32 := fBy (f &&& (-2066)) v w
-- ----- ranges
theorem ti_top (w : Int32) : (fTop w).toInt = if w = 0 then 128 else 32768 := by unfold fTop; split <;> rfl
theorem ti_all (w : Int32) : (fAll w).toInt = if w = 0 then 255 else 65535 := by unfold fAll; split <;> rfl
theorem ti_andAll (v w : Int32) : (v &&& fAll w).toInt = if w = 0 then v.toInt % 256 else v.toInt % 65536 := by
  unfold fAll; split
  · exact ti_and255 v
  · exact ti_and65535 v
theorem rO_andAll (v w : Int32) : rO (v &&& fAll w) w := by
  unfold rO; rw [ti_andAll]; split <;> omega
theorem andAll_id {v w : Int32} (h : rO v w) : v &&& fAll w = v := ti_ext (by
  rw [ti_andAll]; have h1 := h.1; have h2 := h.2
  by_cases hw : w = 0
  · rw [if_pos hw] at h2 ⊢; omega
  · rw [if_neg hw] at h2 ⊢; omega)
theorem and_two (x : Int32) (k : Nat) {m : Int32} (hk : k < 31) (hm : m.toBitVec = BitVec.twoPow 32 k) : x &&& m = 0 ↔ x.toBitVec.getLsbD k = false := by
  have e0 : (0 : Int32).toBitVec = 0#32 := rfl
  rw [← Int32.toBitVec_inj, Int32.toBitVec_and, hm, e0]
  constructor
  · intro h
    have h2 := congrArg (fun z => BitVec.getLsbD z k) h
    simp only [BitVec.getLsbD_and, BitVec.getLsbD_twoPow] at h2
    simpa [show k < 32 by omega] using h2
  · intro h
    apply BitVec.eq_of_getLsbD_eq
    intro i hi
    simp only [BitVec.getLsbD_and, BitVec.getLsbD_twoPow]
    by_cases e : k = i
    · subst e; simp [h]
    · simp [e]
theorem bit_of {x : Int32} (h : 0 ≤ x.toInt) (k : Nat) : x.toBitVec.getLsbD k = decide (x.toInt / (2 ^ k : Nat) % 2 = 1) := by
  have hn : x.toInt = (x.toBitVec.toNat : Int) := by have := ti_nat x; split at this <;> omega
  rw [BitVec.getLsbD, Nat.testBit_eq_decide_div_mod_eq, hn]
  congr 1
  apply propext
  constructor
  · intro q; exact_mod_cast q
  · intro q; exact_mod_cast q
theorem top_bit {v w : Int32} (h : rO v w) : v &&& fTop w = 0 ↔ v.toInt < (fTop w).toInt := by
  rw [ti_top]
  have h1 := h.1
  have h2 := h.2
  unfold fTop
  split at h2
  · rename_i hw
    rw [if_pos hw, if_pos hw, and_two v 7 (by omega) (by decide), bit_of h1]
    simp only [decide_eq_false_iff_not]
    constructor <;> intro q <;> omega
  · rename_i hw
    rw [if_neg hw, if_neg hw, and_two v 15 (by omega) (by decide), bit_of h1]
    simp only [decide_eq_false_iff_not]
    constructor <;> intro q <;> omega
theorem ti_sgn {v w : Int32} (h : rO v w) : (fSgn v w).toInt = if v.toInt < (fTop w).toInt then v.toInt else v.toInt - (fAll w).toInt - 1 := by
  have hb := top_bit h
  have h1 := h.1
  have h2 := h.2
  have ha := ti_all w
  unfold fSgn
  by_cases c : v &&& fTop w = 0
  · rw [if_pos c, if_pos (hb.mp c)]
  · rw [if_neg c, if_neg (fun q => c (hb.mpr q))]
    have e1 : (v - fAll w).toInt = v.toInt - (fAll w).toInt := ti_sub (by rw [ha]; split <;> omega) (by rw [ha]; split <;> omega)
    have o : (1 : Int32).toInt = 1 := rfl
    rw [ti_sub (by rw [e1, ha, o]; split <;> omega) (by rw [e1, ha, o]; split <;> omega), e1, o]
theorem cut_sgn {v w : Int32} (h : rO v w) : fCut v w = fSgn v w := ti_ext (by
  rw [ti_sgn h, ti_top, ti_all]
  have h1 := h.1
  have h2 := h.2
  unfold fCut
  split
  · rename_i hw
    rw [if_pos hw] at h2
    rw [ti_i8, bm_8]; split <;> split <;> omega
  · rename_i hw
    rw [if_neg hw] at h2
    rw [ti_i16, bm_16]; split <;> split <;> omega)
def fOpF (f o a b w : Int32) : Int32 := if o = 0 then fSumF f a b 0 w else if o = 1 then fBitF f (a ||| b) w else if o = 2 then fSumF f a b (f &&& 1) w else if o = 3 then fDifF f a b (f &&& 1) w else if o = 4 then fBitF f (a &&& b) w else if o = 5 then fDifF f a b 0 w else if o = 6 then fBitF f (a ^^^ b) w else if o = 7 then fDifF f a b 0 w else if o = 8 then fBitF f (a &&& b) w else if o = 9 then fMark (fSumF f a 1 0 w) 1 (bI (¬ f &&& 1 ≤ 0)) else if o = 10 then fMark (fDifF f a 1 0 w) 1 (bI (¬ f &&& 1 ≤ 0)) else if o = 11 then fDifF f 0 a 0 w else f
def fOpV (f o a b w : Int32) : Int32 := if o = 0 then fSumV a b 0 w else if o = 1 then a ||| b else if o = 2 then fSumV a b (f &&& 1) w else if o = 3 then fDifV a b (f &&& 1) w else if o = 4 then a &&& b else if o = 5 then fDifV a b 0 w else if o = 6 then a ^^^ b else if o = 7 then a else if o = 8 then a else if o = 9 then fSumV a 1 0 w else if o = 10 then fDifV a 1 0 w else if o = 11 then fDifV 0 a 0 w else a ^^^ fAll w
