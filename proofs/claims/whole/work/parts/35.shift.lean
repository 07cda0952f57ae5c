-- ===== shifts =====
def fHi (a w : Int32) : Int32 := bI (¬ a &&& fTop w = 0)
def fLeft (k : Int32) : Prop := k = 0 ∨ k = 2 ∨ k = 4 ∨ k = 6
def fOut (k a w : Int32) : Int32 := if k &&& 1 = 0 then fHi a w else a &&& 1
def fIn (f k a w : Int32) : Int32 := if 2 ≤ k then (if 4 ≤ k then (if k = 7 then fHi a w else 0) else f &&& 1) else fOut k a w
def fShV (f k a w : Int32) : Int32 := if k &&& 1 = 0 then 2 * a + fIn f k a w &&& fAll w else a / 2 + fIn f k a w * fTop w
def fShO (f k a w : Int32) : Int32 := if k &&& 1 = 0 then bI (¬ fHi (fShV f k a w) w = fOut k a w) else if k = 1 then bI (¬ fHi (fShV f k a w) w = bI (¬ fShV f k a w &&& fTop w / 2 = 0)) else if k = 3 then bI (¬ fHi (fShV f k a w) w = bI (¬ fShV f k a w &&& fTop w / 2 = 0)) else if k = 5 then fHi a w else 0
def fShF (f k a w : Int32) : Int32 := if k ≤ 3 then fMark (fMark f 1 (fOut k a w)) 2048 (fShO f k a w) else fBy (fMark (fMark f 1 (fOut k a w)) 2048 (fShO f k a w)) (fShV f k a w) w
theorem top_ne (w : Int32) : ¬ fTop w = 0 := by unfold fTop; split <;> decide
theorem ti_div {x y : Int32} (hy : ¬ y.toInt = -1) : (x / y).toInt = x.toInt.tdiv y.toInt := by
  rw [Int32.toInt_div]
  by_cases h0 : y.toInt = 0
  · rw [h0, Int.tdiv_zero]; rfl
  · refine bm_32 ?_ ?_
    · have := ti_lo x
      have := ti_hi x
      have h : (x.toInt.tdiv y.toInt).natAbs = x.toInt.natAbs / y.toInt.natAbs := Int.natAbs_tdiv x.toInt y.toInt
      have h2 : x.toInt.natAbs / y.toInt.natAbs ≤ x.toInt.natAbs := Nat.div_le_self _ _
      omega
    · have := ti_lo x
      have := ti_hi x
      have h : (x.toInt.tdiv y.toInt).natAbs = x.toInt.natAbs / y.toInt.natAbs := Int.natAbs_tdiv x.toInt y.toInt
      have h2 : x.toInt.natAbs / y.toInt.natAbs ≤ x.toInt.natAbs / 2 ∨ y.toInt.natAbs = 1 := by
        rcases (show y.toInt.natAbs = 1 ∨ 2 ≤ y.toInt.natAbs by omega) with c | c
        · exact Or.inr c
        · exact Or.inl (Nat.div_le_div_left c (by omega))
      rcases h2 with c | c
      · omega
      · have hy1 : y.toInt = 1 := by omega
        rw [hy1, Int.tdiv_one]; omega
theorem ti_div_pos {x y : Int32} (hx : 0 ≤ x.toInt) (hy : 0 < y.toInt) : (x / y).toInt = x.toInt / y.toInt := by
  rw [ti_div (by omega), Int.tdiv_eq_ediv_of_nonneg hx]
theorem hi_div {a w : Int32} (h : rO a w) : a / fTop w = fHi a w := by
  have hb := top_bit h
  have hT := ti_top w
  have h1 := h.1
  have h2 := h.2
  have e := ti_div_pos h1 (show 0 < (fTop w).toInt by rw [hT]; split <;> omega)
  unfold fHi
  by_cases c : a &&& fTop w = 0
  · rw [bI_f (fun z => z c)]
    apply ti_ext
    have c2 := hb.mp c
    rw [e]
    show a.toInt / (fTop w).toInt = 0
    exact Int.ediv_eq_zero_of_lt h1 c2
  · rw [bI_t c]
    apply ti_ext
    have c2 : ¬ a.toInt < (fTop w).toInt := fun z => c (hb.mpr z)
    rw [e]
    show a.toInt / (fTop w).toInt = 1
    rw [hT] at c2 ⊢
    split at h2 <;> (rename_i hw; simp only [hw, if_true, if_false] at *; omega)
theorem rC_hi (a w : Int32) : fHi a w = 0 ∨ fHi a w = 1 := by
  unfold fHi
  by_cases c : a &&& fTop w = 0
  · exact Or.inl (bI_f (fun z => z c))
  · exact Or.inr (bI_t c)
theorem rC_and1 (a : Int32) : a &&& 1 = 0 ∨ a &&& 1 = 1 := by
  have h : (a &&& 1).toInt = 0 ∨ (a &&& 1).toInt = 1 := by rw [ti_and1]; omega
  rcases h with h | h
  · exact Or.inl (ti_ext h)
  · exact Or.inr (ti_ext h)
theorem rC_out (k a w : Int32) : fOut k a w = 0 ∨ fOut k a w = 1 := by
  unfold fOut; split
  · exact rC_hi a w
  · exact rC_and1 a
theorem rC_in (f k a w : Int32) : fIn f k a w = 0 ∨ fIn f k a w = 1 := by
  unfold fIn
  repeat' split
  · exact rC_hi a w
  · exact Or.inl rfl
  · exact rC_and1 f
  · exact rC_out k a w
theorem rO_shV {f k a w : Int32} (h : rO a w) : rO (fShV f k a w) w := by
  unfold fShV
  split
  · exact rO_andAll _ w
  · have h1 := h.1
    have h2 := h.2
    have hT := ti_top w
    have two : (2 : Int32).toInt = 2 := rfl
    have e1 : (a / 2).toInt = a.toInt / 2 := ti_div_pos h1 (by decide)
    have e2 : (fIn f k a w * fTop w).toInt = 0 ∨ (fIn f k a w * fTop w).toInt = (fTop w).toInt := by
      rcases rC_in f k a w with c | c
      · rw [c]; left; rw [ti_mul (by rw [show (0 : Int32).toInt = 0 from rfl]; omega) (by rw [show (0 : Int32).toInt = 0 from rfl]; omega), show (0 : Int32).toInt = 0 from rfl, Int.zero_mul]
      · rw [c]; right; rw [Int32.one_mul]
    refine ⟨?_, ?_⟩
    · rw [ti_add (by rw [e1]; split at hT <;> omega) (by rw [e1]; split at hT <;> split at h2 <;> omega), e1]
      split at hT <;> omega
    · rw [ti_add (by rw [e1]; split at hT <;> omega) (by rw [e1]; split at hT <;> split at h2 <;> omega), e1]
      split at h2 <;> (rename_i hw; simp only [hw, if_true, if_false] at *; omega)
/-- the reference's one shift -/
theorem iX6_shift {k a w : Int32} {u : SQ} {P : Int32 → SQ → Prop} (hk : r7 k) (ha : rO a w) (h : P (fShV (q_flags u) k a w) (qs_flags u (fShF (q_flags u) k a w))) : wX6_shift k a w u P := by
  have hv := rO_shV (f := q_flags u) (k := k) ha
  have two : ¬ (2 : Int32) = 0 := by decide
  -- from the overflow on
  have fin : ∀ z : Int32, z = fShO (q_flags u) k a w → wX6_shift_b253 k a w P (fShV (q_flags u) k a w) z (qs_flags u (fMark (q_flags u) 1 (fOut k a w))) := by
    rintro z rfl
    refine iX6_mark ⟨fun c => ?_, fun c => iX6_byAnswer ?_⟩
    · rw [fShF, if_pos c] at h; exact h
    · rw [fShF, if_neg c] at h; exact h
  -- from the value on
  have val : ∀ s : Int32, s = (if k &&& 1 = 0 then 1 else 0) → ∀ z : Int32, z = fShV (q_flags u) k a w → wX6_shift_b126 k a w P (fTop w) s (fOut k a w) z u := by
    rintro s rfl z rfl
    have e1 : bI (fOut k a w = 1) = fOut k a w := by
      rcases rC_out k a w with c | c <;> rw [c] <;> decide
    refine br_p (fun z => wX6_shift_b141 k a w P (fTop w) _ (fOut k a w) (fShV (q_flags u) k a w) z u) ?_
    rw [e1]
    refine iX6_mark ⟨top_ne w, ?_⟩
    rw [hi_div hv]
    have e2 : bI (fHi (fShV (q_flags u) k a w) w = 1) = fHi (fShV (q_flags u) k a w) w := by
      rcases rC_hi (fShV (q_flags u) k a w) w with c | c <;> rw [c] <;> decide
    refine br_p (fun z => wX6_shift_b158 k a w P (fTop w) _ (fOut k a w) (fShV (q_flags u) k a w) z _) ?_
    rw [e2]
    refine ⟨two, ?_⟩
    refine br_n (c := fShV (q_flags u) k a w &&& fTop w / 2 = 0) (fun z => wX6_shift_b175 k a w P (fTop w) (if k &&& 1 = 0 then 1 else 0) (fOut k a w) (fShV (q_flags u) k a w) (fHi (fShV (q_flags u) k a w) w) z (qs_flags u (fMark (q_flags u) 1 (fOut k a w)))) ?_
    unfold wX6_shift_b175
    by_cases hl : k &&& 1 = 0
    · rw [if_pos hl]
      refine ⟨fun c => absurd c (by decide), fun _ => ?_⟩
      have e3 : ∀ z : Int32, z = fOut k a w → wX6_shift_b199 k a w P (fShV (q_flags u) k a w) (fHi (fShV (q_flags u) k a w) w) z (qs_flags u (fMark (q_flags u) 1 (fOut k a w))) := by
        rintro z rfl
        refine br_n (fun z => wX6_shift_b253 k a w P (fShV (q_flags u) k a w) z _) (fin _ ?_)
        rw [fShO, if_pos hl]
      refine ⟨fun c => e3 1 c.symm, fun c => e3 0 ?_⟩
      rcases rC_out k a w with d | d
      · exact d.symm
      · exact absurd d c
    · rw [if_neg hl]
      refine ⟨fun _ => ⟨fun c => ?_, fun c => ⟨fun c2 => ?_, fun c2 => ⟨fun c3 => ⟨top_ne w, ?_⟩, fun c3 => fin 0 ?_⟩⟩⟩, fun c => absurd rfl c⟩
      · refine br_n (fun z => wX6_shift_b253 k a w P (fShV (q_flags u) k a w) z _) (fin _ ?_)
        rw [fShO, if_neg hl, if_pos c]
      · refine br_n (fun z => wX6_shift_b253 k a w P (fShV (q_flags u) k a w) z _) (fin _ ?_)
        rw [fShO, if_neg hl, if_neg c, if_pos c2]
      · rw [hi_div ha]
        refine ⟨fun d => fin 1 ?_, fun d => fin 0 ?_⟩
        · rw [fShO, if_neg hl, if_neg c, if_neg c2, if_pos c3, d]
        · rw [fShO, if_neg hl, if_neg c, if_neg c2, if_pos c3]
          rcases rC_hi a w with e | e
          · exact e.symm
          · exact absurd e d
      · rw [fShO, if_neg hl, if_neg c, if_neg c2, if_neg c3]
  -- from what comes in on
  have inn : ∀ s : Int32, s = (if k &&& 1 = 0 then 1 else 0) → ∀ z : Int32, z = fIn (q_flags u) k a w → wX6_shift_b98 k a w P (fTop w) (fAll w) s (fOut k a w) z u := by
    rintro s rfl z rfl
    refine ⟨fun c => ⟨two, val _ rfl _ ?_⟩, fun c => val _ rfl _ ?_⟩
    · by_cases hl : k &&& 1 = 0
      · rw [if_pos hl] at c; exact absurd c (by decide)
      · rw [fShV, if_neg hl]
    · by_cases hl : k &&& 1 = 0
      · rw [fShV, if_pos hl]
      · rw [if_neg hl] at c; exact absurd rfl c
  have out : ∀ s : Int32, s = (if k &&& 1 = 0 then 1 else 0) → ∀ z : Int32, z = fOut k a w → wX6_shift_b54 k a w P (fTop w) (fAll w) s z u := by
    rintro s rfl z rfl
    refine ⟨fun c => ⟨fun c2 => ⟨fun c3 => ⟨top_ne w, inn _ rfl _ ?_⟩, fun c3 => inn _ rfl _ ?_⟩, fun c2 => inn _ rfl _ ?_⟩, fun c => inn _ rfl _ ?_⟩
    · rw [fIn, if_pos c, if_pos c2, if_pos c3, hi_div ha]
    · rw [fIn, if_pos c, if_pos c2, if_neg c3]
    · rw [fIn, if_pos c, if_neg c2]
    · rw [fIn, if_neg c]
  have beg : ∀ s : Int32, s = (if k &&& 1 = 0 then 1 else 0) → wX6_shift_b37 k a w P (fTop w) (fAll w) s u := by
    rintro s rfl
    refine ⟨fun c => out _ rfl _ ?_, fun c => ⟨top_ne w, out _ rfl _ ?_⟩⟩
    · by_cases hl : k &&& 1 = 0
      · rw [if_pos hl] at c; exact absurd c (by decide)
      · rw [fOut, if_neg hl]
    · by_cases hl : k &&& 1 = 0
      · rw [fOut, if_pos hl, hi_div ha]
      · rw [if_neg hl] at c; exact absurd rfl c
  unfold wX6_shift
  refine iX6_top (iX6_all ?_)
  rcases in8 hk.1 hk.2 with rfl | rfl | rfl | rfl | rfl | rfl | rfl | rfl
  · exact ⟨fun _ => beg 1 (by decide), fun c => absurd rfl c⟩
  · exact ⟨fun c => absurd c (by decide), fun _ => ⟨fun c => absurd c (by decide), fun _ => ⟨fun c => absurd c (by decide), fun _ => ⟨fun c => absurd c (by decide), fun _ => beg 0 (by decide)⟩⟩⟩⟩
  · exact ⟨fun c => absurd c (by decide), fun _ => ⟨fun _ => beg 1 (by decide), fun c => absurd rfl c⟩⟩
  · exact ⟨fun c => absurd c (by decide), fun _ => ⟨fun c => absurd c (by decide), fun _ => ⟨fun c => absurd c (by decide), fun _ => ⟨fun c => absurd c (by decide), fun _ => beg 0 (by decide)⟩⟩⟩⟩
  · exact ⟨fun c => absurd c (by decide), fun _ => ⟨fun c => absurd c (by decide), fun _ => ⟨fun _ => beg 1 (by decide), fun c => absurd rfl c⟩⟩⟩
  · exact ⟨fun c => absurd c (by decide), fun _ => ⟨fun c => absurd c (by decide), fun _ => ⟨fun c => absurd c (by decide), fun _ => ⟨fun c => absurd c (by decide), fun _ => beg 0 (by decide)⟩⟩⟩⟩
  · exact ⟨fun c => absurd c (by decide), fun _ => ⟨fun c => absurd c (by decide), fun _ => ⟨fun c => absurd c (by decide), fun _ => ⟨fun _ => beg 1 (by decide), fun c => absurd rfl c⟩⟩⟩⟩
  · exact ⟨fun c => absurd c (by decide), fun _ => ⟨fun c => absurd c (by decide), fun _ => ⟨fun c => absurd c (by decide), fun _ => ⟨fun c => absurd c (by decide), fun _ => beg 0 (by decide)⟩⟩⟩⟩
theorem or_zero (x : Int32) : x ||| 0 = x := by
  apply Int32.toBitVec_inj.mp; simp
theorem ti_of_nat {x : Int32} {n : Nat} (h : x.toBitVec.toNat = n) (hn : n < 2147483648) : x.toInt = (n : Int) := by
  have l := ti_lo x
  have := ti_nat x; rw [h] at this; split at this <;> omega
theorem nat_of_ti {x : Int32} (h : 0 ≤ x.toInt) : (x.toBitVec.toNat : Int) = x.toInt := by
  have := ti_nat x; split at this <;> omega
theorem or_one {x : Int32} (h0 : 0 ≤ x.toInt) (h1 : x.toInt ≤ 65535) (h2 : x.toInt % 2 = 0) : (x ||| 1).toInt = x.toInt + 1 := by
  have n := nat_of_ti h0
  have e : (x ||| 1).toBitVec.toNat = x.toBitVec.toNat + 1 := by
    rw [Int32.toBitVec_or, BitVec.toNat_or]
    have h := Nat.shiftLeft_add_eq_or_of_lt (b := 1) (i := 1) (by omega) (x.toBitVec.toNat / 2)
    rw [Nat.shiftLeft_eq] at h
    have k : (Int32.toBitVec 1).toNat = 1 := rfl
    rw [k]
    have : x.toBitVec.toNat / 2 * 2 ^ 1 = x.toBitVec.toNat := by omega
    rw [this] at h
    omega
  rw [ti_of_nat e (by omega)]; omega
theorem or_top {x w : Int32} (h0 : 0 ≤ x.toInt) (h1 : x.toInt < (fTop w).toInt) : (x ||| fTop w).toInt = x.toInt + (fTop w).toInt := by
  have n := nat_of_ti h0
  have hT := ti_top w
  have e : (x ||| fTop w).toBitVec.toNat = x.toBitVec.toNat + (fTop w).toBitVec.toNat := by
    rw [Int32.toBitVec_or, BitVec.toNat_or, Nat.or_comm]
    unfold fTop at hT h1 ⊢
    split
    · rename_i hw
      rw [if_pos hw] at h1 hT
      have h := Nat.shiftLeft_add_eq_or_of_lt (b := x.toBitVec.toNat) (i := 7) (by rw [hT, if_pos hw] at h1; omega) 1
      rw [Nat.shiftLeft_eq, show 1 * 2 ^ 7 = 128 from rfl] at h
      have k : (Int32.toBitVec 128).toNat = 128 := rfl
      rw [k]; omega
    · rename_i hw
      rw [if_neg hw] at h1 hT
      have h := Nat.shiftLeft_add_eq_or_of_lt (b := x.toBitVec.toNat) (i := 15) (by rw [hT, if_neg hw] at h1; omega) 1
      rw [Nat.shiftLeft_eq, show 1 * 2 ^ 15 = 32768 from rfl] at h
      have k : (Int32.toBitVec 32768).toNat = 32768 := rfl
      rw [k]; omega
  have n2 := nat_of_ti (x := fTop w) (by rw [hT]; split <;> omega)
  rw [ti_of_nat e (by rw [hT] at h1 n2; split at h1 <;> omega)]; omega
theorem ti_shl1 {a : Int32} (h0 : 0 ≤ a.toInt) (h1 : a.toInt ≤ 65535) : (a <<< ((1 : Int32) &&& 31)).toInt = 2 * a.toInt := by
  have n := nat_of_ti h0
  rw [ti_of_nat (pk_shl a _ 1 rfl) (by omega)]; omega
theorem shv_l {a w i : Int32} (ha : rO a w) (hi : i = 0 ∨ i = 1) : ((a <<< ((1 : Int32) &&& 31)) &&& fAll w) ||| (if i = 0 then 0 else 1) = 2 * a + i &&& fAll w := by
  have aw := rO_W ha
  have h1 := ha.1
  have h2 := ha.2
  have e2 : (2 * a).toInt = 2 * a.toInt := by
    rw [ti_mul (by rw [show (2 : Int32).toInt = 2 from rfl]; have := aw.2; omega) (by rw [show (2 : Int32).toInt = 2 from rfl]; have := aw.2; omega)]; rfl
  have e1 := ti_shl1 aw.1 aw.2
  have es : a <<< ((1 : Int32) &&& 31) = 2 * a := ti_ext (by rw [e1, e2])
  rw [es]
  rcases hi with rfl | rfl
  · rw [if_pos rfl, or_zero, Int32.add_zero]
  · rw [if_neg (by decide)]
    have e3 : (2 * a + 1).toInt = 2 * a.toInt + 1 := by
      rw [ti_add (by rw [e2, show (1 : Int32).toInt = 1 from rfl]; omega) (by rw [e2, show (1 : Int32).toInt = 1 from rfl]; have := aw.2; omega), e2]; rfl
    have em := ti_andAll (2 * a) w
    apply ti_ext
    rw [or_one (rO_andAll _ w).1 (rO_W (rO_andAll _ w)).2 (by rw [em, e2]; split <;> omega), em, ti_andAll, e2, e3]
    split <;> omega
theorem shv_r {a w i : Int32} (ha : rO a w) (hi : i = 0 ∨ i = 1) : (a >>> ((1 : Int32) &&& 31)) ||| (if i = 0 then 0 else fTop w) = a / 2 + i * fTop w := by
  have h1 := ha.1
  have h2 := ha.2
  have hT := ti_top w
  have es : a >>> ((1 : Int32) &&& 31) = a / 2 := ti_ext (by rw [ti_shr1, ti_div_pos h1 (by decide)]; rfl)
  have e1 : (a / 2).toInt = a.toInt / 2 := by rw [ti_div_pos h1 (by decide)]; rfl
  rw [es]
  rcases hi with rfl | rfl
  · rw [if_pos rfl, or_zero, Int32.zero_mul, Int32.add_zero]
  · rw [if_neg (by decide), Int32.one_mul]
    apply ti_ext
    rw [or_top (by rw [e1]; omega) (by rw [e1, hT]; split at h2 <;> (rename_i hw; simp only [hw, if_true, if_false] at *; omega)), ti_add (by rw [e1, hT]; split <;> omega) (by rw [e1, hT]; split at h2 <;> split <;> omega)]
theorem bit_shl (v : Int32) (k : Nat) (hk : k < 31) : (v <<< ((1 : Int32) &&& 31)).toBitVec.getLsbD (k + 1) = v.toBitVec.getLsbD k := by
  rw [BitVec.getLsbD, BitVec.getLsbD, pk_shl v _ 1 rfl, Nat.testBit_mod_two_pow]
  have : (k + 1 < 32) := by omega
  simp only [this, decide_true, Bool.true_and]
  have h : v.toBitVec.toNat * 2 ^ 1 = v.toBitVec.toNat <<< 1 := by rw [Nat.shiftLeft_eq]
  rw [h, Nat.testBit_shiftLeft]
  simp
theorem ov_c {v w : Int32} (hv : rO v w) : ((v ^^^ v <<< ((1 : Int32) &&& 31)) &&& fTop w = 0) ↔ fHi v w = bI (¬ v &&& fTop w / 2 = 0) := by
  have key : ∀ (k : Nat) (T U : Int32), k < 30 → T.toBitVec = BitVec.twoPow 32 (k + 1) → U.toBitVec = BitVec.twoPow 32 k → (((v ^^^ v <<< ((1 : Int32) &&& 31)) &&& T = 0) ↔ bI (¬ v &&& T = 0) = bI (¬ v &&& U = 0)) := by
    intro k T U hk hT hU
    have a1 := and_two v (k + 1) (by omega) hT
    have a2 := and_two v k (by omega) hU
    rw [and_two (v ^^^ v <<< ((1 : Int32) &&& 31)) (k + 1) (by omega) hT, Int32.toBitVec_xor, BitVec.getLsbD_xor, bit_shl v k (by omega)]
    rw [bI_congr (not_congr a1), bI_congr (not_congr a2)]
    cases v.toBitVec.getLsbD (k + 1) <;> cases v.toBitVec.getLsbD k <;> simp [bI]
  unfold fHi fTop
  by_cases hw : w = 0
  · rw [if_pos hw]; exact key 6 128 (128 / 2) (by omega) (by decide) (by decide)
  · rw [if_neg hw]; exact key 14 32768 (32768 / 2) (by omega) (by decide) (by decide)
theorem mark1_has (u z : Int32) (hz : z = 0 ∨ z = 1) : bI (¬ fMark u 1 z &&& 1 = 0) = z := by
  have e : u = nf (-1) 0 u := nf_id u
  rcases hz with rfl | rfl
  · refine bI_f (fun q => q ?_)
    rw [fMark, if_pos rfl, e, nf_and, nf_and]
    unfold nf
    apply Int32.toBitVec_inj.mp
    simp
  · refine bI_t (fun q => ?_)
    rw [fMark, if_neg (by decide), e, nf_or, nf_and] at q
    unfold nf at q
    have h2 := congrArg (fun z => (Int32.toBitVec z).getLsbD 0) q
    simp at h2
theorem out_c (k a w : Int32) : bI (¬ a &&& (if k &&& 1 = 0 then fTop w else 1) = 0) = fOut k a w := by
  unfold fOut
  split
  · rfl
  · rcases rC_and1 a with h | h
    · rw [h]; exact bI_f (fun z => z rfl)
    · rw [h]; exact bI_t (by decide)
theorem iX0_comesIn {k a w u : Int32} {P : Int32 → Int32 → Prop} (hk : r7 k) (h : P (fIn u k a w) u) : wX0_comesIn k (fOut k a w) (fHi a w) u P := by
  have zo : zB (fOut k a w) := rC_out k a w
  have zh : zB (fHi a w) := rC_hi a w
  have zu : zB (u &&& 1) := rC_and1 u
  have eu : bI (¬ u &&& 1 = 0) = u &&& 1 := by
    rcases rC_and1 u with c | c <;> rw [c] <;> decide
  have b50 : P (u &&& 1) u → wX0_comesIn_b50 k (fOut k a w) (fHi a w) P u := fun h => iX0_has (by rw [eu]; exact ⟨zu, h⟩)
  unfold wX0_comesIn
  rcases in8 hk.1 hk.2 with rfl | rfl | rfl | rfl | rfl | rfl | rfl | rfl
  · exact ⟨fun _ => ⟨zo, h⟩, fun c => absurd rfl c⟩
  · exact ⟨fun c => absurd c (by decide), fun _ => ⟨fun _ => ⟨zo, h⟩, fun c => absurd rfl c⟩⟩
  · exact ⟨fun c => absurd c (by decide), fun _ => ⟨fun c => absurd c (by decide), fun _ => ⟨fun _ => b50 h, fun c => absurd rfl c⟩⟩⟩
  · exact ⟨fun c => absurd c (by decide), fun _ => ⟨fun c => absurd c (by decide), fun _ => ⟨fun c => absurd c (by decide), fun _ => ⟨fun _ => b50 h, fun c => absurd rfl c⟩⟩⟩⟩
  · exact ⟨fun c => absurd c (by decide), fun _ => ⟨fun c => absurd c (by decide), fun _ => ⟨fun c => absurd c (by decide), fun _ => ⟨fun c => absurd c (by decide), fun _ => ⟨fun _ => h, fun c => absurd rfl c⟩⟩⟩⟩⟩
  · exact ⟨fun c => absurd c (by decide), fun _ => ⟨fun c => absurd c (by decide), fun _ => ⟨fun c => absurd c (by decide), fun _ => ⟨fun c => absurd c (by decide), fun _ => ⟨fun c => absurd c (by decide), fun _ => ⟨fun _ => h, fun c => absurd rfl c⟩⟩⟩⟩⟩⟩
  · exact ⟨fun c => absurd c (by decide), fun _ => ⟨fun c => absurd c (by decide), fun _ => ⟨fun c => absurd c (by decide), fun _ => ⟨fun c => absurd c (by decide), fun _ => ⟨fun c => absurd c (by decide), fun _ => ⟨fun c => absurd c (by decide), fun _ => ⟨fun _ => h, fun c => absurd rfl c⟩⟩⟩⟩⟩⟩⟩
  · exact ⟨fun c => absurd c (by decide), fun _ => ⟨fun c => absurd c (by decide), fun _ => ⟨fun c => absurd c (by decide), fun _ => ⟨fun c => absurd c (by decide), fun _ => ⟨fun c => absurd c (by decide), fun _ => ⟨fun c => absurd c (by decide), fun _ => ⟨fun c => absurd c (by decide), fun _ => ⟨fun _ => ⟨zh, h⟩, fun c => absurd rfl c⟩⟩⟩⟩⟩⟩⟩⟩
theorem iX0_shiftOverflows {k a w u f : Int32} {P : Int32 → Int32 → Prop} (hk : r7 k) (ha : rO a w) (hu : u = fMark f 1 (fOut k a w)) (h : P (fShO f k a w) u) : wX0_shiftOverflows k a (fShV f k a w) (fTop w) u P := by
  have hv := rO_shV (f := f) (k := k) ha
  have b76 : k &&& 1 = 0 → wX0_shiftOverflows_b76 k a (fShV f k a w) (fTop w) P u := by
    intro hl
    refine iX0_has ?_
    rw [hu, mark1_has f _ (rC_out k a w), ← hu]
    refine br_n (fun z => wX0_shiftOverflows_b93 k a (fShV f k a w) (fTop w) P (fOut k a w) z u) ?_
    refine br_n (fun z => P z u) ?_
    rw [fShO, if_pos hl] at h
    rw [bI_congr (show ¬ fOut k a w = bI (¬ fShV f k a w &&& fTop w = 0) ↔ ¬ fHi (fShV f k a w) w = fOut k a w from ⟨fun q z => q z.symm, fun q z => q z.symm⟩)]
    exact h
  have b44 : ¬ k &&& 1 = 0 → (k = 1 ∨ k = 3) → wX0_shiftOverflows_b44 k a (fShV f k a w) (fTop w) P u := by
    intro hl hk2
    refine br_n (fun z => P z u) ?_
    rw [bI_congr (not_congr (ov_c hv))]
    rw [fShO, if_neg hl] at h
    rcases hk2 with c | c
    · rw [if_pos c] at h; exact h
    · rw [if_neg (by rw [c]; decide), if_pos c] at h; exact h
  unfold wX0_shiftOverflows
  rcases in8 hk.1 hk.2 with rfl | rfl | rfl | rfl | rfl | rfl | rfl | rfl
  · exact ⟨fun c => absurd c (by decide), fun _ => ⟨fun c => absurd c (by decide), fun _ => ⟨fun c => absurd c (by decide), fun _ => ⟨fun c => absurd c (by decide), fun _ => ⟨fun c => absurd c (by decide), fun _ => ⟨fun c => absurd c (by decide), fun _ => ⟨fun c => absurd c (by decide), fun _ => b76 (by decide)⟩⟩⟩⟩⟩⟩⟩
  · exact ⟨fun _ => b44 (by decide) (Or.inl rfl), fun c => absurd rfl c⟩
  · exact ⟨fun c => absurd c (by decide), fun _ => ⟨fun _ => b76 (by decide), fun c => absurd rfl c⟩⟩
  · exact ⟨fun c => absurd c (by decide), fun _ => ⟨fun c => absurd c (by decide), fun _ => ⟨fun _ => b44 (by decide) (Or.inr rfl), fun c => absurd rfl c⟩⟩⟩
  · exact ⟨fun c => absurd c (by decide), fun _ => ⟨fun c => absurd c (by decide), fun _ => ⟨fun c => absurd c (by decide), fun _ => ⟨fun _ => b76 (by decide), fun c => absurd rfl c⟩⟩⟩⟩
  · exact ⟨fun c => absurd c (by decide), fun _ => ⟨fun c => absurd c (by decide), fun _ => ⟨fun c => absurd c (by decide), fun _ => ⟨fun c => absurd c (by decide), fun _ => ⟨fun _ => br_n (fun z => P z u) h, fun c => absurd rfl c⟩⟩⟩⟩⟩
  · exact ⟨fun c => absurd c (by decide), fun _ => ⟨fun c => absurd c (by decide), fun _ => ⟨fun c => absurd c (by decide), fun _ => ⟨fun c => absurd c (by decide), fun _ => ⟨fun c => absurd c (by decide), fun _ => ⟨fun _ => b76 (by decide), fun c => absurd rfl c⟩⟩⟩⟩⟩⟩
  · exact ⟨fun c => absurd c (by decide), fun _ => ⟨fun c => absurd c (by decide), fun _ => ⟨fun c => absurd c (by decide), fun _ => ⟨fun c => absurd c (by decide), fun _ => ⟨fun c => absurd c (by decide), fun _ => ⟨fun c => absurd c (by decide), fun _ => ⟨fun _ => h, fun c => absurd rfl c⟩⟩⟩⟩⟩⟩⟩
theorem iX0_shiftOnce {k a w u : Int32} {P : Int32 → Int32 → Prop} (hk : r7 k) (ha : rO a w) (h : P (fShV u k a w) (fShF u k a w)) : wX0_shiftOnce k a w u P := by
  have b105 : wX0_shiftOnce_b105 k a w P (fTop w) (fOut k a w) (fShV u k a w) u := by
    refine iX0_mark (iX0_shiftOverflows (f := u) hk ha rfl (iX0_mark ⟨fun c => ?_, fun c => iX0_byAnswer ?_⟩))
    · rw [fShF, if_pos (by rw [ti_lt] at c; rw [ti_le]; have e4 : (4 : Int32).toInt = 4 := rfl; have e3 : (3 : Int32).toInt = 3 := rfl; omega)] at h; exact h
    · rw [fShF, if_neg (by rw [ti_lt] at c; rw [ti_le]; have e4 : (4 : Int32).toInt = 4 := rfl; have e3 : (3 : Int32).toInt = 3 := rfl; omega)] at h; exact h
  have b58 : ∀ s : Int32, s = (if k &&& 1 = 0 then 1 else 0) → ∀ z : Int32, z = fHi a w → wX0_shiftOnce_b58 k a w P (fTop w) s (fOut k a w) (fOut k a w) z u := by
    rintro s rfl z rfl
    refine iX0_comesIn hk ⟨fun c => ⟨fun d => ?_, fun d => ?_⟩, fun c => iX0_mask ⟨fun d => ?_, fun d => ?_⟩⟩
    · have hl : ¬ k &&& 1 = 0 := fun q => by rw [if_pos q] at c; exact absurd c (by decide)
      show wX0_shiftOnce_b105 k a w P (fTop w) (fOut k a w) _ u
      have e := shv_r ha (rC_in u k a w)
      rw [if_pos d] at e
      rw [e, show a / 2 + fIn u k a w * fTop w = fShV u k a w by rw [fShV, if_neg hl]]
      exact b105
    · have hl : ¬ k &&& 1 = 0 := fun q => by rw [if_pos q] at c; exact absurd c (by decide)
      show wX0_shiftOnce_b105 k a w P (fTop w) (fOut k a w) _ u
      have e := shv_r ha (rC_in u k a w)
      rw [if_neg d] at e
      rw [e, show a / 2 + fIn u k a w * fTop w = fShV u k a w by rw [fShV, if_neg hl]]
      exact b105
    · have hl : k &&& 1 = 0 := Decidable.of_not_not (fun q => by rw [if_neg q] at c; exact c rfl)
      show wX0_shiftOnce_b105 k a w P (fTop w) (fOut k a w) _ u
      have e := shv_l ha (rC_in u k a w)
      rw [if_pos d] at e
      rw [e, show 2 * a + fIn u k a w &&& fAll w = fShV u k a w by rw [fShV, if_pos hl]]
      exact b105
    · have hl : k &&& 1 = 0 := Decidable.of_not_not (fun q => by rw [if_neg q] at c; exact c rfl)
      show wX0_shiftOnce_b105 k a w P (fTop w) (fOut k a w) _ u
      have e := shv_l ha (rC_in u k a w)
      rw [if_neg d] at e
      rw [e, show 2 * a + fIn u k a w &&& fAll w = fShV u k a w by rw [fShV, if_pos hl]]
      exact b105
  have b31 : ∀ s : Int32, s = (if k &&& 1 = 0 then 1 else 0) → ∀ z : Int32, z = (if k &&& 1 = 0 then fTop w else 1) → wX0_shiftOnce_b31 k a w P (fTop w) s z u := by
    intro s hs z hz
    refine br_n (fun y => wX0_shiftOnce_b40 k a w P (fTop w) s y u) ?_
    rw [hz, out_c]
    exact br_n (fun y => wX0_shiftOnce_b58 k a w P (fTop w) s (fOut k a w) (fOut k a w) y u) (b58 s hs _ rfl)
  unfold wX0_shiftOnce
  refine iX0_highest ⟨fun c => ⟨fun d => absurd d (by decide), fun _ => b31 1 (by rw [if_pos c]) _ (by rw [if_pos c])⟩, fun c => ⟨fun _ => b31 0 (by rw [if_neg c]) _ (by rw [if_neg c]), fun d => absurd rfl d⟩⟩
/-- so many shifts, one after the other -/
def fShs (k w : Int32) : Nat → Int32 × Int32 → Int32 × Int32
  | 0, z => z
  | n + 1, z => fShs k w n (fShV z.2 k z.1 w, fShF z.2 k z.1 w)
theorem one_more {j t : Int32} (h0 : 0 ≤ j.toInt) (h : j.toInt < t.toInt) : (j + 1).toInt = j.toInt + 1 := by
  have hh := ti_hi t
  rw [ti_add (by rw [show (1 : Int32).toInt = 1 from rfl]; omega) (by rw [show (1 : Int32).toInt = 1 from rfl]; omega)]; rfl
theorem iX6_shifts {k a w t : Int32} {q : SQ} {P : Int32 → SQ → Prop} (hk : r7 k) (ha : rO a w) (ht : 0 ≤ t.toInt) (h : P (fShs k w t.toInt.toNat (a, q_flags q)).1 (qs_flags q (fShs k w t.toInt.toNat (a, q_flags q)).2)) : wX6_shifts k a t w q P := by
  have key : ∀ (n : Nat) (j b f : Int32), 0 ≤ j.toInt → t.toInt = j.toInt + n → rO b w → P (fShs k w n (b, f)).1 (qs_flags q (fShs k w n (b, f)).2) → wX6_shifts_b6 k a t w P (n + 1) b j (qs_flags q f) := by
    intro n
    induction n with
    | zero =>
      intro j b f h0 h1 hb h
      rw [wX6_shifts_b6]
      exact ⟨fun _ => h, fun c => absurd (ti_le.mpr (by omega)) c⟩
    | succ n ih =>
      intro j b f h0 h1 hb h
      rw [wX6_shifts_b6]
      have e := one_more h0 (show j.toInt < t.toInt by omega)
      exact ⟨fun c => absurd (ti_le.mp c) (by omega), fun _ => iX6_shift hk hb (ih (j + 1) _ _ (by omega) (by omega) (rO_shV hb) h)⟩
  exact ⟨t.toInt.toNat + 1, key t.toInt.toNat 0 a (q_flags q) (by decide) (by rw [show (0 : Int32).toInt = 0 from rfl]; omega) ha h⟩
theorem iX0_shift {k a w t u : Int32} {P : Int32 → Int32 → Prop} (hk : r7 k) (ha : rO a w) (ht : 0 ≤ t.toInt) (h : P (fShs k w t.toInt.toNat (a, u)).1 (fShs k w t.toInt.toNat (a, u)).2) : wX0_shift k a t w u P := by
  have key : ∀ (n : Nat) (j b f : Int32), 0 ≤ j.toInt → t.toInt = j.toInt + n → rO b w → P (fShs k w n (b, f)).1 (fShs k w n (b, f)).2 → wX0_shift_b6 k a t w P (n + 1) b j f := by
    intro n
    induction n with
    | zero =>
      intro j b f h0 h1 hb h
      rw [wX0_shift_b6]
      exact ⟨fun _ => h, fun c => absurd (ti_le.mpr (by omega)) c⟩
    | succ n ih =>
      intro j b f h0 h1 hb h
      rw [wX0_shift_b6]
      have e := one_more h0 (show j.toInt < t.toInt by omega)
      exact ⟨fun c => absurd (ti_le.mp c) (by omega), fun _ => iX0_shiftOnce hk hb (ih (j + 1) _ _ (by omega) (by omega) (rO_shV hb) h)⟩
  exact ⟨t.toInt.toNat + 1, key t.toInt.toNat 0 a u (by decide) (by rw [show (0 : Int32).toInt = 0 from rfl]; omega) ha h⟩
theorem rO_shs {k w : Int32} (n : Nat) {z : Int32 × Int32} (h : rO z.1 w) : rO (fShs k w n z).1 w := by
  induction n generalizing z with
  | zero => exact h
  | succ n ih => exact ih (rO_shV h)
