theorem v_08 : vp_in 0 8 := vp_7 ⟨by decide, by decide⟩
theorem v_28 : vp_in 2 8 := vp_7 ⟨by decide, by decide⟩
-- ===== adjustments, conditions, products, quotients =====
theorem br_or {c d : Prop} [Decidable c] [Decidable d] (B : Int32 → Prop) (h : B (bI (c ∨ d))) : (c → B 1) ∧ (¬ c → (bI d = 0 → B 0) ∧ (¬ bI d = 0 → B 1)) := by
  refine ⟨fun q => ?_, fun q => ⟨fun q2 => ?_, fun q2 => ?_⟩⟩
  · rw [bI_t (Or.inl q)] at h; exact h
  · rw [bI_f (fun z => z.elim q (bI_0.mp q2))] at h; exact h
  · rw [bI_t (Or.inr (Decidable.of_not_not (fun z => q2 (bI_0.mpr z))))] at h; exact h
theorem has_or {c : Prop} [Decidable c] {k : Int32} {u : SQ} (B : Int32 → SQ → Prop) (h : B (bI (c ∨ ¬ q_flags u &&& k = 0)) u) : (c → B 1 u) ∧ (¬ c → wX6_has k u (fun r u' => (r = 0 → B 0 u') ∧ (¬ r = 0 → B 1 u'))) := by
  have h2 := br_or (fun z => B z u) h
  exact ⟨h2.1, fun q => iX6_has (h2.2 q)⟩
theorem has_orC {c : Prop} [Decidable c] {k : Int32} {u : Int32} (B : Int32 → Int32 → Prop) (h : B (bI (c ∨ ¬ u &&& k = 0)) u) : (c → B 1 u) ∧ (¬ c → wX0_has k u (fun r u' => (r = 0 → B 0 u') ∧ (¬ r = 0 → B 1 u'))) := by
  have h2 := br_or (fun z => B z u) h
  exact ⟨h2.1, fun q => iX0_has (h2.2 q)⟩
def fDL (f l : Int32) : Int32 := bI (9 < l &&& 15 ∨ ¬ f &&& 16 = 0)
def fDH (f l : Int32) : Int32 := bI (153 < l ∨ ¬ f &&& 1 = 0)
def fDB (f l : Int32) : Int32 := (if fDL f l = 0 then 0 else 6) + (if fDH f l = 0 then 0 else 96)
def fDV (f l dn : Int32) : Int32 := if dn = 0 then l + fDB f l &&& 255 else l - fDB f l &&& 255
def fDC (f l dn : Int32) : Int32 := bI (¬ fDH f l = 0 ∨ ¬ dn = 0 ∧ ¬ fDL f l = 0 ∧ ¬ 6 ≤ l)
def fDF (f l dn : Int32) : Int32 := fBy (fMark (fMark f 16 (fDL f l)) 1 (fDC f l dn)) (fDV f l dn) 0
def fDecimal (q : SQ) (dn : Int32) : SQ := qs_flags (qs_registers q (fSetR (q_registers q) 0 0 (fDV (q_flags q) (q_registers q 0 &&& 255) dn))) (fDF (q_flags q) (q_registers q 0 &&& 255) dn)
theorem iX6_adjustDecimal {dn : Int32} {q : SQ} {P : SQ → Prop} (h : P (fDecimal q dn)) : wX6_adjustDecimal dn q P := by
  have b139 : ∀ s : Int32, s = fDC (q_flags q) (q_registers q 0 &&& 255) dn → wX6_adjustDecimal_b139 dn P (fDV (q_flags q) (q_registers q 0 &&& 255) dn) s (qs_flags q (fMark (q_flags q) 16 (fDL (q_flags q) (q_registers q 0 &&& 255)))) := by
    rintro s rfl
    exact iX6_mark (iX6_setRegister ⟨by decide, by decide⟩ (iX6_byAnswer h))
  have b104 : ∀ v : Int32, v = fDV (q_flags q) (q_registers q 0 &&& 255) dn → wX6_adjustDecimal_b104 dn P (q_registers q 0 &&& 255) (fDL (q_flags q) (q_registers q 0 &&& 255)) (fDH (q_flags q) (q_registers q 0 &&& 255)) v q := by
    rintro v rfl
    refine iX6_mark ⟨fun c => ⟨fun c2 => b139 0 ?_, fun c2 => ⟨fun c3 => b139 0 ?_, fun c3 => ⟨fun c4 => b139 0 ?_, fun c4 => b139 1 ?_⟩⟩⟩, fun c => b139 1 ?_⟩
    · exact (bI_f (fun z => z.elim (fun y => y c) (fun y => y.1 c2))).symm
    · exact (bI_f (fun z => z.elim (fun y => y c) (fun y => y.2.1 c3))).symm
    · exact (bI_f (fun z => z.elim (fun y => y c) (fun y => y.2.2 c4))).symm
    · exact (bI_t (Or.inr ⟨c2, c3, c4⟩)).symm
    · exact (bI_t (Or.inl c)).symm
  have b78 : ∀ s t : Int32, s + t = fDB (q_flags q) (q_registers q 0 &&& 255) → wX6_adjustDecimal_b78 dn P (q_registers q 0 &&& 255) (fDL (q_flags q) (q_registers q 0 &&& 255)) (fDH (q_flags q) (q_registers q 0 &&& 255)) s t q := by
    intro s t e
    refine ⟨fun c => b104 _ ?_, fun c => b104 _ ?_⟩
    · rw [fDV, if_pos c, e]
    · rw [fDV, if_neg c, e]
  refine ⟨v_08, ?_⟩
  refine has_or (fun z u' => wX6_adjustDecimal_b34 dn P (q_registers q 0 &&& 255) z u') ?_
  refine has_or (fun z u' => wX6_adjustDecimal_b55 dn P (q_registers q 0 &&& 255) (fDL (q_flags q) (q_registers q 0 &&& 255)) z u') ?_
  show wX6_adjustDecimal_b55 dn P (q_registers q 0 &&& 255) (fDL (q_flags q) (q_registers q 0 &&& 255)) (fDH (q_flags q) (q_registers q 0 &&& 255)) q
  refine ⟨fun c => ⟨fun c2 => b78 _ _ ?_, fun c2 => b78 _ _ ?_⟩, fun c => ⟨fun c2 => b78 _ _ ?_, fun c2 => b78 _ _ ?_⟩⟩
  · rw [fDB, if_pos c, if_pos c2]
  · rw [fDB, if_pos c, if_neg c2]
  · rw [fDB, if_neg c, if_pos c2]
  · rw [fDB, if_neg c, if_neg c2]
theorem neg_one_mul (x : Int32) : (-1 : Int32) * x = -x := by
  rw [Int32.neg_mul, Int32.one_mul]
theorem iX0_decimal {word sign dn u : Int32} {P : Int32 → Int32 → Prop} (hs : sign = 1 ∧ dn = 0 ∨ sign = -1 ∧ dn = 1) (h : P (word &&& 65280 ||| fDV u (word &&& 255) dn) (fDF u (word &&& 255) dn)) : wX0_decimal word sign u P := by
  have b133 : ∀ s : Int32, s = fDC u (word &&& 255) dn → wX0_decimal_b133 word sign P (fDV u (word &&& 255) dn) s (fMark u 16 (fDL u (word &&& 255))) := by
    rintro s rfl
    exact iX0_mark (iX0_byAnswer h)
  have hz : ∀ y : Int32, y = (if (dn = 0 ∨ fDL u (word &&& 255) = 0 ∨ 6 ≤ word &&& 255) then 0 else 1) → ∀ s t : Int32, s + t = fDB u (word &&& 255) → wX0_decimal_b99 word sign P (fDL u (word &&& 255)) (fDH u (word &&& 255)) y (word &&& 255) s t u := by
    rintro y rfl s t e
    have ev : ((word &&& 255) + sign * (s + t)) &&& 255 = fDV u (word &&& 255) dn := by
      rw [e, fDV]
      rcases hs with ⟨h1, h2⟩ | ⟨h1, h2⟩
      · rw [h1, if_pos h2, Int32.one_mul]
      · rw [h1, if_neg (by rw [h2]; decide), neg_one_mul, ← Int32.sub_eq_add_neg]
    unfold wX0_decimal_b99
    rw [ev]
    refine iX0_mark ⟨fun c => ⟨fun c2 => b133 0 ?_, fun c2 => b133 1 ?_⟩, fun c => b133 1 ?_⟩
    · refine (bI_f (fun z => z.elim (fun y => y c) (fun y => ?_))).symm
      rw [if_neg (fun z => z.elim y.1 (fun z => z.elim y.2.1 y.2.2))] at c2
      exact absurd c2 (by decide)
    · refine (bI_t (Or.inr ?_)).symm
      by_cases z : dn = 0 ∨ fDL u (word &&& 255) = 0 ∨ 6 ≤ word &&& 255
      · rw [if_pos z] at c2; exact absurd rfl c2
      · exact ⟨fun y => z (Or.inl y), fun y => z (Or.inr (Or.inl y)), fun y => z (Or.inr (Or.inr y))⟩
    · exact (bI_t (Or.inl c)).symm
  have b88 : ∀ y : Int32, y = (if (dn = 0 ∨ fDL u (word &&& 255) = 0 ∨ 6 ≤ word &&& 255) then 0 else 1) → wX0_decimal_b73 word sign P (word &&& 255) (fDL u (word &&& 255)) (fDH u (word &&& 255)) y u := by
    intro y hy
    refine ⟨fun c => ⟨fun c2 => hz y hy _ _ ?_, fun c2 => hz y hy _ _ ?_⟩, fun c => ⟨fun c2 => hz y hy _ _ ?_, fun c2 => hz y hy _ _ ?_⟩⟩
    · rw [fDB, if_pos c, if_pos c2]
    · rw [fDB, if_pos c, if_neg c2]
    · rw [fDB, if_neg c, if_pos c2]
    · rw [fDB, if_neg c, if_neg c2]
  have b51 : wX0_decimal_b51 word sign P (word &&& 255) (fDL u (word &&& 255)) (fDH u (word &&& 255)) u := by
    refine ⟨fun c => b88 0 ?_, fun c => ⟨fun c2 => b88 0 ?_, fun c2 => ⟨fun c3 => b88 0 ?_, fun c3 => b88 1 ?_⟩⟩⟩
    · rcases hs with ⟨h1, h2⟩ | ⟨h1, h2⟩
      · rw [if_pos (Or.inl h2)]
      · rw [h1] at c; exact absurd c (by decide)
    · rw [if_pos (Or.inr (Or.inl c2))]
    · rw [if_pos (Or.inr (Or.inr c3))]
    · rcases hs with ⟨h1, h2⟩ | ⟨h1, h2⟩
      · rw [h1] at c; exact absurd (by decide) c
      · rw [if_neg (fun z => z.elim (fun y => by rw [h2] at y; exact absurd y (by decide)) (fun z => z.elim c2 c3))]
  refine has_orC (fun z u' => wX0_decimal_b29 word sign P (word &&& 255) z u') ?_
  refine has_orC (fun z u' => wX0_decimal_b51 word sign P (word &&& 255) (fDL u (word &&& 255)) z u') ?_
  exact b51
-- digits
def fGL (f a : Int32) : Int32 := bI (9 < a &&& 255 &&& 15 ∨ ¬ f &&& 16 = 0)
def fGV (f a dn : Int32) : Int32 := if fGL f a = 0 then (a &&& 255 &&& 15 ||| (a >>> ((8 : Int32) &&& 31) &&& 255) <<< ((8 : Int32) &&& 31)) else if dn = 0 then ((a &&& 255) + 6 &&& 15 ||| (a >>> ((8 : Int32) &&& 31) + 1 &&& 255) <<< ((8 : Int32) &&& 31)) else ((a &&& 255) - 6 &&& 15 ||| (a >>> ((8 : Int32) &&& 31) - 1 &&& 255) <<< ((8 : Int32) &&& 31))
def fGF (f a : Int32) : Int32 := fMark (fMark f 16 (fGL f a)) 1 (fGL f a)
def fDigit (q : SQ) (dn : Int32) : SQ := qs_registers (qs_flags q (fGF (q_flags q) (q_registers q 0))) (upd (q_registers q) 0 (fGV (q_flags q) (q_registers q 0) dn))
theorem iX6_adjustDigit {dn : Int32} {q : SQ} {P : SQ → Prop} (h : P (fDigit q dn)) : wX6_adjustDigit dn q P := by
  have b81 : ∀ l hh : Int32, (l &&& 15 ||| (hh &&& 255) <<< ((8 : Int32) &&& 31)) = fGV (q_flags q) (q_registers q 0) dn → wX6_adjustDigit_b81 dn P l hh (fGL (q_flags q) (q_registers q 0)) q := by
    intro l hh e
    refine iX6_mark (iX6_mark ⟨v_08, ?_⟩)
    rw [e]
    exact h
  refine ⟨v_08, v_08, has_or (fun z u' => wX6_adjustDigit_b44 dn P (q_registers q 0 &&& 255) (q_registers q 0 >>> ((8 : Int32) &&& 31)) z u') ?_⟩
  show wX6_adjustDigit_b44 dn P (q_registers q 0 &&& 255) (q_registers q 0 >>> ((8 : Int32) &&& 31)) (fGL (q_flags q) (q_registers q 0)) q
  refine ⟨fun c => b81 _ _ ?_, fun c => ⟨fun c2 => ⟨fun _ => b81 _ _ ?_, fun c3 => absurd c2 c3⟩, fun c2 => ⟨fun c3 => absurd c3 c2, fun _ => b81 _ _ ?_⟩⟩⟩
  · rw [fGV, if_pos c]
  · rw [fGV, if_neg c, if_pos c2]
  · rw [fGV, if_neg c, if_neg c2]
theorem and15_255 (a : Int32) : a &&& 255 &&& 15 = a &&& 15 := ti_ext (by rw [ti_and15, ti_and255, ti_and15]; omega)
theorem or_comm32 (a b : Int32) : a ||| b = b ||| a := by
  apply Int32.toBitVec_inj.mp
  rw [Int32.toBitVec_or, Int32.toBitVec_or, BitVec.or_comm]
theorem iX0_unpacked {a sign dn u : Int32} {P : Int32 → Int32 → Prop} (ha : rW a) (hs : sign = 1 ∧ dn = 0 ∨ sign = -1 ∧ dn = 1) (h : P (fGV u a dn) (fGF u a)) : wX0_unpacked a sign u P := by
  have six : (6 : Int32).toInt = 6 := rfl
  have one : (1 : Int32).toInt = 1 := rfl
  have a1 := ha.1
  have a2 := ha.2
  have e255 := ti_and255 a
  have b56 : ∀ l s t : Int32, ((s + t &&& 255) <<< ((8 : Int32) &&& 31)) ||| l = fGV u a dn → wX0_unpacked_b56 a sign P (fGL u a) l s t u := by
    intro l s t e
    refine iX0_mark (iX0_mark ?_)
    show P (((s + t &&& 255) <<< ((8 : Int32) &&& 31)) ||| l) _
    rw [e]
    exact h
  have el : fGL u a = bI (9 < a &&& 15 ∨ ¬ u &&& 16 = 0) := by unfold fGL; rw [and15_255]
  have b23 : wX0_unpacked_b23 a sign P (fGL u a) u := by
    refine ⟨fun c => ⟨fun _ => b56 _ _ _ ?_, fun c2 => absurd c c2⟩, fun c => ⟨fun c2 => absurd c2 c, fun _ => b56 _ _ _ ?_⟩⟩
    · rw [fGV, if_pos c, and15_255, or_comm32, Int32.add_zero, Int32.add_zero]
    · rw [fGV, if_neg c, or_comm32]
      rcases hs with ⟨h1, h2⟩ | ⟨h1, h2⟩
      · rw [h1, if_pos h2]
        have e1 : a + 6 * 1 &&& 15 = (a &&& 255) + 6 &&& 15 := ti_ext (by
          rw [ti_and15, ti_and15, Int32.mul_one, ti_add (by omega) (by omega), ti_add (by omega) (by omega), e255]; omega)
        rw [e1]
      · rw [h1, if_neg (by rw [h2]; decide)]
        have m6 : (6 : Int32) * (-1) = -6 := by decide
        have e1 : a + 6 * (-1) &&& 15 = (a &&& 255) - 6 &&& 15 := ti_ext (by
          rw [ti_and15, ti_and15, m6, ← Int32.sub_eq_add_neg, ti_sub (by omega) (by omega), ti_sub (by omega) (by omega), e255]; omega)
        rw [e1, ← Int32.sub_eq_add_neg]
  refine has_orC (fun z u' => wX0_unpacked_b23 a sign P z u') ?_
  rw [← el]
  exact b23
theorem iX0_parts {l b u : Int32} {P : Int32 → Int32 → Prop} (hb : ¬ b = 0) (h : P ((l / b) <<< ((8 : Int32) &&& 31) ||| (l - l / b * b)) (fBy u (l - l / b * b) 0)) : wX0_parts l b u P :=
  ⟨fun c => absurd c hb, fun c => ⟨c, iX0_byAnswer ⟨c, c, h⟩⟩⟩
theorem iX0_whole {a b u : Int32} {P : Int32 → Int32 → Prop} (h : P ((a >>> ((8 : Int32) &&& 31)) * b + a &&& 255) (fBy u ((a >>> ((8 : Int32) &&& 31)) * b + a &&& 255) 0)) : wX0_whole a b u P := iX0_byAnswer h
theorem ti_mul_b {x y : Int32} (hx : rB x) (hy : rB y) : (x * y).toInt = x.toInt * y.toInt ∧ 0 ≤ x.toInt * y.toInt ∧ x.toInt * y.toInt ≤ 65025 := by
  have h1 : 0 ≤ x.toInt * y.toInt := Int.mul_nonneg hx.1 hy.1
  have h2 : x.toInt * y.toInt ≤ 255 * 255 := Int.mul_le_mul hx.2 hy.2 hy.1 (by decide)
  exact ⟨ti_mul (by omega) (by omega), h1, by omega⟩
theorem rB_hi {a : Int32} (h : rW a) : rB (a >>> ((8 : Int32) &&& 31)) := by unfold rB; rw [ti_shr8]; have := h.1; have := h.2; omega
theorem whole_eq {a b : Int32} (ha : rW a) (hb : rB b) : (a >>> ((8 : Int32) &&& 31)) * b + a &&& 255 = (a >>> ((8 : Int32) &&& 31)) * b + (a &&& 255) &&& 255 := ti_ext (by
  obtain ⟨e, h1, h2⟩ := ti_mul_b (rB_hi ha) hb
  have a1 := ha.1
  have a2 := ha.2
  have e255 := ti_and255 a
  rw [ti_and255, ti_and255, ti_add (by rw [e]; omega) (by rw [e]; omega), ti_add (by rw [e]; omega) (by rw [e]; omega), e255]
  omega)
-- conditions
def fH (f k : Int32) : Int32 := bI (¬ f &&& k = 0)
def fLess (f : Int32) : Int32 := bI (¬ fH f 128 = fH f 2048)
def fPair (f k : Int32) : Int32 := if k = 0 then fH f 2048 else if k = 1 then fH f 1 else if k = 2 then fH f 64 else if k = 3 then bI (¬ fH f 1 = 0 ∨ ¬ fH f 64 = 0) else if k = 4 then fH f 128 else if k = 5 then fH f 4 else if k = 6 then fLess f else bI (¬ fLess f = 0 ∨ ¬ fH f 64 = 0)
def fCond (f c : Int32) : Int32 := bI (fPair f (c >>> ((1 : Int32) &&& 31)) = bI (c - c / 2 * 2 = 0))
theorem zB_pair (f k : Int32) : zB (fPair f k) := by
  unfold fPair; repeat' split
  all_goals exact bI_z
theorem iX6_holds {c : Int32} {q : SQ} {P : Int32 → SQ → Prop} (h : P (fCond (q_flags q) c) q) : wX6_holds c q P := by
  have b154 : ∀ s : Int32, s = fPair (q_flags q) (c >>> ((1 : Int32) &&& 31)) → wX6_holds_b154 c P s q := by
    rintro s rfl
    refine ⟨by decide, br_p (fun z => wX6_holds_b169 c P _ z q) ?_⟩
    exact br_p (fun z => P z q) h
  have b22 : ∀ s : Int32, s = fLess (q_flags q) → wX6_holds_b22 c P s q := by
    rintro s rfl
    unfold fPair at b154
    refine ⟨fun d => iX6_has (b154 _ ?_), fun d => ⟨fun d2 => iX6_has (b154 _ ?_), fun d2 => ⟨fun d3 => iX6_has (b154 _ ?_), fun d3 => ⟨fun d4 => ?_, fun d4 => ⟨fun d5 => iX6_has (b154 _ ?_), fun d5 => ⟨fun d6 => iX6_has (b154 _ ?_), fun d6 => ⟨fun d7 => b154 _ ?_, fun d7 => ?_⟩⟩⟩⟩⟩⟩⟩
    · rw [if_pos d]; rfl
    · rw [if_neg d, if_pos d2]; rfl
    · rw [if_neg d, if_neg d2, if_pos d3]; rfl
    · rw [if_neg d, if_neg d2, if_neg d3, if_pos d4] at b154
      refine iX6_has ⟨fun y => iX6_has ⟨fun y2 => b154 0 ?_, fun y2 => b154 1 ?_⟩, fun y => b154 1 ?_⟩
      · exact (bI_f (fun z => z.elim (fun z => z y) (fun z => z y2))).symm
      · exact (bI_t (Or.inr y2)).symm
      · exact (bI_t (Or.inl y)).symm
    · rw [if_neg d, if_neg d2, if_neg d3, if_neg d4, if_pos d5]; rfl
    · rw [if_neg d, if_neg d2, if_neg d3, if_neg d4, if_neg d5, if_pos d6]; rfl
    · rw [if_neg d, if_neg d2, if_neg d3, if_neg d4, if_neg d5, if_neg d6, if_pos d7]
    · rw [if_neg d, if_neg d2, if_neg d3, if_neg d4, if_neg d5, if_neg d6, if_neg d7] at b154
      refine ⟨fun y => iX6_has ⟨fun y2 => b154 0 ?_, fun y2 => b154 1 ?_⟩, fun y => b154 1 ?_⟩
      · exact (bI_f (fun z => z.elim (fun z => z y) (fun z => z y2))).symm
      · exact (bI_t (Or.inr y2)).symm
      · exact (bI_t (Or.inl y)).symm
  unfold wX6_holds
  refine iX6_has (iX6_has (br_n (fun z => wX6_holds_b22 c P z q) ?_))
  exact b22 _ rfl
theorem iX0_pairHolds {k u : Int32} {P : Int32 → Int32 → Prop} (h : P (fPair u k) u) : wX0_pairHolds k u P := by
  have hz : zB (fPair u k) := zB_pair u k
  have fin : ∀ s : Int32, s = fPair u k → zB s ∧ P s u := by rintro s rfl; exact ⟨hz, h⟩
  have b22 : ∀ s : Int32, s = fLess u → wX0_pairHolds_b22 k P s u := by
    rintro s rfl
    unfold fPair at fin
    refine ⟨fun d => iX0_has (fin _ ?_), fun d => ⟨fun d2 => iX0_has (fin _ ?_), fun d2 => ⟨fun d3 => iX0_has (fin _ ?_), fun d3 => ⟨fun d4 => ?_, fun d4 => ⟨fun d5 => iX0_has (fin _ ?_), fun d5 => ⟨fun d6 => iX0_has (fin _ ?_), fun d6 => ⟨fun d7 => fin _ ?_, fun d7 => ?_⟩⟩⟩⟩⟩⟩⟩
    · rw [if_pos d]; rfl
    · rw [if_neg d, if_pos d2]; rfl
    · rw [if_neg d, if_neg d2, if_pos d3]; rfl
    · rw [if_neg d, if_neg d2, if_neg d3, if_pos d4] at fin
      refine iX0_has ⟨fun y => iX0_has ⟨fun y2 => (fin 0 ?_).2, fun y2 => (fin 1 ?_).2⟩, fun y => (fin 1 ?_).2⟩
      · exact (bI_f (fun z => z.elim (fun z => z y) (fun z => z y2))).symm
      · exact (bI_t (Or.inr y2)).symm
      · exact (bI_t (Or.inl y)).symm
    · rw [if_neg d, if_neg d2, if_neg d3, if_neg d4, if_pos d5]; rfl
    · rw [if_neg d, if_neg d2, if_neg d3, if_neg d4, if_neg d5, if_pos d6]; rfl
    · rw [if_neg d, if_neg d2, if_neg d3, if_neg d4, if_neg d5, if_neg d6, if_pos d7]
    · rw [if_neg d, if_neg d2, if_neg d3, if_neg d4, if_neg d5, if_neg d6, if_neg d7] at fin
      refine ⟨fun y => iX0_has ⟨fun y2 => (fin 0 ?_).2, fun y2 => (fin 1 ?_).2⟩, fun y => (fin 1 ?_).2⟩
      · exact (bI_f (fun z => z.elim (fun z => z y) (fun z => z y2))).symm
      · exact (bI_t (Or.inr y2)).symm
      · exact (bI_t (Or.inl y)).symm
  unfold wX0_pairHolds
  exact iX0_has (iX0_has (br_n (fun z => wX0_pairHolds_b22 k P z u) (b22 _ rfl)))
theorem mod_two {c : Int32} (h : 0 ≤ c.toInt) : c - c / 2 * 2 = c &&& 1 := ti_ext (by
  have e := ti_div_pos (x := c) (y := 2) h (by decide)
  have two : (2 : Int32).toInt = 2 := rfl
  have hh := ti_hi c
  rw [two] at e
  have em : (c / 2 * 2).toInt = c.toInt / 2 * 2 := by rw [ti_mul (by rw [e, two]; omega) (by rw [e, two]; omega), e, two]
  rw [ti_sub (by rw [em]; omega) (by rw [em]; omega), em, ti_and1]
  omega)
theorem iX0_holds {c u : Int32} {P : Int32 → Int32 → Prop} (hc : 0 ≤ c.toInt) (h : P (fCond u c) u) : wX0_holds c u P := by
  unfold wX0_holds
  refine br_n (fun z => wX0_holds_b11 c P z u) (iX0_pairHolds (br_n (fun z => P z u) ?_))
  have e : bI (¬ fPair u (c >>> ((1 : Int32) &&& 31)) = bI (¬ c &&& 1 = 0)) = fCond u c := by
    unfold fCond
    refine bI_congr ?_
    rw [mod_two hc]
    rcases zB_pair u (c >>> ((1 : Int32) &&& 31)) with q | q <;> rcases rC_and1 c with r | r <;> rw [q, r] <;> decide
  rw [e]
  exact h
-- products
def fPro (a b w sg : Int32) : Int64 := if sg = 0 then a.toInt64 * b.toInt64 else (fSgn a w).toInt64 * (fSgn b w).toInt64
def fProH (p : Int64) (w sg : Int32) : Int64 := if sg = 0 then (p.toInt32 &&& fAll w).toInt64 else (fSgn (p.toInt32 &&& fAll w) w).toInt64
def fProL (p : Int64) (w sg : Int32) : Int32 := bI (¬ lg_cmp p (fProH p w sg) = 0)
def fProF (f : Int32) (p : Int64) (w sg : Int32) : Int32 := fMark (fMark f 1 (fProL p w sg)) 2048 (fProL p w sg)
theorem iX0_product {a b w sg u : Int32} {P : Int32 → Int32 → Prop} (ha : rO a w) (hb : rO b w) (h : P (fPro a b w sg).toInt32 (fProF u (fPro a b w sg) w sg)) : wX0_product a b w sg u P := by
  have b56 : ∀ (s : Int64) (t : Int32), s = fPro a b w sg → t.toInt64 = fProH (fPro a b w sg) w sg → wX0_product_b56 a b w sg P s s t u := by
    rintro s t rfl e
    unfold wX0_product_b56
    rw [e]
    exact br_n (fun z => wX0_product_b66 a b w sg P (fPro a b w sg) z u) (iX0_mark (iX0_mark h))
  have b26 : ∀ s : Int64, s = fPro a b w sg → wX0_product_b26 a b w sg P s u := by
    rintro s rfl
    refine iX0_mask ⟨fun c => b56 _ _ rfl ?_, fun c => iX0_signed (b56 _ _ rfl ?_)⟩
    · rw [fProH, if_pos c]
    · rw [fProH, if_neg c, cut_sgn (rO_andAll _ w)]
  refine ⟨fun c => b26 _ ?_, fun c => iX0_signed (iX0_signed (b26 _ ?_))⟩
  · rw [fPro, if_pos c]
  · rw [fPro, if_neg c, cut_sgn ha, cut_sgn hb]
def fProR (f : A32) (p : Int64) (w : Int32) : A32 := if w = 0 then upd f 0 (p.toInt32 &&& 65535) else upd (upd f 0 (p.toInt32 &&& fAll w)) 2 ((p >>> ((16 : Int32).toInt64 &&& 63)).toInt32 &&& 65535)
def fMul (q : SQ) (e sg w : Int32) : SQ := qs_registers (qs_flags q (fProF (q_flags q) (fPro (fReg (q_registers q) 0 w) e w sg) w sg)) (fProR (q_registers q) (fPro (fReg (q_registers q) 0 w) e w sg) w)
theorem iX6_product {e sg w : Int32} {q : SQ} {P : SQ → Prop} (h : P (fMul q e sg w)) : wX6_product e sg w q P := by
  have b115 : ∀ s : Int32, s = fProL (fPro (fReg (q_registers q) 0 w) e w sg) w sg → wX6_product_b115 e sg w P (fPro (fReg (q_registers q) 0 w) e w sg) ((fPro (fReg (q_registers q) 0 w) e w sg).toInt32 &&& fAll w) s (qs_flags q (fMark (q_flags q) 1 (fProL (fPro (fReg (q_registers q) 0 w) e w sg) w sg))) := by
    rintro s rfl
    unfold fMul fProR at h
    refine iX6_mark ⟨fun c => ⟨v_08, ?_⟩, fun c => ⟨v_08, v_28, ?_⟩⟩
    · rw [if_pos c] at h; exact h
    · rw [if_neg c] at h; exact h
  have b78 : ∀ s : Int64, s = fProH (fPro (fReg (q_registers q) 0 w) e w sg) w sg → wX6_product_b78 e sg w P (fPro (fReg (q_registers q) 0 w) e w sg) ((fPro (fReg (q_registers q) 0 w) e w sg).toInt32 &&& fAll w) s q := by
    rintro s rfl
    exact br_n (fun z => wX6_product_b95 e sg w P _ _ _ z q) (iX6_mark (br_n (fun z => wX6_product_b115 e sg w P _ _ z _) (b115 _ rfl)))
  have b42 : ∀ s t : Int64, s * t = fPro (fReg (q_registers q) 0 w) e w sg → wX6_product_b42 e sg w P s t q := by
    intro s t ee
    unfold wX6_product_b42
    rw [ee]
    refine iX6_all ⟨fun c => b78 _ ?_, fun c => iX6_signed (b78 _ ?_)⟩
    · rw [fProH, if_pos c]
    · rw [fProH, if_neg c]
  refine iX6_register ⟨by decide, by decide⟩ ⟨fun c => ⟨fun _ => b42 _ _ ?_, fun c2 => absurd c c2⟩, fun c => iX6_signed ⟨fun c2 => absurd c2 c, fun _ => iX6_signed (b42 _ _ ?_)⟩⟩
  · rw [fPro, if_pos c]
  · rw [fPro, if_neg c]
-- quotients
def fNum (f : A32) (w sg : Int32) : Int64 :=
  if w = 0 then (if sg = 0 then (f 0).toInt64 else if lg_cmp (f 0).toInt64 ((65536 : Int64) / 2) < 0 then (f 0).toInt64 else (f 0).toInt64 - 65536)
  else (if sg = 0 then (f 2).toInt64 * 65536 + (f 0).toInt64 else if lg_cmp ((f 2).toInt64 * 65536 + (f 0).toInt64) ((4294967296 : Int64) / 2) < 0 then (f 2).toInt64 * 65536 + (f 0).toInt64 else (f 2).toInt64 * 65536 + (f 0).toInt64 - 4294967296)
def fDen (e w sg : Int32) : Int64 := if sg = 0 then e.toInt64 else (fSgn e w).toInt64
def fMost (w sg : Int32) : Int64 := if sg = 0 then (fAll w).toInt64 else (fTop w).toInt64 - 1
def fLeast (w sg : Int32) : Int64 := if sg = 0 then 0 else -(fMost w sg)
def fNone (x y : Int64) (w sg : Int32) : Prop := lg_cmp y 0 = 0 ∨ 0 < lg_cmp (x / y) (fMost w sg) ∨ ¬ 0 ≤ lg_cmp (x / y) (fLeast w sg)
def fQuoR (f : A32) (x y : Int64) (w : Int32) : A32 := if w = 0 then upd f 0 ((x / y).toInt32 &&& 255 ||| ((x - x / y * y).toInt32 &&& 255) <<< ((8 : Int32) &&& 31)) else upd (upd f 0 ((x / y).toInt32 &&& 65535)) 2 ((x - x / y * y).toInt32 &&& 65535)
theorem cmp_0 (x y : Int64) : lg_cmp x y = 0 ↔ x = y := by
  unfold lg_cmp
  by_cases h : x > y
  · rw [if_pos h]
    constructor
    · intro q; exact absurd q (by decide)
    · rintro rfl; exact absurd (Int64.lt_iff_toInt_lt.mp h) (by omega)
  · rw [if_neg h]
    by_cases h2 : x = y
    · rw [if_pos h2]; exact ⟨fun _ => h2, fun _ => rfl⟩
    · rw [if_neg h2]; exact ⟨fun q => absurd q (by decide), fun q => absurd q h2⟩
theorem iX6_quotient {e sg w : Int32} {q : SQ} {P : Int32 → SQ → Prop}
    (h0 : fNone (fNum (q_registers q) w sg) (fDen e w sg) w sg → P 0 q)
    (h1 : ¬ fNone (fNum (q_registers q) w sg) (fDen e w sg) w sg → P 1 (qs_registers q (fQuoR (q_registers q) (fNum (q_registers q) w sg) (fDen e w sg) w))) : wX6_quotient e sg w q P := by
  have fin : ∀ x y : Int64, x = fNum (q_registers q) w sg → y = fDen e w sg → ¬ lg_cmp y 0 = 0 → ¬ 0 < lg_cmp (x / y) (fMost w sg) → ∀ t : Int64, t = fLeast w sg → wX6_quotient_b153 e sg w P x y (x / y) (x / y) t q := by
    rintro x y rfl rfl c c2 t rfl
    refine ⟨fun c3 => ?_, fun c3 => h0 (Or.inr (Or.inr c3))⟩
    have hn : ¬ fNone (fNum (q_registers q) w sg) (fDen e w sg) w sg := fun z => z.elim c (fun z => z.elim c2 (fun z => z c3))
    have h := h1 hn
    unfold fQuoR at h
    refine ⟨fun d => ⟨v_08, ?_⟩, fun d => ⟨v_08, v_28, ?_⟩⟩
    · rw [if_pos d] at h; exact h
    · rw [if_neg d] at h; exact h
  have b130 : ∀ x y : Int64, x = fNum (q_registers q) w sg → y = fDen e w sg → ¬ lg_cmp y 0 = 0 → ∀ t : Int64, t = fMost w sg → wX6_quotient_b130 e sg w P x y (x / y) t q := by
    rintro x y hx hy c t rfl
    refine ⟨fun c2 => h0 (Or.inr (Or.inl (by rw [← hx, ← hy]; exact c2))), fun c2 => ⟨fun d => fin x y hx hy c c2 _ ?_, fun d => fin x y hx hy c c2 _ ?_⟩⟩
    · rw [fLeast, if_pos d]
    · rw [fLeast, if_neg d]
  have b93 : ∀ x y : Int64, x = fNum (q_registers q) w sg → y = fDen e w sg → wX6_quotient_b93 e sg w P x y q := by
    intro x y hx hy
    refine ⟨fun c => h0 (Or.inl (by rw [← hy]; exact c)), fun c => ⟨fun z => c ((cmp_0 _ _).mpr z), fun d => iX6_all (b130 x y hx hy c _ ?_), fun d => iX6_top (b130 x y hx hy c _ ?_)⟩⟩
    · rw [fMost, if_pos d]
    · rw [fMost, if_neg d]
  have b76 : ∀ x : Int64, x = fNum (q_registers q) w sg → wX6_quotient_b76 e sg w P x q := by
    intro x hx
    refine ⟨fun c => b93 x _ hx ?_, fun c => iX6_signed (b93 x _ hx ?_)⟩
    · rw [fDen, if_pos c]
    · rw [fDen, if_neg c]
  unfold fNum at b76
  refine ⟨fun c => ⟨v_08, fun _ => ⟨fun d => b76 _ ?_, fun d => ⟨by decide, fun g => b76 _ ?_, fun g => b76 _ ?_⟩⟩, fun c2 => absurd c c2⟩, fun c => ⟨v_28, v_08, fun c2 => absurd c2 c, fun _ => ⟨fun d => b76 _ ?_, fun d => ⟨by decide, fun g => b76 _ ?_, fun g => b76 _ ?_⟩⟩⟩⟩
  · rw [if_pos c, if_pos d]; rfl
  · rw [if_pos c, if_neg d]; exact (if_pos g).symm
  · rw [if_pos c, if_neg d]; exact (if_neg g).symm
  · rw [if_neg c, if_pos d]; rfl
  · rw [if_neg c, if_neg d]; exact (if_pos g).symm
  · rw [if_neg c, if_neg d]; exact (if_neg g).symm
