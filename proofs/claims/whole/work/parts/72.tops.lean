-- ----- the tops of both
theorem mFollows {q : SQ} {P : Int32 → SQ → Prop} (hI : Inv q) (hs : rS q) (h0 : 0 ≤ (q_code q).toInt) (ha : hmM (q_code q) = 0 → mL P (lf11 (q_code q) (q_r q)) q) (hb : ¬ hmM (q_code q) = 0 → mL P (lf11 (q_code (fMode q)) (q_r (fMode q))) (fMode q)) (hc : q_code (fMode q) = q_code q) : wX6_follows q P :=
  mHM ⟨fun c => mB11 h0 (ha c), fun c => iX6_fetchMode hI hs (mB11 (by rw [hc]; exact h0) (hb c))⟩
theorem iX1_formOf {n : Int32} {P : Int32 → Unit → Prop} (h : rB n) (hp : P (formsF n.toNatClampNeg) ()) : wX1_formOf n () P := by
  unfold wX1_formOf
  rw [and255_id h]
  exact ⟨ti_in h.1 (by have := h.2; omega), hp⟩
theorem cRest {q : SQ} {k : SC} {P : SF → Prop} (hn : rB (c_number k)) (ha : hc (formsF (c_number k).toNatClampNeg) = 0 → cL P (lc21 (formsF (c_number k).toNatClampNeg) (c_r k)) (sF q k)) (hb : ¬ hc (formsF (c_number k).toNatClampNeg) = 0 → wX1_fetchM (sF q k) (fun u6 => wX1_fetchRest_b21 P (formsF (c_number k).toNatClampNeg) u6)) : wX1_fetchRest (sF q k) P :=
  iX1_formOf hn (cHM ⟨fun c => cB21 (ha c), fun c => hb c⟩)
theorem lfN_cases (w : Int32) : lfN w = 1 ∨ lfN w = 2 := by
  unfold lfN
  split
  · exact Or.inl rfl
  · exact Or.inr rfl
theorem lf_all : ∀ j : Fin 256, ∀ i : Fin 8, lf11 (nI j.val) (nI i.val) = 0 ∨ lf11 (nI j.val) (nI i.val) = 1 ∨ lf11 (nI j.val) (nI i.val) = 2 ∨ lf11 (nI j.val) (nI i.val) = 3 ∨ lf11 (nI j.val) (nI i.val) = 4 ∨ lf11 (nI j.val) (nI i.val) = 5 := by decide +kernel
theorem lf_cases {n r : Int32} (h : rB n) (hr : r7 r ∨ hmM n = 0) : lf11 n r = 0 ∨ lf11 n r = 1 ∨ lf11 n r = 2 ∨ lf11 n r = 3 ∨ lf11 n r = 4 ∨ lf11 n r = 5 := by
  rcases byte_fin h with ⟨j, e1, e2⟩
  rcases hr with hr | hr
  · rcases r7_fin hr with ⟨i, e3⟩
    have := lf_all j i
    rw [e1, e3] at this
    exact this
  · have b := hm_67 hr
    rw [r11 (r2 := 0) b.1 b.2]
    have := lf_all j 0
    rw [e1] at this
    exact this
