-- ----- stale fields of M do not matter where no M follows
theorem r390 {n r r2 w : Int32} (a : ¬ n = 246) (b : ¬ n = 247) : lf390 n r w = lf390 n r2 w := by
  unfold lf390
  rw [if_neg a, if_neg b, if_neg a, if_neg b]
  rfl
theorem r273 {n r r2 w : Int32} (a : ¬ n = 246) (b : ¬ n = 247) : lf273 n r w = lf273 n r2 w := by
  unfold lf273
  rw [r390 (r2 := r2) a b]
theorem r214 {n r r2 w : Int32} (a : ¬ n = 246) (b : ¬ n = 247) : lf214 n r w = lf214 n r2 w := by
  unfold lf214
  rw [r273 (r2 := r2) a b]
theorem r119 {n r r2 w : Int32} (a : ¬ n = 246) (b : ¬ n = 247) : lf119 n r w = lf119 n r2 w := by
  unfold lf119
  rw [r214 (r2 := r2) a b]
theorem r99 {n r r2 w : Int32} (a : ¬ n = 246) (b : ¬ n = 247) : lf99 n r w = lf99 n r2 w := by
  unfold lf99
  rw [r119 (r2 := r2) a b]
theorem r48 {n r r2 w : Int32} (a : ¬ n = 246) (b : ¬ n = 247) : lf48 n r w = lf48 n r2 w := by
  unfold lf48
  rw [r99 (r2 := r2) a b]
theorem r11 {n r r2 : Int32} (a : ¬ n = 246) (b : ¬ n = 247) : lf11 n r = lf11 n r2 := by
  unfold lf11
  rw [r48 (r2 := r2) a b]
theorem rc58 {f r r2 : Int32} (a : ¬ f = 8) : lc58 f r = lc58 f r2 := by
  unfold lc58
  rw [if_neg a, if_neg a]
theorem rc21 {f r r2 : Int32} (a : ¬ f = 7) (b : ¬ f = 8) : lc21 f r = lc21 f r2 := by
  unfold lc21
  rw [if_neg a, if_neg a, rc58 (r2 := r2) b]
theorem hc_78 {f : Int32} (h : hc f = 0) : ¬ f = 7 ∧ ¬ f = 8 := by
  constructor
  · rintro rfl; exact absurd h (by decide)
  · rintro rfl; exact absurd h (by decide)
theorem hm_67 {n : Int32} (h : hmM n = 0) : ¬ n = 246 ∧ ¬ n = 247 := by
  constructor
  · rintro rfl; exact absurd h (by decide)
  · rintro rfl; exact absurd h (by decide)
theorem byte_fin {n : Int32} (h : rB n) : ∃ j : Fin 256, nI j.val = n ∧ j.val = n.toNatClampNeg := by
  have h0 := h.1
  have h1 := h.2
  have e := ti_cl h0
  refine ⟨⟨n.toNatClampNeg, by omega⟩, ti_ext ?_, rfl⟩
  rw [ti_nI (by omega)]
  exact e
theorem r7_fin {n : Int32} (h : r7 n) : ∃ j : Fin 8, nI j.val = n := by
  have h0 := h.1
  have h1 := h.2
  have e := ti_cl h0
  refine ⟨⟨n.toNatClampNeg, by omega⟩, ti_ext ?_⟩
  rw [ti_nI (by omega)]
  exact e
theorem form_M' {n : Int32} (h : rB n) (hp : ¬ formsF n.toNatClampNeg = 9) : hc (formsF n.toNatClampNeg) = hmM n := by
  rcases byte_fin h with ⟨j, e1, e2⟩
  have := form_M j
  rw [e1, e2] at this
  exact this.resolve_left hp
theorem form_L' {n r : Int32} (h : rB n) (hp : ¬ formsF n.toNatClampNeg = 9) (hr : r7 r) : lc21 (formsF n.toNatClampNeg) r = lcm (lf11 n r) := by
  rcases byte_fin h with ⟨j, e1, e2⟩
  rcases r7_fin hr with ⟨i, e3⟩
  have := form_L j i
  rw [e1, e2, e3] at this
  exact this.resolve_left hp
theorem form_L0 {n r r2 : Int32} (h : rB n) (hp : ¬ formsF n.toNatClampNeg = 9) (hm : hmM n = 0) : lc21 (formsF n.toNatClampNeg) r = lcm (lf11 n r2) := by
  have a := hc_78 ((form_M' h hp).trans hm)
  have b := hm_67 hm
  rw [rc21 (r2 := 0) a.1 a.2, r11 (r2 := 0) b.1 b.2]
  exact form_L' h hp ⟨by decide, by decide⟩
