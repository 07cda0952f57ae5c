-- ===== the calls, both sides
def th1 (q : SQ) (v : Int32) : SQ := qs_thrown q v
theorem th_inv {q : SQ} (v : Int32) (h : InvS q) : InvS (th1 q v) := h
theorem th_xO (q : SQ) (v cd : Int32) (k : SC) : xO (th1 q v) cd k = xO q cd k := by
  dsimp only [xO, fDue, xs_proc, pO, mQ, rQ, mR, th1, qs_thrown, q_thrown, q_registers, q_segments, q_ip, q_flags, q_slots, q_bytes, q_pages, q_lost, q_ports, q_line, q_steps, q_repetitions, q_halted, q_trapped, q_gave, q_interrupted, q_begin, q_at, q_segment, q_repeat, q_code, q_mode, q_r, q_m, q_offset, q_place, q_i, q_j]
theorem th_t (q : SQ) (v : Int32) : q_thrown (th1 q v) = v := rfl
def T01 (q : SQ) : Prop := q_thrown q = 0 ∨ q_thrown q = 1
def Op0 (wm : (SQ → Prop) → Prop) (wc : SX → (SX → Prop) → (SX → Prop) → Prop) (q : SQ) (k : SC) : Prop := ∃ q1 k1, (InvS q1 ∧ T01 q1) ∧ (∀ P : SQ → Prop, P q1 → wm P) ∧ (∀ (P Px : SX → Prop) (cd : Int32), (q_thrown q1 = 0 → ∀ cd, P (xO q1 cd k1)) → (q_thrown q1 = 1 → ∀ cd, Px (xO q1 cd k1)) → wc (xO q cd k) P Px)
def Op1 (wm : (Int32 → SQ → Prop) → Prop) (wc : SX → (Int32 → SX → Prop) → (SX → Prop) → Prop) (q : SQ) (k : SC) : Prop := ∃ r q1 k1, (InvS q1 ∧ T01 q1) ∧ (∀ P : Int32 → SQ → Prop, P r q1 → wm P) ∧ (∀ (P : Int32 → SX → Prop) (Px : SX → Prop) (cd : Int32), (q_thrown q1 = 0 → ∀ cd, P r (xO q1 cd k1)) → (q_thrown q1 = 1 → ∀ cd, Px (xO q1 cd k1)) → wc (xO q cd k) P Px)
/-- a refused call -/
theorem Op0.no {wm : (SQ → Prop) → Prop} {wc : SX → (SX → Prop) → (SX → Prop) → Prop} {q : SQ} {k : SC} (hI : InvS q) (hm : ∀ P : SQ → Prop, P (th1 q 1) → wm P) (hc : ∀ (P Px : SX → Prop) (cd : Int32), Px (xO q cd k) → wc (xO q cd k) P Px) : Op0 wm wc q k :=
  ⟨th1 q 1, k, ⟨th_inv 1 hI, Or.inr rfl⟩, hm, fun P Px cd _ h => hc P Px cd (h rfl cd)⟩
theorem Op1.no {wm : (Int32 → SQ → Prop) → Prop} {wc : SX → (Int32 → SX → Prop) → (SX → Prop) → Prop} {q : SQ} {k : SC} (hI : InvS q) (hm : ∀ P : Int32 → SQ → Prop, P 0 (th1 q 1) → wm P) (hc : ∀ (P : Int32 → SX → Prop) (Px : SX → Prop) (cd : Int32), Px (xO q cd k) → wc (xO q cd k) P Px) : Op1 wm wc q k :=
  ⟨0, th1 q 1, k, ⟨th_inv 1 hI, Or.inr rfl⟩, hm, fun P Px cd _ h => hc P Px cd (h rfl cd)⟩
/-- a call that answers r and leaves all as it is -/
theorem Op1.rd {wm : (Int32 → SQ → Prop) → Prop} {wc : SX → (Int32 → SX → Prop) → (SX → Prop) → Prop} {q : SQ} {k : SC} (r : Int32) (hI : InvS q) (hm : ∀ P : Int32 → SQ → Prop, P r (th1 q 0) → wm P) (hc : ∀ (P : Int32 → SX → Prop) (Px : SX → Prop) (cd : Int32), P r (xO q cd k) → wc (xO q cd k) P Px) : Op1 wm wc q k :=
  ⟨r, th1 q 0, k, ⟨th_inv 0 hI, Or.inl rfl⟩, hm, fun P Px cd h _ => hc P Px cd (h rfl cd)⟩
/-- a call that makes q2 out of q (thrown: 0) -/
theorem Op0.wr {wm : (SQ → Prop) → Prop} {wc : SX → (SX → Prop) → (SX → Prop) → Prop} {q q2 : SQ} {k : SC} (hI : InvS q2) (ht : q_thrown q2 = 0) (hm : ∀ P : SQ → Prop, P q2 → wm P) (hc : ∀ (P Px : SX → Prop) (cd : Int32), P (xO q2 cd k) → wc (xO q cd k) P Px) : Op0 wm wc q k :=
  ⟨q2, k, ⟨hI, Or.inl ht⟩, hm, fun P Px cd h _ => hc P Px cd (h ht cd)⟩
theorem xO_R (q : SQ) (f : A32) (cd : Int32) (k : SC) : xO (qs_registers q f) cd k = xs_proc (xO q cd k) (pO (qs_registers q f) cd k) := by
  dsimp only [xO, fDue, xs_proc, pO, mQ, rQ, mR, qs_registers, q_thrown, q_registers, q_segments, q_ip, q_flags, q_slots, q_bytes, q_pages, q_lost, q_ports, q_line, q_steps, q_repetitions, q_halted, q_trapped, q_gave, q_interrupted, q_begin, q_at, q_segment, q_repeat, q_code, q_mode, q_r, q_m, q_offset, q_place, q_i, q_j]
theorem xO_Sg (q : SQ) (f : A32) (cd : Int32) (k : SC) : xO (qs_segments q f) cd k = xs_proc (xO q cd k) (pO (qs_segments q f) cd k) := by
  dsimp only [xO, fDue, xs_proc, pO, mQ, rQ, mR, qs_segments, q_thrown, q_registers, q_segments, q_ip, q_flags, q_slots, q_bytes, q_pages, q_lost, q_ports, q_line, q_steps, q_repetitions, q_halted, q_trapped, q_gave, q_interrupted, q_begin, q_at, q_segment, q_repeat, q_code, q_mode, q_r, q_m, q_offset, q_place, q_i, q_j]
theorem xO_Ip (q : SQ) (v cd : Int32) (k : SC) : xO (qs_ip q v) cd k = xs_proc (xO q cd k) (pO (qs_ip q v) cd k) := by
  dsimp only [xO, fDue, xs_proc, pO, mQ, rQ, mR, qs_ip, q_thrown, q_registers, q_segments, q_ip, q_flags, q_slots, q_bytes, q_pages, q_lost, q_ports, q_line, q_steps, q_repetitions, q_halted, q_trapped, q_gave, q_interrupted, q_begin, q_at, q_segment, q_repeat, q_code, q_mode, q_r, q_m, q_offset, q_place, q_i, q_j]
theorem xO_F (q : SQ) (v cd : Int32) (k : SC) : xO (qs_flags q v) cd k = xs_proc (xO q cd k) (pO (qs_flags q v) cd k) := by
  dsimp only [xO, fDue, xs_proc, pO, mQ, rQ, mR, qs_flags, q_thrown, q_registers, q_segments, q_ip, q_flags, q_slots, q_bytes, q_pages, q_lost, q_ports, q_line, q_steps, q_repetitions, q_halted, q_trapped, q_gave, q_interrupted, q_begin, q_at, q_segment, q_repeat, q_code, q_mode, q_r, q_m, q_offset, q_place, q_i, q_j]
theorem xO_M (q : SQ) (u : SM) (cd : Int32) (k : SC) : xO (sMQ q u) cd k = xs_proc (xO q cd k) (pO (sMQ q u) cd k) := by
  dsimp only [xO, fDue, xs_proc, pO, mQ, rQ, mR, sMQ, qs_bytes, qs_slots, qs_pages, qs_lost, m_cells, m_pn, m_pages, m_lost, q_thrown, q_registers, q_segments, q_ip, q_flags, q_slots, q_bytes, q_pages, q_lost, q_ports, q_line, q_steps, q_repetitions, q_halted, q_trapped, q_gave, q_interrupted, q_begin, q_at, q_segment, q_repeat, q_code, q_mode, q_r, q_m, q_offset, q_place, q_i, q_j]
theorem xO_Pt (q : SQ) (f : A32) (cd : Int32) (k : SC) : xO (qs_ports q f) cd k = xs_proc (xO q cd k) (pO (qs_ports q f) cd k) := by
  dsimp only [xO, fDue, xs_proc, pO, mQ, rQ, mR, qs_ports, q_thrown, q_registers, q_segments, q_ip, q_flags, q_slots, q_bytes, q_pages, q_lost, q_ports, q_line, q_steps, q_repetitions, q_halted, q_trapped, q_gave, q_interrupted, q_begin, q_at, q_segment, q_repeat, q_code, q_mode, q_r, q_m, q_offset, q_place, q_i, q_j]
theorem invS_R {q : SQ} {f : A32} (h : InvS q) (hf : ∀ i, rW (f i)) : InvS (qs_registers q f) := ⟨inv_R h.1 hf, h.2⟩
theorem invS_Sg {q : SQ} {f : A32} (h : InvS q) (hf : ∀ i, rW (f i)) : InvS (qs_segments q f) := ⟨inv_Sg h.1 hf, h.2⟩
theorem invS_Ip {q : SQ} {v : Int32} (h : InvS q) (hv : rW v) : InvS (qs_ip q v) := ⟨inv_Ip h.1 hv, h.2⟩
theorem invS_F {q : SQ} (v : Int32) (h : InvS q) : InvS (qs_flags q v) := h
theorem invS_M {q : SQ} {u : SM} (h : InvS q) (hu : InvM u) : InvS (sMQ q u) := ⟨inv_Mm h.1 hu, h.2⟩
theorem t_R (q : SQ) (f : A32) : q_thrown (qs_registers q f) = q_thrown q := rfl
theorem t_Sg (q : SQ) (f : A32) : q_thrown (qs_segments q f) = q_thrown q := rfl
theorem t_Ip (q : SQ) (v : Int32) : q_thrown (qs_ip q v) = q_thrown q := rfl
theorem t_F (q : SQ) (v : Int32) : q_thrown (qs_flags q v) = q_thrown q := rfl
theorem t_M (q : SQ) (u : SM) : q_thrown (sMQ q u) = q_thrown q := rfl
theorem i10 : (1 : Int32) ≤ 0 ↔ False := by decide
/-- a number of a register that is none -/
theorem rg_no {a : Int32} (h : ¬ (0 ≤ a.toInt ∧ a.toInt ≤ 13)) {A B C : Prop} (hA : A) (hC : C) : (a < 0 → A) ∧ (¬ a < 0 → (a ≤ 13 → B) ∧ (¬ a ≤ 13 → C)) := by
  have z0 : (0 : Int32).toInt = 0 := rfl
  have z1 : (13 : Int32).toInt = 13 := rfl
  refine ⟨fun _ => hA, fun c => ⟨fun d => absurd ⟨?_, ?_⟩ h, fun _ => hC⟩⟩
  · have h3 : ¬ a.toInt < (0 : Int32).toInt := fun z => c (ti_lt.mpr z)
    omega
  · have := ti_le.mp d
    omega
theorem rg_ok {a n : Int32} (h0 : 0 ≤ a.toInt) (h1 : a.toInt ≤ n.toInt) {A B C : Prop} (hB : B) : (a < 0 → A) ∧ (¬ a < 0 → (a ≤ n → B) ∧ (¬ a ≤ n → C)) :=
  sk (fun z => by have := ti_lt.mp z; have z0 : (0 : Int32).toInt = 0 := rfl; omega) (tk (ti_le.mpr h1) hB)
theorem rg_out {a n : Int32} (h : ¬ (0 ≤ a.toInt ∧ a.toInt ≤ n.toInt)) {A B C : Prop} (hA : A) (hC : C) : (a < 0 → A) ∧ (¬ a < 0 → (a ≤ n → B) ∧ (¬ a ≤ n → C)) := by
  have z0 : (0 : Int32).toInt = 0 := rfl
  refine ⟨fun _ => hA, fun c => ⟨fun d => absurd ⟨?_, ti_le.mp d⟩ h, fun _ => hC⟩⟩
  have h3 : ¬ a.toInt < (0 : Int32).toInt := fun z => c (ti_lt.mpr z)
  omega
theorem jSet {q : SQ} {k : SC} (a b : Int32) (hI : InvS q) : Op0 (wX6_set a b q) (fun u P Px => wX5_set a b u P Px) q k := by
  have z8 : (8 : Int32).toInt = 8 := rfl
  have z12 : (12 : Int32).toInt = 12 := rfl
  have z13 : (13 : Int32).toInt = 13 := rfl
  have hI0 : InvS (th1 q 0) := th_inv 0 hI
  have hx := th_xO q 0
  have ht := th_t q 0
  by_cases h : 0 ≤ a.toInt ∧ a.toInt ≤ (13 : Int32).toInt
  · obtain ⟨h0, h1⟩ := h
    have eM : ∀ P : SQ → Prop, ((8 : Int32) ≤ a → (((12 : Int32) ≤ a → ((a = (12 : Int32) → (P (qs_ip (th1 q 0) (b &&& (65535 : Int32))))) ∧ (¬ a = (12 : Int32) → (P (qs_flags (th1 q 0) (b &&& (4053 : Int32))))))) ∧ (¬ (12 : Int32) ≤ a → (vp_in (a - (8 : Int32)) 4 ∧ (P (qs_segments (th1 q 0) (upd (q_segments q) (a - (8 : Int32)).toNatClampNeg (b &&& (65535 : Int32))))))))) ∧ (¬ (8 : Int32) ≤ a → (vp_in a 8 ∧ (P (qs_registers (th1 q 0) (upd (q_registers q) a.toNatClampNeg (b &&& (65535 : Int32))))))) → wX6_set a b q P := fun P y => rg_ok h0 h1 (tk (by decide) y)
    have es : q_segments q = q_segments (th1 q 0) := rfl
    have er : q_registers q = q_registers (th1 q 0) := rfl
    rw [es, er] at eM
    have eC : ∀ (P Px : SX → Prop) (cd : Int32), ((a = (13 : Int32) → (wX0_keep b (p_flags (x_proc (xO (th1 q 0) cd k))) (fun u12 => (P (xs_proc (xO (th1 q 0) cd k) (ps_flags (x_proc (xO (th1 q 0) cd k)) u12)))))) ∧ (¬ a = (13 : Int32) → ((a = (12 : Int32) → (wX4_moveTo b (p_regs (x_proc (xO (th1 q 0) cd k))) (fun u10 => (P (xs_proc (xO (th1 q 0) cd k) (ps_regs (x_proc (xO (th1 q 0) cd k)) u10)))))) ∧ (¬ a = (12 : Int32) → ((a < (8 : Int32) → (wX4_setWord a b (p_regs (x_proc (xO (th1 q 0) cd k))) (fun u6 => (P (xs_proc (xO (th1 q 0) cd k) (ps_regs (x_proc (xO (th1 q 0) cd k)) u6)))))) ∧ (¬ a < (8 : Int32) → (wX4_setSegment (a - (8 : Int32)) b (p_regs (x_proc (xO (th1 q 0) cd k))) (fun u8 => (P (xs_proc (xO (th1 q 0) cd k) (ps_regs (x_proc (xO (th1 q 0) cd k)) u8))))))))))) → wX5_set a b (xO q cd k) P Px := fun P Px cd y => by
      rw [hx] at y
      exact rg_ok h0 h1 y
    generalize th1 q 0 = q2 at *
    by_cases c8 : 8 ≤ a.toInt
    · by_cases c12 : 12 ≤ a.toInt
      · by_cases e12 : a = 12
        · refine Op0.wr (q2 := qs_ip q2 (b &&& 65535)) (invS_Ip hI0 (rW_and b)) ((t_Ip _ _).trans ht) (fun P h => eM P (tk (ti_le.mpr (by omega)) (tk (ti_le.mpr (by omega)) (tk e12 h)))) (fun P Px cd h => eC P Px cd (sk (by rw [e12]; decide) (tk e12 ?_)))
          exact iP_moveTo (q := q2) (P := fun p => P (xs_proc (xO q2 cd k) p)) h
        · have e13 : a = 13 := ti_ext (by
            have : ¬ a.toInt = 12 := fun z => e12 (ti_ext z)
            omega)
          refine Op0.wr (q2 := qs_flags q2 (b &&& 4053)) (invS_F _ hI0) ((t_F _ _).trans ht) (fun P h => eM P (tk (ti_le.mpr (by omega)) (tk (ti_le.mpr (by omega)) (sk e12 h)))) (fun P Px cd h => eC P Px cd (tk e13 ?_))
          exact iP_keep (q := q2) (P := fun p => P (xs_proc (xO q2 cd k) p)) h
      · have c12' : ¬ (12 : Int32) ≤ a := fun z => by have := ti_le.mp z; omega
        have e12 : ¬ a = 12 := fun z => by rw [z] at c12; exact c12 (by decide)
        have e13 : ¬ a = 13 := fun z => by rw [z] at c12; exact c12 (by decide)
        have es8 : (a - 8).toInt = a.toInt - 8 := by rw [ti_sub (by omega) (by omega), z8]
        have r3a : r3 (a - 8) := by unfold r3; omega
        refine Op0.wr (q2 := qs_segments q2 (upd (q_segments q2) (a - 8).toNatClampNeg (b &&& 65535))) (invS_Sg hI0 (inv_updW hI0.1.2.1.2.1 _ (rW_and b))) ((t_Sg _ _).trans ht) (fun P h => eM P (tk (ti_le.mpr (by omega)) (sk c12' ⟨ti_in r3a.1 (by have := r3a.2; omega), h⟩))) (fun P Px cd h => eC P Px cd (sk e13 (sk e12 (sk (fun z => by have := ti_lt.mp z; omega) ?_))))
        refine iP_setSegment (q := q2) (P := fun p => P (xs_proc (xO q2 cd k) p)) ?_
        rw [and3_id r3a]
        exact h
    · have c8' : ¬ (8 : Int32) ≤ a := fun z => by have := ti_le.mp z; omega
      have e12 : ¬ a = 12 := fun z => by rw [z] at c8; exact c8 (by decide)
      have e13 : ¬ a = 13 := fun z => by rw [z] at c8; exact c8 (by decide)
      have r7a : r7 a := by unfold r7; omega
      refine Op0.wr (q2 := qs_registers q2 (upd (q_registers q2) a.toNatClampNeg (b &&& 65535))) (invS_R hI0 (inv_updW hI0.1.2.1.1 _ (rW_and b))) ((t_R _ _).trans ht) (fun P h => eM P (sk c8' ⟨vp_7 r7a, h⟩)) (fun P Px cd h => eC P Px cd (sk e13 (sk e12 (tk (ti_lt.mpr (by omega)) ?_))))
      refine iP_setWord (q := q2) (P := fun p => P (xs_proc (xO q2 cd k) p)) ?_
      rw [and7_id r7a]
      exact h
  · refine Op0.no hI (fun P y => rg_out h (sk (by decide) y) (sk (by decide) y)) (fun P Px cd y => rg_out h y y)
theorem jGet {q : SQ} {k : SC} (a : Int32) (hI : InvS q) : Op1 (wX6_get_ a q) (fun u P Px => wX5_get a u P Px) q k := by
  have z8 : (8 : Int32).toInt = 8 := rfl
  have z12 : (12 : Int32).toInt = 12 := rfl
  have z13 : (13 : Int32).toInt = 13 := rfl
  by_cases h : 0 ≤ a.toInt ∧ a.toInt ≤ (13 : Int32).toInt
  · obtain ⟨h0, h1⟩ := h
    by_cases c8 : 8 ≤ a.toInt
    · by_cases c12 : 12 ≤ a.toInt
      · by_cases e12 : a = 12
        · exact Op1.rd (q_ip q) hI (fun P y => rg_ok h0 h1 (tk (by decide) (tk (ti_le.mpr (by omega)) (tk (ti_le.mpr (by omega)) (tk e12 y))))) (fun P Px cd y => rg_ok h0 h1 (sk (by rw [e12]; decide) (tk e12 y)))
        · have e13 : a = 13 := ti_ext (by
            have : ¬ a.toInt = 12 := fun z => e12 (ti_ext z)
            omega)
          exact Op1.rd (q_flags q) hI (fun P y => rg_ok h0 h1 (tk (by decide) (tk (ti_le.mpr (by omega)) (tk (ti_le.mpr (by omega)) (sk e12 y))))) (fun P Px cd y => rg_ok h0 h1 (tk e13 y))
      · have c12' : ¬ (12 : Int32) ≤ a := fun z => by have := ti_le.mp z; omega
        have e12 : ¬ a = 12 := fun z => by rw [z] at c12; exact c12 (by decide)
        have e13 : ¬ a = 13 := fun z => by rw [z] at c12; exact c12 (by decide)
        have es8 : (a - 8).toInt = a.toInt - 8 := by rw [ti_sub (by omega) (by omega), z8]
        have r3a : r3 (a - 8) := by unfold r3; omega
        refine Op1.rd (q_segments q (a - 8).toNatClampNeg) hI (fun P y => rg_ok h0 h1 (tk (by decide) (tk (ti_le.mpr (by omega)) (sk c12' ⟨ti_in r3a.1 (by have := r3a.2; omega), y⟩)))) (fun P Px cd y => rg_ok h0 h1 (sk e13 (sk e12 (sk (fun z => by have := ti_lt.mp z; omega) ?_))))
        refine iP_segment (q := q) (cd := cd) (k := k) (P := fun r p => P r (xs_proc (xO q cd k) p)) ?_
        rw [and3_id r3a]
        exact y
    · have c8' : ¬ (8 : Int32) ≤ a := fun z => by have := ti_le.mp z; omega
      have e12 : ¬ a = 12 := fun z => by rw [z] at c8; exact c8 (by decide)
      have e13 : ¬ a = 13 := fun z => by rw [z] at c8; exact c8 (by decide)
      have r7a : r7 a := by unfold r7; omega
      refine Op1.rd (q_registers q a.toNatClampNeg) hI (fun P y => rg_ok h0 h1 (tk (by decide) (sk c8' ⟨vp_7 r7a, y⟩))) (fun P Px cd y => rg_ok h0 h1 (sk e13 (sk e12 (tk (ti_lt.mpr (by omega)) ?_))))
      refine iP_word (q := q) (cd := cd) (k := k) (P := fun r p => P r (xs_proc (xO q cd k) p)) ?_
      rw [and7_id r7a]
      exact y
  · exact Op1.no hI (fun P y => rg_out h (sk (by decide) y) (sk (by decide) y)) (fun P Px cd y => rg_out h y y)
theorem jWriteL (m : Nat) : ∀ (q : SQ) (a b x : Int32), InvS q → q_thrown q = 0 → x.toInt = 4 - m → m ≤ 4 → 0 ≤ a.toInt → a.toInt ≤ 1048572 → ∃ q1, InvS q1 ∧ q_thrown q1 = 0 ∧ (∀ P : SQ → Prop, P q1 → ∃ n, wX6_write_b22 a b P n x q) ∧ (∀ (P Px : SX → Prop) (cd : Int32) (k : SC), P (xO q1 cd k) → ∃ n, wX5_write_b22 a b P Px n x (xO q cd k)) := by
  have e1 : (1 : Int32).toInt = 1 := rfl
  have e4 : (4 : Int32).toInt = 4 := rfl
  induction m with
  | zero =>
    intro q a b x hI ht hx _ _ _
    have hx4 : (4 : Int32) ≤ x := ti_le.mpr (by omega)
    refine ⟨q, hI, ht, fun P h => ⟨1, ?_⟩, fun P Px cd k h => ⟨1, ?_⟩⟩
    · rw [wX6_write_b22]; exact tk hx4 h
    · rw [wX5_write_b22]; exact tk hx4 h
  | succ m ih =>
    intro q a b x hI ht hx hm h0 h1
    have hx4 : ¬ (4 : Int32) ≤ x := fun z => by have := ti_le.mp z; omega
    have ex : (x + 1).toInt = x.toInt + 1 := by rw [ti_add (by omega) (by omega), e1]
    have ea : (a + x).toInt = a.toInt + x.toInt := ti_add (by omega) (by omega)
    have rp : rP (a + x) := by unfold rP; omega
    obtain ⟨q1, i1, t1, r1, r2⟩ := ih (sMQ q (fStore (mQ q) (a + x) (b >>> (((24 : Int32) - ((8 : Int32) * x)) &&& 31)))) a b (x + 1) (invS_M hI (inv_storeM hI.1.1)) ((t_M _ _).trans ht) (by omega) (by omega) h0 h1
    refine ⟨q1, i1, t1, fun P h => ?_, fun P Px cd k h => ?_⟩
    · obtain ⟨n, hn⟩ := r1 P h
      refine ⟨n + 1, ?_⟩
      rw [wX6_write_b22]
      exact sk hx4 (tk ht (iX6_store hI.1.1 rp hn))
    · obtain ⟨n, hn⟩ := r2 P Px cd k h
      refine ⟨n + 1, ?_⟩
      rw [wX5_write_b22]
      rw [xO_M] at hn
      refine sk hx4 ?_
      exact iX2_put (u := mQ q) (P := fun u4 => wX5_write_b22 a b P Px n (x + 1) (xs_proc (xO q cd k) (ps_mem (x_proc (xO q cd k)) u4))) hI.1.1 rp hn
theorem jWrite {q : SQ} {k : SC} (a b : Int32) (hI : InvS q) : Op0 (wX6_write a b q) (fun u P Px => wX5_write a b u P Px) q k := by
  have z : (1048572 : Int32).toInt = 1048572 := rfl
  by_cases h : 0 ≤ a.toInt ∧ a.toInt ≤ (1048572 : Int32).toInt
  · obtain ⟨h0, h1⟩ := h
    obtain ⟨q1, i1, t1, r1, r2⟩ := jWriteL 4 (th1 q 0) a b 0 (th_inv 0 hI) (th_t q 0) rfl (by decide) h0 (by omega)
    refine Op0.wr (q2 := q1) i1 t1 (fun P y => rg_ok h0 h1 (r1 P y)) (fun P Px cd y => rg_ok h0 h1 ?_)
    have := r2 P Px cd k y
    rw [th_xO] at this
    exact this
  · refine Op0.no hI (fun P y => rg_out h ⟨1, ?_⟩ ⟨1, ?_⟩) (fun P Px cd y => rg_out h y y)
    · rw [wX6_write_b22]; exact sk (by decide) (sk (fun z => absurd (show (1 : Int32) = 0 from z) (by decide)) y)
    · rw [wX6_write_b22]; exact sk (by decide) (sk (fun z => absurd (show (1 : Int32) = 0 from z) (by decide)) y)
theorem jByteAt {q : SQ} {k : SC} (a : Int32) (hI : InvS q) : Op1 (wX6_byteAt a q) (fun u P Px => wX5_byteAt a u P Px) q k := by
  have z : (1048575 : Int32).toInt = 1048575 := rfl
  by_cases h : 0 ≤ a.toInt ∧ a.toInt ≤ (1048575 : Int32).toInt
  · obtain ⟨h0, h1⟩ := h
    have rp : rP a := ⟨h0, by omega⟩
    refine Op1.rd (fLoad (mQ q) a) hI (fun P y => rg_ok h0 h1 (tk (by decide) ?_)) (fun P Px cd y => rg_ok h0 h1 ?_)
    · show wX6_load a (th1 q 0) (fun r5 u4 => P r5 u4)
      exact iX6_load (q := th1 q 0) (th_inv 0 hI).1.1 rp y
    · exact iX2_at (u := mQ q) (P := fun r4 u3 => P r4 (xs_proc (xO q cd k) (ps_mem (x_proc (xO q cd k)) u3))) hI.1.1 rp y
  · exact Op1.no hI (fun P y => rg_out h (sk (by decide) y) (sk (by decide) y)) (fun P Px cd y => rg_out h y y)
