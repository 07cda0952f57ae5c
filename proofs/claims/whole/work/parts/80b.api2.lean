theorem xO_L (q : SQ) (v cd : Int32) (k : SC) : xO (qs_line q v) cd k = xs_waiting (xO q cd k) v := by
  dsimp only [xO, fDue, pO, mQ, rQ, mR, qs_line, xs_waiting, q_thrown, q_registers, q_segments, q_ip, q_flags, q_slots, q_bytes, q_pages, q_lost, q_ports, q_line, q_steps, q_repetitions, q_halted, q_trapped, q_gave, q_interrupted, q_begin, q_at, q_segment, q_repeat, q_code, q_mode, q_r, q_m, q_offset, q_place, q_i, q_j]
theorem invS_L {q : SQ} {v : Int32} (h : InvS q) (hv : v = -1 ∨ 0 ≤ v.toInt) : InvS (qs_line q v) := ⟨h.1, hv, h.2.2⟩
theorem t_L (q : SQ) (v : Int32) : q_thrown (qs_line q v) = q_thrown q := rfl
theorem fP_th (q : SQ) (a v : Int32) : fPort (th1 q v) a = fPort q a := rfl
theorem jPort {q : SQ} {k : SC} (a : Int32) (hI : InvS q) : Op1 (wX6_port a q) (fun u P _ => wX5_port a u P) q k :=
  Op1.rd (fPort q a) hI (fun P y => ⟨vp_255 a, y⟩) (fun P Px cd y => iX3_portByte (q := q) (cd := cd) (k := k) (P := fun r p => P r (xs_proc (xO q cd k) p)) hI.1 y)
theorem t_SetP (q : SQ) (a b : Int32) : q_thrown (fSetP q a b) = q_thrown q := rfl
theorem xO_SetP (q : SQ) (a b cd : Int32) (k : SC) : xO (fSetP q a b) cd k = xs_proc (xO q cd k) (pO (fSetP q a b) cd k) := by
  dsimp only [xO, fDue, pO, mQ, rQ, mR, fSetP, qs_ports, xs_proc, q_thrown, q_registers, q_segments, q_ip, q_flags, q_slots, q_bytes, q_pages, q_lost, q_ports, q_line, q_steps, q_repetitions, q_halted, q_trapped, q_gave, q_interrupted, q_begin, q_at, q_segment, q_repeat, q_code, q_mode, q_r, q_m, q_offset, q_place, q_i, q_j]
theorem invS_P {q : SQ} (h : InvS q) (a b : Int32) : InvS (fSetP q a b) := ⟨inv_setP h.1 a b, h.2⟩
theorem mSetP {q : SQ} {a b : Int32} {P : SQ → Prop} (y : P (fSetP (th1 q 0) a b)) : wX6_setPort a b q P := ⟨vp_255 a, y⟩
theorem jSetPort {q : SQ} {k : SC} (a b : Int32) (hI : InvS q) : Op0 (wX6_setPort a b q) (fun u P _ => wX5_setPort a b u P) q k := by
  have hI0 : InvS (th1 q 0) := th_inv 0 hI
  have hx := th_xO q 0
  refine Op0.wr (q2 := fSetP (th1 q 0) a b) (invS_P hI0 a b) ((t_SetP _ _ _).trans (th_t q 0)) (fun P y => mSetP y) (fun P Px cd y => ?_)
  show wX5_setPort a b (xO q cd k) P
  rw [← hx cd k]
  generalize th1 q 0 = q2 at *
  exact iX3_givePort (q := q2) (cd := cd) (k := k) (P := fun p => P (xs_proc (xO q2 cd k) p)) y
theorem xO_line0 (q : SQ) (v cd : Int32) (k : SC) : xO (qs_line (th1 q v) (q_line q)) cd k = xO q cd k := by
  dsimp only [xO, fDue, pO, mQ, rQ, mR, th1, qs_thrown, qs_line, q_thrown, q_registers, q_segments, q_ip, q_flags, q_slots, q_bytes, q_pages, q_lost, q_ports, q_line, q_steps, q_repetitions, q_halted, q_trapped, q_gave, q_interrupted, q_begin, q_at, q_segment, q_repeat, q_code, q_mode, q_r, q_m, q_offset, q_place, q_i, q_j]
theorem jLine {q : SQ} {k : SC} (a : Int32) (hI : InvS q) : Op0 (wX6_line a q) (fun u P Px => wX5_line a u P Px) q k := by
  have z0 : (0 : Int32).toInt = 0 := rfl
  have hI0 : InvS (th1 q 0) := th_inv 0 hI
  by_cases h : a ≤ 255
  · by_cases h0 : 0 ≤ a
    · have h0' : 0 ≤ a.toInt := by have := ti_le.mp h0; omega
      refine Op0.wr (q2 := qs_line (th1 q 0) a) (invS_L hI0 (Or.inr h0')) ((t_L _ _).trans (th_t q 0)) (fun P y => tk h (tk (by decide) (tk h0 y))) (fun P Px cd y => tk h (tk h0 ?_))
      rw [xO_L, th_xO] at y
      exact y
    · refine Op0.wr (q2 := qs_line (th1 q 0) (-1)) (invS_L hI0 (Or.inl rfl)) ((t_L _ _).trans (th_t q 0)) (fun P y => tk h (tk (by decide) (sk h0 y))) (fun P Px cd y => tk h (sk h0 ?_))
      rw [xO_L, th_xO] at y
      exact y
  · refine ⟨qs_line (th1 q 1) (q_line q), k, ⟨invS_L (th_inv 1 hI) hI.2.1, Or.inr ((t_L _ _).trans (th_t q 1))⟩, fun P y => sk h (sk (by decide) y), fun P Px cd _ y => sk h ?_⟩
    have y := y ((t_L _ _).trans (th_t q 1)) cd
    rw [xO_line0] at y
    exact y
theorem jCount {q : SQ} {k : SC} (a : Int32) (hI : InvS q) : Op1 (wX6_count a q) (fun u P Px => wX5_count a u P Px) q k := by
  have z : (3 : Int32).toInt = 3 := rfl
  by_cases h : 0 ≤ a.toInt ∧ a.toInt ≤ (3 : Int32).toInt
  · obtain ⟨h0, h1⟩ := h
    by_cases c0 : a = 0
    · exact Op1.rd (q_steps q) hI (fun P y => rg_ok h0 h1 (tk (by decide) (tk c0 y))) (fun P Px cd y => tk c0 y)
    by_cases c1 : a = 1
    · exact Op1.rd (q_pages q) hI (fun P y => rg_ok h0 h1 (tk (by decide) (sk c0 (tk c1 y)))) (fun P Px cd y => sk c0 (tk c1 y))
    by_cases c2 : a = 2
    · exact Op1.rd (q_lost q) hI (fun P y => rg_ok h0 h1 (tk (by decide) (sk c0 (sk c1 (tk c2 y))))) (fun P Px cd y => sk c0 (sk c1 (tk c2 y)))
    have c3 : a = 3 := ti_ext (by
      have a0 : ¬ a.toInt = 0 := fun z => c0 (ti_ext z)
      have a1 : ¬ a.toInt = 1 := fun z => c1 (ti_ext z)
      have a2 : ¬ a.toInt = 2 := fun z => c2 (ti_ext z)
      omega)
    exact Op1.rd (q_repetitions q) hI (fun P y => rg_ok h0 h1 (tk (by decide) (sk c0 (sk c1 (sk c2 y))))) (fun P Px cd y => sk c0 (sk c1 (sk c2 (tk c3 y))))
  · have n0 : ¬ a = 0 := fun e => h (by rw [e]; decide)
    have n1 : ¬ a = 1 := fun e => h (by rw [e]; decide)
    have n2 : ¬ a = 2 := fun e => h (by rw [e]; decide)
    have n3 : ¬ a = 3 := fun e => h (by rw [e]; decide)
    exact Op1.no hI (fun P y => rg_out h (sk (by decide) y) (sk (by decide) y)) (fun P Px cd y => sk n0 (sk n1 (sk n2 (sk n3 y))))
theorem jRunOp {q : SQ} {k : SC} (a : Int32) (hI : InvS q) : Op1 (wX6_run a q) (fun u P Px => wX5_run a u P Px) q k := by
  have z : (500 : Int32).toInt = 500 := rfl
  have z0 : (0 : Int32).toInt = 0 := rfl
  by_cases h : 0 ≤ a.toInt ∧ a.toInt ≤ (500 : Int32).toInt
  · obtain ⟨h0, h1⟩ := h
    obtain ⟨y, q1, k1, i1, t1, r1, r2⟩ := jRun 500 (th1 q 0) k a 0 (th_inv 0 hI) (th_t q 0) (by omega) (by omega) (by omega) (by omega)
    refine ⟨y, q1, k1, ⟨i1, Or.inl t1⟩, fun P g => rg_ok h0 h1 (r1 P g), fun P Px cd g _ => rg_ok h0 h1 ?_⟩
    obtain ⟨n, hn⟩ := r2 P Px (g t1)
    have := hn cd
    rw [th_xO] at this
    exact ⟨n, this⟩
  · have ex : ∀ P : Int32 → SQ → Prop, P 0 (th1 q 1) → wX6_run_b24 a P 1 0 0 (th1 q 1) := fun P y => by
      rw [wX6_run_b24]
      exact ⟨fun _ => y, fun _ => sk (by rw [th_t]; decide) y⟩
    exact Op1.no hI (fun P y => rg_out h ⟨1, ex P y⟩ ⟨1, ex P y⟩) (fun P Px cd y => rg_out h y y)
