theorem pMo {q : SQ} {k : SC} {P : SF → Prop} (h : ¬ (q_mode q = 0 ∧ q_m q = 6)) (z : P (sF (fMo q) k)) : P (sF (dQ q 0) k) := by
  by_cases c : q_mode q = 3
  · rw [Mo_3 c] at z
    rw [dQ_3 c]
    exact z
  · rw [Mo_n c, Mx_0 h] at z
    exact (congrArg P (sF_mem q k 0)).mp z
theorem pMo1 {q : SQ} {k : SC} {P : SF → Prop} (h : q_mode q = 0 ∧ q_m q = 6) (z : P (sF (fMo q) k)) : P (sF (nx (nx q)) k) := by
  rw [Mo_n (by rw [h.1]; decide), Mx_1 h] at z
  have y := (congrArg P (sF_mem q k 1)).mp z
  rw [dQ_1] at y
  exact y
theorem MoK_0 {q : SQ} {k : SC} (h : ¬ (q_mode q = 0 ∧ q_m q = 6)) : fMoK q k = cs_offset (dK q 0 (cs_eSegment k (fSeg q (fSi q 0)))) (fX3 q + fX4 q + dV q 0 &&& 65535) := if_neg h
theorem MoK_1 {q : SQ} {k : SC} (h : q_mode q = 0 ∧ q_m q = 6) : fMoK q k = cs_offset (kn (kn (cs_eSegment k (fSeg q 3)))) (wAt q) := if_pos h
theorem cMoN {q : SQ} {k : SC} {P : SF → Prop} (hI : Inv q) (hs : rS q) (hgs : c_givenSegment k = q_segment q) (hmd : c_mode k = q_mode q) (hm : c_m k = q_m q) (h7 : r7 (q_m q)) (c : ¬ (q_mode q = 0 ∧ q_m q = 6)) (h : P (sF (fMo q) (fMoK q k))) : wX1_fetchM_b73 P (sF q k) := by
  have h' := pMo c h
  rw [MoK_0 c] at h'
  exact cDisp hI hs hgs hmd hm h7 h'
