theorem sF_po (q : SQ) (k : SC) (a b : Int32) : sF (qs_place (qs_offset q a) b) k = sF q k := rfl
theorem sF_mem (q : SQ) (k : SC) (x : Int32) : sF (fMem q x) k = sF (dQ q x) k := sF_po (dQ q x) k (fOffs q x) (fSeg q (fSi q x))
theorem dQ_3 {q : SQ} (c : q_mode q = 3) : dQ q 0 = q := by
  unfold dQ
  rw [if_pos rfl, if_neg (by rw [c]; decide), if_neg (by rw [c]; decide)]
theorem Mo_3 {q : SQ} (c : q_mode q = 3) : fMo q = q := if_pos c
theorem Mo_n {q : SQ} (c : ¬ q_mode q = 3) : fMo q = fMem q (fMx q) := if_neg c
theorem Mx_0 {q : SQ} (h : ¬ (q_mode q = 0 ∧ q_m q = 6)) : fMx q = 0 := if_neg h
theorem Mx_1 {q : SQ} (h : q_mode q = 0 ∧ q_m q = 6) : fMx q = 1 := if_pos h
theorem dQ_1 (q : SQ) : dQ q 1 = nx (nx q) := if_neg (by decide)
