theorem sF_two1 (q : SQ) (k : SC) : sF (two1 q) k = sF (nx (nx q)) k := sF_i (nx (nx q)) k (wAt q)
theorem sF_two2 (q : SQ) (k : SC) : sF (two2 q) k = sF (nx (nx q)) k := sF_j (nx (nx q)) k (wAt q)
theorem leafC5a {q : SQ} {k : SC} {P : SF → Prop} (hI : Inv q) (h : P (sF (two2 q) (kwo2 q k))) : wX1_fetchWord (sF q k) (fun r24 u23 => (P (fs_code u23 (cs_second (f_code u23) r24)))) := by
  have h' := (congrArg P (sF_two2 q (kwo2 q k))).mp h
  exact iX1_fetchWord hI h'
theorem leafC5b {q : SQ} {k : SC} {C : SF → Prop} (hI : Inv q) (h : C (sF (two1 q) (kwo1 q k))) : wX1_fetchWord (sF q k) (fun r22 u21 => C (fs_code u21 (cs_first (f_code u21) r22))) := by
  have h' := (congrArg C (sF_two1 q (kwo1 q k))).mp h
  exact iX1_fetchWord hI h'
theorem leafC5 {q : SQ} {k : SC} {P : SF → Prop} (hI : Inv q) (h : P (sF (two2 (two1 q)) (kwo2 (two1 q) (kwo1 q k)))) : cL P 5 (sF q k) := by
  unfold cL
  rw [if_neg (by decide), if_neg (by decide), if_neg (by decide)]
  exact leafC5b (C := fun u => wX1_fetchWord u (fun r24 u23 => (P (fs_code u23 (cs_second (f_code u23) r24))))) hI (leafC5a (core_inv (core_two1 q) hI) h)
theorem leafC1' {q : SQ} {k : SC} {P : SF → Prop} (v : Int32) (hI : Inv q) (h : P (sF (qs_i (nx q) v) (cs_first (kn k) (bAt q)))) : cL P 1 (sF q k) :=
  leafC1 hI ((congrArg P (sF_i (nx q) (cs_first (kn k) (bAt q)) v)).mp h)
theorem leafC2' {q : SQ} {k : SC} {P : SF → Prop} (hI : Inv q) (h : P (sF (two1 q) (kwo1 q k))) : cL P 2 (sF q k) :=
  leafC2 hI ((congrArg P (sF_two1 q (kwo1 q k))).mp h)
