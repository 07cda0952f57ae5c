-- ----- the numbers behind a code, each leaf on both sides
def two1 (q : SQ) : SQ := qs_i (nx (nx q)) (wAt q)
def two2 (q : SQ) : SQ := qs_j (nx (nx q)) (wAt q)
def kwo1 (q : SQ) (k : SC) : SC := cs_first (kn (kn k)) (wAt q)
def kwo2 (q : SQ) (k : SC) : SC := cs_second (kn (kn k)) (wAt q)
theorem core_two1 (q : SQ) : Core q (two1 q) := ((core_nx q).tr (core_nx _)).tr (core_i _ _)
theorem core_two2 (q : SQ) : Core q (two2 q) := ((core_nx q).tr (core_nx _)).tr (core_j _ _)
theorem leafM1 {q : SQ} {P : Int32 → SQ → Prop} (hI : Inv q) (h : wX6_follows_b508 P (qs_i (nx q) (bAt q))) : mL P 1 q := by
  unfold mL
  rw [if_neg (by decide), if_pos rfl]
  exact iX6_fetch hI h
theorem leafM2 {q : SQ} {P : Int32 → SQ → Prop} (hI : Inv q) (h : wX6_follows_b508 P (two1 q)) : mL P 2 q := by
  unfold mL
  rw [if_neg (by decide), if_neg (by decide), if_pos rfl]
  exact iX6_fetchWord hI h
theorem leafM3 {q : SQ} {P : Int32 → SQ → Prop} (hI : Inv q) (h : wX6_follows_b508 P (qs_i (nx q) (fExt (bAt q)))) : mL P 3 q := by
  unfold mL
  rw [if_neg (by decide), if_neg (by decide), if_neg (by decide), if_pos rfl]
  exact iX6_fetch hI (iX6_extended h)
theorem leafM4 {q : SQ} {P : Int32 → SQ → Prop} (hI : Inv q) (h : wX6_follows_b508 P (qs_i (nx q) (fExt (bAt q) &&& 65535))) : mL P 4 q := by
  unfold mL
  rw [if_neg (by decide), if_neg (by decide), if_neg (by decide), if_neg (by decide), if_pos rfl]
  exact iX6_fetch hI (iX6_extended h)
theorem leafM5 {q : SQ} {P : Int32 → SQ → Prop} (hI : Inv q) (h : wX6_follows_b508 P (two2 (two1 q))) : mL P 5 q := by
  unfold mL
  rw [if_neg (by decide), if_neg (by decide), if_neg (by decide), if_neg (by decide), if_neg (by decide)]
  have hI2 : Inv (two1 q) := core_inv (core_two1 q) hI
  refine iX6_fetchWord hI ?_
  show wX6_fetchWord (two1 q) (fun r43 u42 => wX6_follows_b508 P (qs_j u42 r43))
  exact iX6_fetchWord hI2 h
theorem leafC1 {q : SQ} {k : SC} {P : SF → Prop} (hI : Inv q) (h : P (sF (nx q) (cs_first (kn k) (bAt q)))) : cL P 1 (sF q k) := by
  unfold cL
  rw [if_neg (by decide), if_pos rfl]
  exact iX1_fetch hI h
theorem leafC2 {q : SQ} {k : SC} {P : SF → Prop} (hI : Inv q) (h : P (sF (nx (nx q)) (kwo1 q k))) : cL P 2 (sF q k) := by
  unfold cL
  rw [if_neg (by decide), if_neg (by decide), if_pos rfl]
  exact iX1_fetchWord hI h
