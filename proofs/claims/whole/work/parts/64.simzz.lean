/-- M, both sides -/
def kMode (q : SQ) (k : SC) : SC := fMoK (fMb (bAt q) (nx q)) (kMb (bAt q) (kn k))
theorem jMode {q : SQ} {k : SC} (hI : Inv q) (hs : rS q) (hgs : c_givenSegment k = q_segment q) (hc : Cnt q k) :
    Core q (fMode q) ∧ KK k (kMode q k) ∧ Cnt (fMode q) (kMode q k) ∧ (cnt q ≤ 400 → cnt q ≤ cnt (fMode q) ∧ cnt (fMode q) ≤ cnt q + 3) ∧ (DecM (kMode q k) (fMode q) ∧ (¬ q_mode (fMode q) = 3 → rW (q_offset (fMode q)))) ∧
    (∀ P : SQ → Prop, P (fMode q) → wX6_fetchMode q P) ∧ (∀ P : SF → Prop, P (sF (fMode q) (kMode q k)) → wX1_fetchM (sF q k) P) := by
  have p1 : Core q (fMode q) := ((core_nx q).tr (core_Mb _ _)).tr (core_Mo _)
  have p2 : KK k (kMode q k) := ((kk_n k).tr (kk_Mb _ _)).tr (kk_Mo _ _)
  have p3 : Cnt (fMode q) (kMode q k) := Cnt_Mo (CntMb (bAt q) (Cnt_nx hc))
  have p4 : cnt q ≤ 400 → cnt q ≤ cnt (fMode q) ∧ cnt (fMode q) ≤ cnt q + 3 := by
    intro h
    have h1 := adv_nx q (by omega)
    have h2 := advMb (bAt q) (nx q) (by omega)
    unfold fMode
    exact ⟨by omega, by omega⟩
  exact ⟨p1, p2, p3, p4, decMb (bAt q) (inv_nx hI), fun P h => iX6_fetchMode hI hs h, fun P h => iX1_fetchM hI hs hgs h⟩
