theorem cMb {q : SQ} {k : SC} {P : SF → Prop} (b : Int32) (hI : Inv q) (hs : rS q) (hgs : c_givenSegment k = q_segment q) (h : P (sF (fMo (fMb b q)) (fMoK (fMb b q) (kMb b k)))) : cBehind P (fMb b q) (kMb b k) := by
  have hg : c_givenSegment (kMb b k) = c_givenSegment k := rfl
  have h1 : c_mode (kMb b k) = b >>> ((6 : Int32) &&& 31) := rfl
  have h2 : c_m (kMb b k) = b &&& 7 := rfl
  exact cMo (core_inv (core_Mb b q) hI) (core_rS (core_Mb b q) hs) (hg.trans (hgs.trans (core_Mb b q).2.1.2.1.symm)) (h1.trans (Mb_mode b q).symm) (h2.trans (Mb_m b q).symm) (by rw [Mb_m]; exact r7_and b) h
theorem nx_gs (k : SC) : c_givenSegment (kn k) = c_givenSegment k := rfl
theorem iX1_fetchM {q : SQ} {k : SC} {P : SF → Prop} (hI : Inv q) (hs : rS q) (hgs : c_givenSegment k = q_segment q) (h : P (sF (fMode q) (fMoK (fMb (bAt q) (nx q)) (kMb (bAt q) (kn k))))) : wX1_fetchM (sF q k) P := by
  have hI' : Inv (nx q) := inv_nx hI
  have hs' : rS (nx q) := core_rS (core_nx q) hs
  have hgs' : c_givenSegment (kn k) = q_segment (nx q) := (nx_gs k).trans (hgs.trans (core_nx q).2.1.2.1.symm)
  refine iX1_fetch hI ?_
  unfold fMode at h
  generalize nx q = q2 at *
  generalize bAt q = b at *
  generalize kn k = k2 at *
  exact behind (cMb b hI' hs' hgs' h)
