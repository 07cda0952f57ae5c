theorem cMoD {q : SQ} {k : SC} {P : SF → Prop} (hI : Inv q) (c : q_mode q = 0 ∧ q_m q = 6) (h : P (sF (fMo q) (fMoK q k))) : wX1_fetchWord (sF q (cs_eSegment k (fSeg q 3))) (fun r10 u9 => P (fs_code u9 (cs_offset (f_code u9) r10))) := by
  have h' := pMo1 c h
  rw [MoK_1 c] at h'
  exact iX1_fetchWord hI h'
/-- what the class does behind the M byte -/
def cBehind (P : SF → Prop) (q : SQ) (k : SC) : Prop := (q_mode q = 0 → ((q_m q = 6 → wX1_segmentOr 3 k (fun r6 u5 => wX4_segment r6 (q_registers q, q_segments q, q_at q &&& 65535) (fun r8 u7 => wX1_fetchWord (cs_eSegment u5 r8, mR (mQ q), u7) (fun r10 u9 => P (fs_code u9 (cs_offset (f_code u9) r10)))))) ∧ (¬ q_m q = 6 → wX1_fetchM_b73 P (sF q k)))) ∧ (¬ q_mode q = 0 → wX1_fetchM_b73 P (sF q k))
theorem cMo {q : SQ} {k : SC} {P : SF → Prop} (hI : Inv q) (hs : rS q) (hgs : c_givenSegment k = q_segment q) (hmd : c_mode k = q_mode q) (hm : c_m k = q_m q) (h7 : r7 (q_m q)) (h : P (sF (fMo q) (fMoK q k))) : cBehind P q k := by
  refine ⟨fun c => ⟨fun d => ?_, fun d => cMoN hI hs hgs hmd hm h7 (fun z => d z.2) h⟩, fun c => cMoN hI hs hgs hmd hm h7 (fun z => c z.1) h⟩
  exact iX1_seg (q := q) (C := fun r8 u5 u7 => wX1_fetchWord (cs_eSegment u5 r8, mR (mQ q), u7) (fun r10 u9 => P (fs_code u9 (cs_offset (f_code u9) r10)))) hs hgs r3_3 (cMoD hI ⟨c, d⟩ h)
theorem behind {b : Int32} {q : SQ} {k : SC} {P : SF → Prop} (h : cBehind P (fMb b q) (kMb b k)) : (((b >>> ((6 : Int32) &&& 31)) = (0 : Int32) → (((b &&& (7 : Int32)) = (6 : Int32) → (wX1_segmentOr (3 : Int32) (kMb b k) (fun r6 u5 => (wX4_segment r6 (q_registers q, q_segments q, q_at q &&& 65535) (fun r8 u7 => (wX1_fetchWord (cs_eSegment u5 r8, mR (mQ q), u7) (fun r10 u9 => (P (fs_code u9 (cs_offset (f_code u9) r10)))))))))) ∧ (¬ (b &&& (7 : Int32)) = (6 : Int32) → (wX1_fetchM_b73 P (sF q (kMb b k)))))) ∧ (¬ (b >>> ((6 : Int32) &&& 31)) = (0 : Int32) → (wX1_fetchM_b73 P (sF q (kMb b k))))) := h
