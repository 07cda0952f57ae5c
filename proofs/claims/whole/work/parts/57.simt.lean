/-- the class's code record behind the bytes of M -/
def fMoK (q : SQ) (k : SC) : SC := if q_mode q = 0 ∧ q_m q = 6 then cs_offset (kn (kn (cs_eSegment k (fSeg q 3)))) (wAt q) else cs_offset (dK q 0 (cs_eSegment k (fSeg q (fSi q 0)))) (fX3 q + fX4 q + dV q 0 &&& 65535)
theorem dK_m (q : SQ) (k : SC) : c_m (dK q 0 k) = c_m k := by
  unfold dK
  rw [if_pos rfl]
  split
  · rfl
  · split
    · rfl
    · rfl
theorem cDisp {q : SQ} {k : SC} {P : SF → Prop} (hI : Inv q) (hs : rS q) (hgs : c_givenSegment k = q_segment q) (hmd : c_mode k = q_mode q) (hm : c_m k = q_m q) (h7 : r7 (q_m q)) (h : P (sF (dQ q 0) (cs_offset (dK q 0 (cs_eSegment k (fSeg q (fSi q 0)))) (fX3 q + fX4 q + dV q 0 &&& 65535)))) : wX1_fetchM_b73 P (sF q k) := by
  have hse : ∀ v, c_m (cs_eSegment k v) = q_m q := fun v => hm
  have b118 : ∀ s, s = fSi q 0 → wX1_fetchM_b118 P s (sF q k) := by
    rintro s rfl
    refine iX1_seg (q := q) hs hgs (r3_si q 0) ?_
    rw [hmd]
    have b169 : ∀ (x : Int32) (q' : SQ) (k' : SC), x = dV q 0 → q' = dQ q 0 → k' = dK q 0 (cs_eSegment k (fSeg q (fSi q 0))) → wX1_fetchM_b169 P x (sF q' k') := by
      rintro x q' k' rfl rfl rfl
      refine iX1_base (q := q) ?_ h7 (core_dQ q 0).1.2.1 h
      rw [dK_m]; exact hm
    unfold dV dQ dK at b169
    refine ⟨fun c => ?_, fun c => ⟨fun d => ?_, fun d => ?_⟩⟩
    · have c2 : ¬ q_mode q = 2 := by rw [c]; decide
      refine iX1_fetch (q := q) hI (iX0_signed ?_)
      rw [ext_cut (rB_at hI)]
      refine b169 _ (nx q) (kn (cs_eSegment k (fSeg q (fSi q 0)))) ?_ ?_ ?_
      · rw [if_pos rfl, if_neg c2, if_pos c]
      · rw [if_pos rfl, if_neg c2, if_pos c]
      · rw [if_pos rfl, if_neg c2, if_pos c]
    · refine iX1_fetchWord (q := q) hI (b169 _ (nx (nx q)) (kn (kn (cs_eSegment k (fSeg q (fSi q 0))))) ?_ ?_ ?_)
      · rw [if_pos rfl, if_pos d]
      · rw [if_pos rfl, if_pos d]
      · rw [if_pos rfl, if_pos d]
    · refine b169 _ q (cs_eSegment k (fSeg q (fSi q 0))) ?_ ?_ ?_
      · rw [if_pos rfl, if_neg d, if_neg c]
      · rw [if_pos rfl, if_neg d, if_neg c]
      · rw [if_pos rfl, if_neg d, if_neg c]
  unfold wX1_fetchM_b73
  rw [show c_m (f_code (sF q k)) = q_m q from hm]
  unfold fSi at b118
  rw [if_pos rfl] at b118
  have y : ∀ h2 : (2 : Int32) = (if q_m q = 2 then 2 else if q_m q = 3 then 2 else if q_m q = 6 then 2 else 3), wX1_fetchM_b98 P (sF q k) := fun h2 => sk (by decide) (b118 2 h2)
  refine ⟨fun c => y ?_, fun c => ⟨fun d => y ?_, fun d => ⟨fun e => y ?_, fun e => tk rfl (b118 3 ?_)⟩⟩⟩
  · rw [if_pos c]
  · rw [if_neg c, if_pos d]
  · rw [if_neg c, if_neg d, if_pos e]
  · rw [if_neg c, if_neg d, if_neg e]
