-- ===== the M byte
def fX3 (q : SQ) : Int32 := if q_m q = 0 then q_registers q 3 else if q_m q = 1 then q_registers q 3 else if q_m q = 7 then q_registers q 3 else if q_m q = 2 then q_registers q 5 else if q_m q = 3 then q_registers q 5 else if q_m q = 6 then q_registers q 5 else 0
def fX4 (q : SQ) : Int32 := if q_m q = 0 then q_registers q 6 else if q_m q = 2 then q_registers q 6 else if q_m q = 4 then q_registers q 6 else if q_m q = 1 then q_registers q 7 else if q_m q = 3 then q_registers q 7 else if q_m q = 5 then q_registers q 7 else 0
def dV (q : SQ) (x : Int32) : Int32 := if x = 0 then (if q_mode q = 2 then wAt q else if q_mode q = 1 then fExt (bAt q) else 0) else wAt q
def dQ (q : SQ) (x : Int32) : SQ := if x = 0 then (if q_mode q = 2 then nx (nx q) else if q_mode q = 1 then nx q else q) else nx (nx q)
def dK (q : SQ) (x : Int32) (k : SC) : SC := if x = 0 then (if q_mode q = 2 then kn (kn k) else if q_mode q = 1 then kn k else k) else kn (kn k)
def fOffs (q : SQ) (x : Int32) : Int32 := if x = 0 then (fX3 q + fX4 q + dV q x) &&& 65535 else dV q x
def fSi (q : SQ) (x : Int32) : Int32 := if x = 0 then (if q_m q = 2 then 2 else if q_m q = 3 then 2 else if q_m q = 6 then 2 else 3) else 3
def fMem (q : SQ) (x : Int32) : SQ := qs_place (qs_offset (dQ q x) (fOffs q x)) (fSeg q (fSi q x))
theorem core_dQ (q : SQ) (x : Int32) : Core q (dQ q x) := by
  unfold dQ
  split
  · split
    · exact (core_nx q).tr (core_nx _)
    · split
      · exact core_nx q
      · exact Core.rf
  · exact (core_nx q).tr (core_nx _)
theorem nx_m (q : SQ) : q_m (nx q) = q_m q := rfl
theorem dQ_m (q : SQ) (x : Int32) : q_m (dQ q x) = q_m q := by
  unfold dQ
  split
  · split
    · exact (nx_m _).trans (nx_m q)
    · split
      · exact nx_m q
      · rfl
  · exact (nx_m _).trans (nx_m q)
theorem v_38' : vp_in 3 8 := vp_7 ⟨by decide, by decide⟩
theorem v_58 : vp_in 5 8 := vp_7 ⟨by decide, by decide⟩
theorem r3_si (q : SQ) (x : Int32) : r3 (fSi q x) := by
  unfold fSi
  split
  · split
    · exact r3_2
    · split
      · exact r3_2
      · split
        · exact r3_2
        · exact r3_3
  · exact r3_3
theorem mSeg {q : SQ} {x v : Int32} {P : SQ → Prop} (hs : rS q) (h : P (qs_place (qs_offset q v) (fSeg q (fSi q x)))) : wX6_fetchMode_b261 P x v q := by
  have b300 : ∀ s : Int32, s = fSi q x → wX6_fetchMode_b300 P s (qs_offset q v) := by
    rintro s rfl
    exact iX6_segmentOr (q := qs_offset q v) hs (r3_si q x) h
  unfold fSi at b300
  refine ⟨fun c => ⟨fun d => b300 _ ?_, fun d => ⟨fun d2 => b300 _ ?_, fun d2 => ⟨fun d3 => b300 _ ?_, fun d3 => b300 _ ?_⟩⟩⟩, fun c => b300 _ ?_⟩
  · rw [if_pos c, if_pos (show q_m q = 2 from d)]
  · rw [if_pos c, if_neg (show ¬ q_m q = 2 from d), if_pos (show q_m q = 3 from d2)]
  · rw [if_pos c, if_neg (show ¬ q_m q = 2 from d), if_neg (show ¬ q_m q = 3 from d2), if_pos (show q_m q = 6 from d3)]
  · rw [if_pos c, if_neg (show ¬ q_m q = 2 from d), if_neg (show ¬ q_m q = 3 from d2), if_neg (show ¬ q_m q = 6 from d3)]
  · rw [if_neg c]
theorem si_dQ (q : SQ) (x : Int32) : fSi (dQ q x) x = fSi q x := by unfold fSi; rw [dQ_m]
theorem mDisp {q : SQ} {x : Int32} {P : SQ → Prop} (hI : Inv q) (hs : rS q) (h : P (fMem q x)) : wX6_fetchMode_b199 P x (fX3 q) (fX4 q) q := by
  have b239 : ∀ (s : Int32) (q' : SQ), s = dV q x → q' = dQ q x → wX6_fetchMode_b239 P x (fX3 q) (fX4 q) s q' := by
    rintro s q' rfl rfl
    have hs' : rS (dQ q x) := core_rS (core_dQ q x) hs
    refine ⟨fun c => mSeg hs' ?_, fun c => mSeg hs' ?_⟩
    · rw [si_dQ, core_seg (core_dQ q x)]
      unfold fMem fOffs at h
      rw [if_pos c] at h
      exact h
    · rw [si_dQ, core_seg (core_dQ q x)]
      unfold fMem fOffs at h
      rw [if_neg c] at h
      exact h
  unfold dV dQ at b239
  refine ⟨fun c => ⟨fun d => iX6_fetchWord hI (b239 _ _ ?_ ?_), fun d => ⟨fun d2 => iX6_fetch hI (iX6_extended (b239 _ _ ?_ ?_)), fun d2 => b239 _ _ ?_ ?_⟩⟩, fun c => iX6_fetchWord hI (b239 _ _ ?_ ?_)⟩
  · rw [if_pos c, if_pos d]
  · rw [if_pos c, if_pos d]
  · rw [if_pos c, if_neg d, if_pos d2]
  · rw [if_pos c, if_neg d, if_pos d2]
  · rw [if_pos c, if_neg d, if_neg d2]
  · rw [if_pos c, if_neg d, if_neg d2]
  · rw [if_neg c]
  · rw [if_neg c]
theorem mBase {q : SQ} {x : Int32} {P : SQ → Prop} (h : wX6_fetchMode_b199 P x (fX3 q) (fX4 q) q) : wX6_fetchMode_b61 P x q := by
  have b130 : ∀ s, s = fX3 q → wX6_fetchMode_b130 P x s q := by
    rintro s rfl
    have f : ∀ t, t = fX4 q → wX6_fetchMode_b199 P x (fX3 q) t q := by
      rintro t rfl; exact h
    unfold fX4 at f
    refine ⟨fun a => ⟨v_68, f _ ?_⟩, fun a => ⟨fun b => ⟨v_68, f _ ?_⟩, fun b => ⟨fun c => ⟨v_68, f _ ?_⟩, fun c => ⟨fun d => ⟨v_78, f _ ?_⟩, fun d => ⟨fun e => ⟨v_78, f _ ?_⟩, fun e => ⟨fun g => ⟨v_78, f _ ?_⟩, fun g => f _ ?_⟩⟩⟩⟩⟩⟩
    · rw [if_pos a]; rfl
    · rw [if_neg a, if_pos b]; rfl
    · rw [if_neg a, if_neg b, if_pos c]; rfl
    · rw [if_neg a, if_neg b, if_neg c, if_pos d]; rfl
    · rw [if_neg a, if_neg b, if_neg c, if_neg d, if_pos e]; rfl
    · rw [if_neg a, if_neg b, if_neg c, if_neg d, if_neg e, if_pos g]; rfl
    · rw [if_neg a, if_neg b, if_neg c, if_neg d, if_neg e, if_neg g]
  unfold fX3 at b130
  refine ⟨fun a => ⟨v_38', b130 _ ?_⟩, fun a => ⟨fun b => ⟨v_38', b130 _ ?_⟩, fun b => ⟨fun c => ⟨v_38', b130 _ ?_⟩, fun c => ⟨fun d => ⟨v_58, b130 _ ?_⟩, fun d => ⟨fun e => ⟨v_58, b130 _ ?_⟩, fun e => ⟨fun g => ⟨v_58, b130 _ ?_⟩, fun g => b130 _ ?_⟩⟩⟩⟩⟩⟩
  · rw [if_pos a]; rfl
  · rw [if_neg a, if_pos b]; rfl
  · rw [if_neg a, if_neg b, if_pos c]; rfl
  · rw [if_neg a, if_neg b, if_neg c, if_pos d]; rfl
  · rw [if_neg a, if_neg b, if_neg c, if_neg d, if_pos e]; rfl
  · rw [if_neg a, if_neg b, if_neg c, if_neg d, if_neg e, if_pos g]; rfl
  · rw [if_neg a, if_neg b, if_neg c, if_neg d, if_neg e, if_neg g]
def fMb (b : Int32) (q : SQ) : SQ := qs_m (qs_r (qs_mode q (b >>> ((6 : Int32) &&& 31))) ((b >>> ((3 : Int32) &&& 31)) &&& 7)) (b &&& 7)
theorem core_Mb (b : Int32) (q : SQ) : Core q (fMb b q) := ((core_mode q _).tr (core_r _ _)).tr (core_m _ _)
theorem Mb_mode (b : Int32) (q : SQ) : q_mode (fMb b q) = b >>> ((6 : Int32) &&& 31) := rfl
theorem Mb_m (b : Int32) (q : SQ) : q_m (fMb b q) = b &&& 7 := rfl
theorem Mb_r (b : Int32) (q : SQ) : q_r (fMb b q) = (b >>> ((3 : Int32) &&& 31)) &&& 7 := rfl
def fMx (q : SQ) : Int32 := if q_mode q = 0 ∧ q_m q = 6 then 1 else 0
def fMo (q : SQ) : SQ := if q_mode q = 3 then q else fMem q (fMx q)
def fMode (q : SQ) : SQ := fMo (fMb (bAt q) (nx q))
theorem mMo {q : SQ} {P : SQ → Prop} (hI : Inv q) (hs : rS q) (h : P (fMo q)) : (q_mode q = 3 → P q) ∧ (¬ q_mode q = 3 → ((q_mode q = 0 → ((q_m q = 6 → wX6_fetchMode_b61 P 1 q) ∧ (¬ q_m q = 6 → wX6_fetchMode_b60 P q))) ∧ (¬ q_mode q = 0 → wX6_fetchMode_b60 P q))) := by
  unfold fMo at h
  have fin : ∀ x, x = fMx q → ¬ q_mode q = 3 → wX6_fetchMode_b61 P x q := by
    rintro x rfl c
    rw [if_neg c] at h
    exact mBase (mDisp hI hs h)
  unfold fMx at fin
  refine ⟨fun c => ?_, fun c => ⟨fun d => ⟨fun e => fin _ ?_ c, fun e => fin _ ?_ c⟩, fun d => fin _ ?_ c⟩⟩
  · rw [if_pos c] at h; exact h
  · rw [if_pos ⟨d, e⟩]
  · rw [if_neg (fun z => e z.2)]
  · rw [if_neg (fun z => d z.1)]
theorem iX6_fetchMode {q : SQ} {P : SQ → Prop} (hI : Inv q) (hs : rS q) (h : P (fMode q)) : wX6_fetchMode q P :=
  iX6_fetch hI (mMo (core_inv ((core_nx q).tr (core_Mb _ _)) hI) (core_rS ((core_nx q).tr (core_Mb _ _)) hs) h)
