-- ===== the M byte: the class
def kMb (b : Int32) (k : SC) : SC := cs_m (cs_r (cs_mode k (b >>> ((6 : Int32) &&& 31))) ((b >>> ((3 : Int32) &&& 31)) &&& 7)) (b &&& 7)
theorem sF_Mb (b : Int32) (q : SQ) (k : SC) : sF (fMb b q) k = sF q k := rfl
theorem sF_off (q : SQ) (k : SC) (v : Int32) : sF (qs_offset q v) k = sF q k := rfl
theorem sF_place (q : SQ) (k : SC) (v : Int32) : sF (qs_place q v) k = sF q k := rfl
theorem sF_i (q : SQ) (k : SC) (v : Int32) : sF (qs_i q v) k = sF q k := rfl
theorem sF_j (q : SQ) (k : SC) (v : Int32) : sF (qs_j q v) k = sF q k := rfl
theorem ix3_0 {q : SQ} (c : q_m q = 0) : fX3 q + fX4 q = q_registers q 3 + q_registers q 6 := by unfold fX3 fX4; rw [c, if_pos rfl, if_pos rfl]
theorem ix3_1 {q : SQ} (c : q_m q = 1) : fX3 q + fX4 q = q_registers q 3 + q_registers q 7 := by unfold fX3 fX4; rw [c, if_neg (by decide), if_pos rfl, if_neg (by decide), if_neg (by decide), if_neg (by decide), if_pos rfl]
theorem ix3_2 {q : SQ} (c : q_m q = 2) : fX3 q + fX4 q = q_registers q 5 + q_registers q 6 := by unfold fX3 fX4; rw [c, if_neg (by decide), if_neg (by decide), if_neg (by decide), if_pos rfl, if_neg (by decide), if_pos rfl]
theorem ix3_3 {q : SQ} (c : q_m q = 3) : fX3 q + fX4 q = q_registers q 5 + q_registers q 7 := by unfold fX3 fX4; rw [c, if_neg (by decide), if_neg (by decide), if_neg (by decide), if_neg (by decide), if_pos rfl, if_neg (by decide), if_neg (by decide), if_neg (by decide), if_neg (by decide), if_pos rfl]
theorem ix3_4 {q : SQ} (c : q_m q = 4) : fX3 q + fX4 q = q_registers q 6 := by unfold fX3 fX4; rw [c, if_neg (by decide), if_neg (by decide), if_neg (by decide), if_neg (by decide), if_neg (by decide), if_neg (by decide), if_neg (by decide), if_neg (by decide), if_pos rfl, Int32.zero_add]
theorem ix3_5 {q : SQ} (c : q_m q = 5) : fX3 q + fX4 q = q_registers q 7 := by unfold fX3 fX4; rw [c, if_neg (by decide), if_neg (by decide), if_neg (by decide), if_neg (by decide), if_neg (by decide), if_neg (by decide), if_neg (by decide), if_neg (by decide), if_neg (by decide), if_neg (by decide), if_neg (by decide), if_pos rfl, Int32.zero_add]
theorem ix3_6 {q : SQ} (c : q_m q = 6) : fX3 q + fX4 q = q_registers q 5 := by unfold fX3 fX4; rw [c, if_neg (by decide), if_neg (by decide), if_neg (by decide), if_neg (by decide), if_neg (by decide), if_pos rfl, if_neg (by decide), if_neg (by decide), if_neg (by decide), if_neg (by decide), if_neg (by decide), if_neg (by decide), Int32.add_zero]
theorem ix3_7 {q : SQ} (c : q_m q = 7) : fX3 q + fX4 q = q_registers q 3 := by unfold fX3 fX4; rw [c, if_neg (by decide), if_neg (by decide), if_pos rfl, if_neg (by decide), if_neg (by decide), if_neg (by decide), if_neg (by decide), if_neg (by decide), if_neg (by decide), Int32.add_zero]
theorem iX1_base {q q' : SQ} {k : SC} {P : Int32 → SF → Prop} (hm : c_m k = q_m q) (h7 : r7 (q_m q)) (hr : q_registers q' = q_registers q) (h : P (fX3 q + fX4 q) (sF q' k)) : wX1_base (sF q' k) P := by
  unfold wX1_base
  rw [show c_m (f_code (sF q' k)) = q_m q from hm]
  rcases in8 h7.1 h7.2 with c | c | c | c | c | c | c | c
  · rw [ix3_0 c, ← hr] at h
    rw [c]
    exact tk rfl (iX4_word (iX4_word h))
  · rw [ix3_1 c, ← hr] at h
    rw [c]
    exact sk (by decide) (tk rfl (iX4_word (iX4_word h)))
  · rw [ix3_2 c, ← hr] at h
    rw [c]
    exact sk (by decide) (sk (by decide) (tk rfl (iX4_word (iX4_word h))))
  · rw [ix3_3 c, ← hr] at h
    rw [c]
    exact sk (by decide) (sk (by decide) (sk (by decide) (tk rfl (iX4_word (iX4_word h)))))
  · rw [ix3_4 c, ← hr] at h
    rw [c]
    exact sk (by decide) (sk (by decide) (sk (by decide) (sk (by decide) (tk rfl (iX4_word h)))))
  · rw [ix3_5 c, ← hr] at h
    rw [c]
    exact sk (by decide) (sk (by decide) (sk (by decide) (sk (by decide) (sk (by decide) (tk rfl (iX4_word h))))))
  · rw [ix3_6 c, ← hr] at h
    rw [c]
    exact sk (by decide) (sk (by decide) (sk (by decide) (sk (by decide) (sk (by decide) (sk (by decide) (tk rfl (iX4_word h)))))))
  · rw [ix3_7 c, ← hr] at h
    rw [c]
    exact sk (by decide) (sk (by decide) (sk (by decide) (sk (by decide) (sk (by decide) (sk (by decide) (sk (by decide) (iX4_word h)))))))
theorem iX1_seg {a : Int32} {q : SQ} {k : SC} {C : Int32 → SC → SR → Prop} (hs : rS q) (hgs : c_givenSegment k = q_segment q) (ha : r3 a) (h : C (fSeg q a) k (q_registers q, q_segments q, q_at q &&& 65535)) : wX1_segmentOr a k (fun r6 u5 => wX4_segment r6 (q_registers q, q_segments q, q_at q &&& 65535) (fun r8 u7 => C r8 u5 u7)) := by
  unfold fSeg at h
  unfold wX1_segmentOr
  rw [hgs]
  refine ⟨fun c => iX4_segment ?_, fun c => iX4_segment ?_⟩
  · rw [if_pos c] at h; rw [and3_id ha]; exact h
  · rw [if_neg c] at h; rw [and3_id (hs.resolve_left c)]; exact h
