theorem dK_seg (q : SQ) (k : SC) : c_eSegment (dK q 0 k) = c_eSegment k := by
  unfold dK
  rw [if_pos rfl]
  split
  · rfl
  · split
    · rfl
    · rfl
theorem po_place (q : SQ) (a b : Int32) : q_place (qs_place (qs_offset q a) b) = b := rfl
theorem po_offset (q : SQ) (a b : Int32) : q_offset (qs_place (qs_offset q a) b) = a := rfl
theorem mem_place (q : SQ) (x : Int32) : q_place (fMem q x) = fSeg q (fSi q x) := po_place _ _ _
theorem mem_offset (q : SQ) (x : Int32) : q_offset (fMem q x) = fOffs q x := po_offset _ _ _
theorem ko_seg (k : SC) (v : Int32) : c_eSegment (cs_offset k v) = c_eSegment k := rfl
theorem ko_off (k : SC) (v : Int32) : c_offset (cs_offset k v) = v := rfl
theorem kn2_seg (k : SC) (v : Int32) : c_eSegment (kn (kn (cs_eSegment k v))) = v := rfl
theorem ks_seg (k : SC) (v : Int32) : c_eSegment (cs_eSegment k v) = v := rfl
theorem offs_0 (q : SQ) : fOffs q 0 = (fX3 q + fX4 q + dV q 0) &&& 65535 := if_pos rfl
theorem offs_1 (q : SQ) : fOffs q 1 = wAt q := by
  unfold fOffs dV
  rw [if_neg (by decide), if_neg (by decide)]
theorem si_1 (q : SQ) : fSi q 1 = 3 := if_neg (by decide)
theorem decMo {q : SQ} {k : SC} (hI : Inv q) (hmd : c_mode k = q_mode q) (hm : c_m k = q_m q) (hr : c_r k = q_r q) (h7 : r7 (q_m q)) (h7r : r7 (q_r q)) : DecM (fMoK q k) (fMo q) ∧ (¬ q_mode (fMo q) = 3 → rW (q_offset (fMo q))) := by
  have kk := nk_Mo q k
  have sn := sn_Mo q
  have main : ¬ q_mode q = 3 → (c_eSegment (fMoK q k) = q_place (fMo q) ∧ c_offset (fMoK q k) = q_offset (fMo q)) ∧ rW (q_offset (fMo q)) := by
    intro c
    rw [Mo_n c, mem_place, mem_offset]
    by_cases d : q_mode q = 0 ∧ q_m q = 6
    · rw [MoK_1 d, Mx_1 d, si_1, offs_1, ko_seg, ko_off, kn2_seg]
      exact ⟨⟨rfl, rfl⟩, rW_at hI⟩
    · rw [MoK_0 d, Mx_0 d, offs_0, ko_seg, ko_off, dK_seg, ks_seg]
      exact ⟨⟨rfl, rfl⟩, rW_and _⟩
  refine ⟨⟨kk.1.trans (hmd.trans sn.1.symm), kk.2.1.trans (hm.trans sn.2.1.symm), kk.2.2.trans (hr.trans sn.2.2.symm), fun c => (main (fun z => c (sn.1.trans z))).1, by rw [sn.2.1]; exact h7, by rw [sn.2.2]; exact h7r⟩, fun c => (main (fun z => c (sn.1.trans z))).2⟩
theorem cnt_Mb (b : Int32) (q : SQ) : cnt (fMb b q) = cnt q := rfl
theorem decMb (b : Int32) {q : SQ} {k : SC} (hI : Inv q) : DecM (fMoK (fMb b q) (kMb b k)) (fMo (fMb b q)) ∧ (¬ q_mode (fMo (fMb b q)) = 3 → rW (q_offset (fMo (fMb b q)))) := by
  have h1 : c_mode (kMb b k) = b >>> ((6 : Int32) &&& 31) := rfl
  have h2 : c_m (kMb b k) = b &&& 7 := rfl
  have h3 : c_r (kMb b k) = (b >>> ((3 : Int32) &&& 31)) &&& 7 := rfl
  exact decMo (core_inv (core_Mb b q) hI) (h1.trans (Mb_mode b q).symm) (h2.trans (Mb_m b q).symm) (h3.trans (Mb_r b q).symm) (by rw [Mb_m]; exact r7_and b) (by rw [Mb_r]; exact r7_and _)
theorem CntMb (b : Int32) {q : SQ} {k : SC} (h : Cnt q k) : Cnt (fMb b q) (kMb b k) := h
theorem advMb (b : Int32) (q : SQ) (h : cnt q ≤ 500) : cnt q ≤ cnt (fMo (fMb b q)) ∧ cnt (fMo (fMb b q)) ≤ cnt q + 2 := by
  have h3 := adv_Mo (fMb b q)
  unfold Adv at h3
  rw [cnt_Mb] at h3
  exact h3 h
