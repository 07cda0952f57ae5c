-- ----- what is known behind the M byte
def cnt (q : SQ) : Int := (q_at q - q_begin q).toInt
def Cnt (q : SQ) (k : SC) : Prop := c_fetched k = q_at q - q_begin q
theorem cnt_1 (a b : Int32) : a + 1 - b = (a - b) + 1 := by rw [Int32.sub_eq_add_neg, Int32.sub_eq_add_neg, Int32.add_assoc, Int32.add_comm 1, ← Int32.add_assoc]
theorem nx_at (q : SQ) : q_at (nx q) = q_at q + 1 := rfl
theorem nx_begin (q : SQ) : q_begin (nx q) = q_begin q := rfl
theorem cnt_nx {q : SQ} (h : cnt q ≤ 1000) : cnt (nx q) = cnt q + 1 := by
  unfold cnt at *
  have e1 : (1 : Int32).toInt = 1 := rfl
  rw [nx_at, nx_begin, cnt_1, ti_add (by have := ti_lo (q_at q - q_begin q); omega) (by omega), e1]
theorem Cnt_nx {q : SQ} {k : SC} (h : Cnt q k) : Cnt (nx q) (kn k) := by
  unfold Cnt at *
  show c_fetched k + 1 = q_at q + 1 - q_begin q
  rw [h, cnt_1]
def Adv (q q2 : SQ) (n : Int) : Prop := cnt q ≤ 500 → cnt q ≤ cnt q2 ∧ cnt q2 ≤ cnt q + n
theorem Adv.rf {q : SQ} : Adv q q 0 := fun _ => ⟨by omega, by omega⟩
theorem adv_nx (q : SQ) : Adv q (nx q) 1 := fun h => by rw [cnt_nx (by omega)]; exact ⟨by omega, by omega⟩
theorem adv_nx2 (q : SQ) : Adv q (nx (nx q)) 2 := fun h => by rw [cnt_nx (by rw [cnt_nx (by omega)]; omega), cnt_nx (by omega)]; exact ⟨by omega, by omega⟩
/-- the fields of the class's record that the bytes behind the code's first leave -/
def KK (k k2 : SC) : Prop := c_number k2 = c_number k ∧ c_begin k2 = c_begin k ∧ c_givenSegment k2 = c_givenSegment k ∧ c_repeat k2 = c_repeat k
theorem KK.rf {k : SC} : KK k k := ⟨rfl, rfl, rfl, rfl⟩
theorem KK.tr {k k1 k2 : SC} (h : KK k k1) (g : KK k1 k2) : KK k k2 := ⟨g.1.trans h.1, g.2.1.trans h.2.1, g.2.2.1.trans h.2.2.1, g.2.2.2.trans h.2.2.2⟩
theorem kk_n (k : SC) : KK k (kn k) := ⟨rfl, rfl, rfl, rfl⟩
theorem kk_off (k : SC) (v : Int32) : KK k (cs_offset k v) := ⟨rfl, rfl, rfl, rfl⟩
theorem kk_seg (k : SC) (v : Int32) : KK k (cs_eSegment k v) := ⟨rfl, rfl, rfl, rfl⟩
theorem kk_Mb (k : SC) (b : Int32) : KK k (kMb b k) := ⟨rfl, rfl, rfl, rfl⟩
theorem kk_first (k : SC) (v : Int32) : KK k (cs_first k v) := ⟨rfl, rfl, rfl, rfl⟩
theorem kk_second (k : SC) (v : Int32) : KK k (cs_second k v) := ⟨rfl, rfl, rfl, rfl⟩
theorem kk_dK (q : SQ) (k : SC) : KK k (dK q 0 k) := by
  unfold dK
  rw [if_pos rfl]
  split
  · exact (kk_n k).tr (kk_n _)
  · split
    · exact kk_n k
    · exact KK.rf
theorem kk_Mo (q : SQ) (k : SC) : KK k (fMoK q k) := by
  by_cases c : q_mode q = 0 ∧ q_m q = 6
  · rw [MoK_1 c]
    exact (((kk_seg k _).tr (kk_n _)).tr (kk_n _)).tr (kk_off _ _)
  · rw [MoK_0 c]
    exact ((kk_seg k _).tr (kk_dK q _)).tr (kk_off _ _)
theorem core_mem (q : SQ) (x : Int32) : Core q (fMem q x) := ((core_dQ q x).tr (core_offset _ _)).tr (core_place _ _)
theorem core_Mo (q : SQ) : Core q (fMo q) := by
  unfold fMo
  split
  · exact Core.rf
  · exact core_mem _ _
def SameN (q q2 : SQ) : Prop := q_mode q2 = q_mode q ∧ q_m q2 = q_m q ∧ q_r q2 = q_r q
theorem SameN.rf {q : SQ} : SameN q q := ⟨rfl, rfl, rfl⟩
theorem SameN.tr {q q1 q2 : SQ} (h : SameN q q1) (g : SameN q1 q2) : SameN q q2 := ⟨g.1.trans h.1, g.2.1.trans h.2.1, g.2.2.trans h.2.2⟩
theorem sn_nx (q : SQ) : SameN q (nx q) := ⟨rfl, rfl, rfl⟩
theorem sn_off (q : SQ) (v : Int32) : SameN q (qs_offset q v) := ⟨rfl, rfl, rfl⟩
theorem sn_place (q : SQ) (v : Int32) : SameN q (qs_place q v) := ⟨rfl, rfl, rfl⟩
theorem sn_i (q : SQ) (v : Int32) : SameN q (qs_i q v) := ⟨rfl, rfl, rfl⟩
theorem sn_j (q : SQ) (v : Int32) : SameN q (qs_j q v) := ⟨rfl, rfl, rfl⟩
theorem sn_dQ (q : SQ) (x : Int32) : SameN q (dQ q x) := by
  unfold dQ
  split
  · split
    · exact (sn_nx q).tr (sn_nx _)
    · split
      · exact sn_nx q
      · exact SameN.rf
  · exact (sn_nx q).tr (sn_nx _)
theorem sn_mem (q : SQ) (x : Int32) : SameN q (fMem q x) := ((sn_dQ q x).tr (sn_off _ _)).tr (sn_place _ _)
theorem sn_Mo (q : SQ) : SameN q (fMo q) := by
  unfold fMo
  split
  · exact SameN.rf
  · exact sn_mem _ _
def KN (k k2 : SC) : Prop := c_mode k2 = c_mode k ∧ c_m k2 = c_m k ∧ c_r k2 = c_r k
theorem KN.rf {k : SC} : KN k k := ⟨rfl, rfl, rfl⟩
theorem KN.tr {k k1 k2 : SC} (h : KN k k1) (g : KN k1 k2) : KN k k2 := ⟨g.1.trans h.1, g.2.1.trans h.2.1, g.2.2.trans h.2.2⟩
theorem nk_n (k : SC) : KN k (kn k) := ⟨rfl, rfl, rfl⟩
theorem nk_off (k : SC) (v : Int32) : KN k (cs_offset k v) := ⟨rfl, rfl, rfl⟩
theorem nk_seg (k : SC) (v : Int32) : KN k (cs_eSegment k v) := ⟨rfl, rfl, rfl⟩
theorem nk_dK (q : SQ) (k : SC) : KN k (dK q 0 k) := by
  unfold dK
  rw [if_pos rfl]
  split
  · exact (nk_n k).tr (nk_n _)
  · split
    · exact nk_n k
    · exact KN.rf
theorem nk_Mo (q : SQ) (k : SC) : KN k (fMoK q k) := by
  by_cases c : q_mode q = 0 ∧ q_m q = 6
  · rw [MoK_1 c]
    exact (((nk_seg k _).tr (nk_n _)).tr (nk_n _)).tr (nk_off _ _)
  · rw [MoK_0 c]
    exact ((nk_seg k _).tr (nk_dK q _)).tr (nk_off _ _)
theorem adv_po (q q2 : SQ) (a b : Int32) {n : Int} (h : Adv q q2 n) : Adv q (qs_place (qs_offset q2 a) b) n := h
theorem adv_dQ (q : SQ) (x : Int32) : Adv q (dQ q x) 2 := by
  unfold dQ
  split
  · split
    · exact adv_nx2 q
    · split
      · exact fun h => by have := adv_nx q h; omega
      · exact fun h => by omega
  · exact adv_nx2 q
theorem adv_Mo (q : SQ) : Adv q (fMo q) 2 := by
  unfold fMo
  split
  · exact fun h => by omega
  · exact adv_po q _ _ _ (adv_dQ q _)
theorem Cnt_po {q : SQ} {k : SC} (a b : Int32) (h : Cnt q k) : Cnt (qs_place (qs_offset q a) b) k := h
theorem Cnt_off {q : SQ} {k : SC} (a : Int32) (h : Cnt q k) : Cnt q (cs_offset k a) := h
theorem Cnt_seg {q : SQ} {k : SC} (a : Int32) (h : Cnt q k) : Cnt q (cs_eSegment k a) := h
theorem Cnt_dQ {q : SQ} {k : SC} (h : Cnt q k) : Cnt (dQ q 0) (dK q 0 k) := by
  unfold dQ dK
  rw [if_pos rfl, if_pos rfl]
  by_cases c : q_mode q = 2
  · rw [if_pos c, if_pos c]; exact Cnt_nx (Cnt_nx h)
  · rw [if_neg c, if_neg c]
    by_cases d : q_mode q = 1
    · rw [if_pos d, if_pos d]; exact Cnt_nx h
    · rw [if_neg d, if_neg d]; exact h
theorem Cnt_Mo {q : SQ} {k : SC} (h : Cnt q k) : Cnt (fMo q) (fMoK q k) := by
  by_cases c : q_mode q = 0 ∧ q_m q = 6
  · rw [MoK_1 c, Mo_n (by rw [c.1]; decide), Mx_1 c]
    unfold fMem
    rw [dQ_1]
    exact Cnt_po _ _ (Cnt_off _ (Cnt_nx (Cnt_nx (Cnt_seg _ h))))
  · rw [MoK_0 c]
    by_cases d : q_mode q = 3
    · rw [Mo_3 d]
      have := Cnt_dQ (Cnt_seg (fSeg q (fSi q 0)) h)
      rw [dQ_3 d] at this
      exact Cnt_off _ this
    · rw [Mo_n d, Mx_0 c]
      unfold fMem
      exact Cnt_po _ _ (Cnt_off _ (Cnt_dQ (Cnt_seg _ h)))
