-- ----- the numbers behind a code, both sides at once
def KI (k k2 : SC) : Prop := c_mode k2 = c_mode k ∧ c_m k2 = c_m k ∧ c_r k2 = c_r k ∧ c_eSegment k2 = c_eSegment k ∧ c_offset k2 = c_offset k
theorem KI.rf {k : SC} : KI k k := ⟨rfl, rfl, rfl, rfl, rfl⟩
theorem KI.tr {k k1 k2 : SC} (h : KI k k1) (g : KI k1 k2) : KI k k2 := ⟨g.1.trans h.1, g.2.1.trans h.2.1, g.2.2.1.trans h.2.2.1, g.2.2.2.1.trans h.2.2.2.1, g.2.2.2.2.trans h.2.2.2.2⟩
theorem ki_n (k : SC) : KI k (kn k) := ⟨rfl, rfl, rfl, rfl, rfl⟩
theorem ki_first (k : SC) (v : Int32) : KI k (cs_first k v) := ⟨rfl, rfl, rfl, rfl, rfl⟩
theorem ki_second (k : SC) (v : Int32) : KI k (cs_second k v) := ⟨rfl, rfl, rfl, rfl, rfl⟩
theorem si_rf {q : SQ} : SameI q q := ⟨rfl, rfl, rfl, rfl, rfl⟩
theorem si_nx (q : SQ) : SameI q (nx q) := ⟨rfl, rfl, rfl, rfl, rfl⟩
theorem si_i (q : SQ) (v : Int32) : SameI q (qs_i q v) := ⟨rfl, rfl, rfl, rfl, rfl⟩
theorem si_j (q : SQ) (v : Int32) : SameI q (qs_j q v) := ⟨rfl, rfl, rfl, rfl, rfl⟩
theorem cnt_i (q : SQ) (v : Int32) : cnt (qs_i q v) = cnt q := rfl
theorem cnt_j (q : SQ) (v : Int32) : cnt (qs_j q v) = cnt q := rfl
theorem Cnt_i {q : SQ} {k : SC} (v : Int32) (h : Cnt q k) : Cnt (qs_i q v) k := h
theorem Cnt_j {q : SQ} {k : SC} (v : Int32) (h : Cnt q k) : Cnt (qs_j q v) k := h
theorem Cnt_first {q : SQ} {k : SC} (v : Int32) (h : Cnt q k) : Cnt q (cs_first k v) := h
theorem Cnt_second {q : SQ} {k : SC} (v : Int32) (h : Cnt q k) : Cnt q (cs_second k v) := h
theorem g_ii (q : SQ) (v : Int32) : q_i (qs_i q v) = v := rfl
theorem g_ij (q : SQ) (v : Int32) : q_i (qs_j q v) = q_i q := rfl
theorem g_in (q : SQ) : q_i (nx q) = q_i q := rfl
theorem g_jj (q : SQ) (v : Int32) : q_j (qs_j q v) = v := rfl
theorem g_f1 (k : SC) (v : Int32) : c_first (cs_first k v) = v := rfl
theorem g_f2 (k : SC) (v : Int32) : c_first (cs_second k v) = c_first k := rfl
theorem g_fn (k : SC) : c_first (kn k) = c_first k := rfl
theorem g_s2 (k : SC) (v : Int32) : c_second (cs_second k v) = v := rfl
def Num (l : Int32) (q : SQ) (k : SC) : Prop := (l = 3 → q_i q = fExt (c_first k) ∧ rB (c_first k)) ∧ (l = 4 → q_i q = fExt (c_first k) &&& 65535 ∧ rB (c_first k)) ∧ (l = 1 → q_i q = c_first k ∧ rB (q_i q)) ∧ (l = 2 → q_i q = c_first k ∧ rW (q_i q)) ∧ (l = 5 → (q_i q = c_first k ∧ rW (q_i q)) ∧ q_j q = c_second k ∧ rW (q_j q))
def AdvS (q q2 : SQ) : Prop := cnt q ≤ 400 → cnt q ≤ cnt q2 ∧ cnt q2 ≤ cnt q + 4
def Lf (l : Int32) (q : SQ) (k : SC) (q2 : SQ) (k2 : SC) : Prop := (Core q q2 ∧ KK k k2 ∧ (Cnt q k → Cnt q2 k2) ∧ AdvS q q2) ∧ (SameI q q2 ∧ KI k k2) ∧ Num l q2 k2 ∧ (∀ P : Int32 → SQ → Prop, wX6_follows_b508 P q2 → mL P l q) ∧ (∀ P : SF → Prop, P (sF q2 k2) → cL P (lcm l) (sF q k))
theorem lf0 {q : SQ} {k : SC} : Lf 0 q k q k := by
  refine ⟨⟨Core.rf, KK.rf, fun h => h, fun h => ⟨by omega, by omega⟩⟩, ⟨si_rf, KI.rf⟩, ⟨fun h => absurd h (by decide), fun h => absurd h (by decide), fun h => absurd h (by decide), fun h => absurd h (by decide), fun h => absurd h (by decide)⟩, fun P h => ?_, fun P h => ?_⟩
  · unfold mL; rw [if_pos rfl]; exact h
  · rw [show lcm 0 = 0 from by decide]
    unfold cL; rw [if_pos rfl]; exact h
def one1 (q : SQ) (v : Int32) : SQ := qs_i (nx q) v
def kne1 (k : SC) (v : Int32) : SC := cs_first (kn k) v
theorem one_core (q : SQ) (v : Int32) : Core q (one1 q v) := (core_nx q).tr (core_i (nx q) v)
theorem one_si (q : SQ) (v : Int32) : SameI q (one1 q v) := (si_nx q).tr (si_i (nx q) v)
theorem one_cnt (q : SQ) (v : Int32) : cnt (one1 q v) = cnt (nx q) := cnt_i (nx q) v
theorem one_i (q : SQ) (v : Int32) : q_i (one1 q v) = v := g_ii (nx q) v
theorem kne_kk (k : SC) (v : Int32) : KK k (kne1 k v) := (kk_n k).tr (kk_first (kn k) v)
theorem kne_ki (k : SC) (v : Int32) : KI k (kne1 k v) := (ki_n k).tr (ki_first (kn k) v)
theorem kne_f (k : SC) (v : Int32) : c_first (kne1 k v) = v := g_f1 (kn k) v
theorem one_Cnt {q : SQ} {k : SC} (v w : Int32) (h : Cnt q k) : Cnt (one1 q v) (kne1 k w) := Cnt_first w (Cnt_i v (Cnt_nx h))
theorem advs_1 (q : SQ) (v : Int32) : AdvS q (one1 q v) := fun h => by
  have h1 := adv_nx q (by omega)
  have h2 := one_cnt q v
  omega
theorem one_C {q : SQ} {k : SC} {P : SF → Prop} (v : Int32) (hI : Inv q) (h : P (sF (one1 q v) (kne1 k (bAt q)))) : cL P 1 (sF q k) := leafC1' v hI h
theorem advs_t1 (q : SQ) (h : cnt q ≤ 450) : cnt q ≤ cnt (two1 q) ∧ cnt (two1 q) ≤ cnt q + 2 := by
  have := adv_nx2 q (by omega)
  exact (congrArg (fun z => cnt q ≤ z ∧ z ≤ cnt q + 2) (cnt_i (nx (nx q)) (wAt q))).mpr this
theorem advs_t2 (q : SQ) (h : cnt q ≤ 450) : cnt q ≤ cnt (two2 q) ∧ cnt (two2 q) ≤ cnt q + 2 := by
  have := adv_nx2 q (by omega)
  exact (congrArg (fun z => cnt q ≤ z ∧ z ≤ cnt q + 2) (cnt_j (nx (nx q)) (wAt q))).mpr this
theorem lf1 {q : SQ} {k : SC} (hI : Inv q) : Lf 1 q k (one1 q (bAt q)) (kne1 k (bAt q)) := by
  refine ⟨⟨one_core q _, kne_kk k _, fun h => one_Cnt _ _ h, advs_1 q _⟩, ⟨one_si q _, kne_ki k _⟩, ⟨fun h => absurd h (by decide), fun h => absurd h (by decide), fun _ => ?_, fun h => absurd h (by decide), fun h => absurd h (by decide)⟩, fun P h => leafM1 hI h, fun P h => ?_⟩
  · rw [one_i, kne_f]
    exact ⟨rfl, rB_at hI⟩
  · rw [show lcm 1 = 1 from by decide]
    exact one_C _ hI h
theorem lf3 {q : SQ} {k : SC} (hI : Inv q) : Lf 3 q k (one1 q (fExt (bAt q))) (kne1 k (bAt q)) := by
  refine ⟨⟨one_core q _, kne_kk k _, fun h => one_Cnt _ _ h, advs_1 q _⟩, ⟨one_si q _, kne_ki k _⟩, ⟨fun _ => ?_, fun h => absurd h (by decide), fun h => absurd h (by decide), fun h => absurd h (by decide), fun h => absurd h (by decide)⟩, fun P h => leafM3 hI h, fun P h => ?_⟩
  · rw [one_i, kne_f]
    exact ⟨rfl, rB_at hI⟩
  · rw [show lcm 3 = 1 from by decide]
    exact one_C _ hI h
theorem lf4 {q : SQ} {k : SC} (hI : Inv q) : Lf 4 q k (one1 q (fExt (bAt q) &&& 65535)) (kne1 k (bAt q)) := by
  refine ⟨⟨one_core q _, kne_kk k _, fun h => one_Cnt _ _ h, advs_1 q _⟩, ⟨one_si q _, kne_ki k _⟩, ⟨fun h => absurd h (by decide), fun _ => ?_, fun h => absurd h (by decide), fun h => absurd h (by decide), fun h => absurd h (by decide)⟩, fun P h => leafM4 hI h, fun P h => ?_⟩
  · rw [one_i, kne_f]
    exact ⟨rfl, rB_at hI⟩
  · rw [show lcm 4 = 1 from by decide]
    exact one_C _ hI h
theorem kk_w1 (q : SQ) (k : SC) : KK k (kwo1 q k) := ((kk_n k).tr (kk_n (kn k))).tr (kk_first (kn (kn k)) (wAt q))
theorem kk_w2 (q : SQ) (k : SC) : KK k (kwo2 q k) := ((kk_n k).tr (kk_n (kn k))).tr (kk_second (kn (kn k)) (wAt q))
theorem ki_w1 (q : SQ) (k : SC) : KI k (kwo1 q k) := ((ki_n k).tr (ki_n (kn k))).tr (ki_first (kn (kn k)) (wAt q))
theorem ki_w2 (q : SQ) (k : SC) : KI k (kwo2 q k) := ((ki_n k).tr (ki_n (kn k))).tr (ki_second (kn (kn k)) (wAt q))
theorem si_t1 (q : SQ) : SameI q (two1 q) := ((si_nx q).tr (si_nx (nx q))).tr (si_i (nx (nx q)) (wAt q))
theorem si_t2 (q : SQ) : SameI q (two2 q) := ((si_nx q).tr (si_nx (nx q))).tr (si_j (nx (nx q)) (wAt q))
theorem Cnt_w1 {q : SQ} {k : SC} (h : Cnt q k) : Cnt (two1 q) (kwo1 q k) := Cnt_first (wAt q) (Cnt_i (wAt q) (Cnt_nx (Cnt_nx h)))
theorem Cnt_w2 {q q0 : SQ} {k : SC} (h : Cnt q k) : Cnt (two2 q) (kwo2 q0 k) := Cnt_second (wAt q0) (Cnt_j (wAt q) (Cnt_nx (Cnt_nx h)))
theorem i_t1 (q : SQ) : q_i (two1 q) = wAt q := g_ii (nx (nx q)) (wAt q)
theorem i_t2 (q : SQ) : q_i (two2 q) = q_i q := (g_ij (nx (nx q)) (wAt q)).trans ((g_in (nx q)).trans (g_in q))
theorem j_t2 (q : SQ) : q_j (two2 q) = wAt q := g_jj (nx (nx q)) (wAt q)
theorem f_w1 (q : SQ) (k : SC) : c_first (kwo1 q k) = wAt q := g_f1 (kn (kn k)) (wAt q)
theorem f_w2 (q : SQ) (k : SC) : c_first (kwo2 q k) = c_first k := (g_f2 (kn (kn k)) (wAt q)).trans ((g_fn (kn k)).trans (g_fn k))
theorem s_w2 (q : SQ) (k : SC) : c_second (kwo2 q k) = wAt q := g_s2 (kn (kn k)) (wAt q)
theorem lf2 {q : SQ} {k : SC} (hI : Inv q) : Lf 2 q k (two1 q) (kwo1 q k) := by
  refine ⟨⟨core_two1 q, kk_w1 q k, Cnt_w1, fun h => ?_⟩, ⟨si_t1 q, ki_w1 q k⟩, ⟨fun h => absurd h (by decide), fun h => absurd h (by decide), fun h => absurd h (by decide), fun _ => ?_, fun h => absurd h (by decide)⟩, fun P h => leafM2 hI h, fun P h => ?_⟩
  · have := advs_t1 q (by omega)
    omega
  · rw [i_t1, f_w1]
    exact ⟨rfl, rW_at hI⟩
  · rw [show lcm 2 = 2 from by decide]
    exact leafC2' hI h
theorem lf5 {q : SQ} {k : SC} (hI : Inv q) : Lf 5 q k (two2 (two1 q)) (kwo2 (two1 q) (kwo1 q k)) := by
  refine ⟨⟨(core_two1 q).tr (core_two2 _), (kk_w1 q k).tr (kk_w2 _ _), fun h => Cnt_w2 (Cnt_w1 h), fun h => ?_⟩, ⟨(si_t1 q).tr (si_t2 _), (ki_w1 q k).tr (ki_w2 _ _)⟩, ⟨fun h => absurd h (by decide), fun h => absurd h (by decide), fun h => absurd h (by decide), fun h => absurd h (by decide), fun _ => ?_⟩, fun P h => leafM5 hI h, fun P h => ?_⟩
  · have h1 := advs_t1 q (by omega)
    have h2 := advs_t2 (two1 q) (by omega)
    omega
  · rw [i_t2, i_t1, j_t2, f_w2, f_w1, s_w2]
    exact ⟨⟨rfl, rW_at hI⟩, rfl, rW_at (core_inv (core_two1 q) hI)⟩
  · rw [show lcm 5 = 5 from by decide]
    exact leafC5 hI h
theorem lf_any {l : Int32} {q : SQ} {k : SC} (hI : Inv q) (hl : l = 0 ∨ l = 1 ∨ l = 2 ∨ l = 3 ∨ l = 4 ∨ l = 5) : ∃ q2 k2, Lf l q k q2 k2 := by
  rcases hl with rfl | rfl | rfl | rfl | rfl | rfl
  · exact ⟨_, _, lf0⟩
  · exact ⟨_, _, lf1 hI⟩
  · exact ⟨_, _, lf2 hI⟩
  · exact ⟨_, _, lf3 hI⟩
  · exact ⟨_, _, lf4 hI⟩
  · exact ⟨_, _, lf5 hI⟩
