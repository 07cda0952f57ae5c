-- ----- what follows a code, both sides
theorem hm_all : ∀ j : Fin 256, hmM (nI j.val) = 0 ∨ hmM (nI j.val) = 1 := by decide +kernel
theorem hm_cases {n : Int32} (h : rB n) : hmM n = 0 ∨ hmM n = 1 := by
  rcases byte_fin h with ⟨j, e, -⟩
  have := hm_all j
  rw [e] at this
  exact this
theorem dec_mv {q q2 : SQ} {k k2 : SC} (s : SameI q q2) (t : KI k k2) (D : DecM k q ∧ (¬ q_mode q = 3 → rW (q_offset q))) : DecM k2 q2 ∧ (¬ q_mode q2 = 3 → rW (q_offset q2)) := by
  obtain ⟨s1, s2, s3, s4, s5⟩ := s
  obtain ⟨t1, t2, t3, t4, t5⟩ := t
  unfold DecM at *
  rw [s1, s2, s3, s4, s5, t1, t2, t3, t4, t5]
  exact D
theorem ne_67 {n : Int32} {m : Int} (h : n.toInt = m) (h1 : ¬ m = 246) (h2 : ¬ m = 247) : ¬ n = 246 ∧ ¬ n = 247 := by
  constructor
  · rintro rfl; exact h1 h.symm
  · rintro rfl; exact h2 h.symm
theorem kd_S' {n r : Int32} (hb : rB n) (h : iShort n) : lf11 n r = 3 := by
  have c : ¬ n = 246 ∧ ¬ n = 247 := by
    unfold iShort at h
    exact ne_67 (m := n.toInt) rfl (by omega) (by omega)
  rcases byte_fin hb with ⟨j, e, -⟩
  have := kd_S j
  rw [e] at this
  rw [r11 (r2 := 0) c.1 c.2]
  exact this h
theorem kd_131' {n r : Int32} (h : n.toInt = 131) : lf11 n r = 4 := by
  have e : n = 131 := ti_ext h
  rw [e, r11 (r2 := 0) (by decide) (by decide)]
  exact kd_131
theorem kd_T' {n r : Int32} (hb : rB n) (h : iTwo n) : lf11 n r = 5 := by
  have c : ¬ n = 246 ∧ ¬ n = 247 := by
    unfold iTwo at h
    exact ne_67 (m := n.toInt) rfl (by omega) (by omega)
  rcases byte_fin hb with ⟨j, e, -⟩
  have := kd_T j
  rw [e] at this
  rw [r11 (r2 := 0) c.1 c.2]
  exact this h
theorem no_246 {n : Int32} (h : ¬ n = 246) : ¬ n.toInt = 246 := fun z => h (ti_ext z)
theorem no_247 {n : Int32} (h : ¬ n = 247) : ¬ n.toInt = 247 := fun z => h (ti_ext z)
theorem kd_B' {n r : Int32} (hb : rB n) (hr : r7 r ∨ hmM n = 0) (h : iByte n r) : lf11 n r = 1 := by
  rcases byte_fin hb with ⟨j, e, -⟩
  rcases hr with hr | hr
  · rcases r7_fin hr with ⟨i, e2⟩
    have := kd_B j i
    rw [e, e2] at this
    exact this h
  · have c := hm_67 hr
    have d := no_246 c.1
    have := kd_B j 0
    rw [e] at this
    rw [r11 (r2 := 0) c.1 c.2]
    refine this ?_
    unfold iByte at *
    omega
theorem kd_W' {n r : Int32} (hb : rB n) (hr : r7 r ∨ hmM n = 0) (h : iWord n r) : lf11 n r = 2 := by
  rcases byte_fin hb with ⟨j, e, -⟩
  rcases hr with hr | hr
  · rcases r7_fin hr with ⟨i, e2⟩
    have := kd_W j i
    rw [e, e2] at this
    exact this h
  · have c := hm_67 hr
    have d := no_247 c.2
    have := kd_W j 0
    rw [e] at this
    rw [r11 (r2 := 0) c.1 c.2]
    refine this ?_
    unfold iWord at *
    omega
theorem kd_M' {n : Int32} (hb : rB n) (h : hasMp n) : hmM n = 1 := by
  rcases byte_fin hb with ⟨j, e, -⟩
  have := kd_M j
  rw [e] at this
  exact this h
theorem kd_P' {n : Int32} (hb : rB n) (h : ¬ formsF n.toNatClampNeg = 9) : noPre n := by
  rcases byte_fin hb with ⟨j, e, e2⟩
  have := kd_P j
  rw [e, e2] at this
  exact this.resolve_left h
theorem decI_num {q : SQ} {k : SC} (hb : rB (q_code q)) (hr : r7 (q_r q) ∨ hmM (q_code q) = 0) (N : Num (lf11 (q_code q) (q_r q)) q k) : DecI k q :=
  ⟨fun h => N.1 (kd_S' hb h), fun h => N.2.1 (kd_131' h), fun h => N.2.2.1 (kd_B' hb hr h), fun h => N.2.2.2.1 (kd_W' hb hr h), fun h => N.2.2.2.2 (kd_T' hb h)⟩
theorem decX_ok {q : SQ} {k : SC} (h : fOk q = 1) : DecX k q := by
  refine ⟨fun c d => ?_, fun c => ?_, fun c d e => ?_⟩
  · rw [ok_m (by rcases c with c | c | c; exact Or.inl (ti_ext c); exact Or.inr (Or.inl (ti_ext c)); exact Or.inr (Or.inr (ti_ext c))), if_pos d] at h
    exact absurd h (by decide)
  · have c' : q_code q = 254 := ti_ext c
    have e : fOk q = if 2 ≤ q_r q then 0 else 1 := by
      unfold fOk
      rw [if_neg (by rw [c']; decide), ok0_0 (by rw [c']; decide) (by rw [c']; decide) (by rw [c']; decide)]
      exact if_pos c'
    rw [e] at h
    by_cases z : 2 ≤ q_r q
    · rw [if_pos z] at h; exact absurd h (by decide)
    · have e2 : (2 : Int32).toInt = 2 := rfl
      have h3 : ¬ (2 : Int32).toInt ≤ (q_r q).toInt := fun y => z (ti_le.mpr y)
      omega
  · have c' : q_code q = 255 := ti_ext c
    have e1 : fOk0 q 1 = 0 := by
      rw [ok0_1 (by rw [c']; decide) (by rw [c']; decide) (by rw [c']; decide), ok1_m (by rw [c']; decide), if_pos e]
    unfold fOk at h
    rw [if_pos c'] at h
    rcases d with d | d
    · rw [if_pos d, e1] at h; exact absurd h (by decide)
    · rw [if_neg (by rw [d]; decide), if_pos d, e1] at h; exact absurd h (by decide)
theorem hm_5 {n : Int32} (h : n = 141 ∨ n = 196 ∨ n = 197 ∨ n = 254 ∨ n = 255) : hmM n = 1 := by
  rcases h with rfl | rfl | rfl | rfl | rfl <;> decide
def Rst (q : SQ) (k : SC) (q2 : SQ) (k2 : SC) : Prop := Core q q2 ∧ KK k k2 ∧ Cnt q2 k2 ∧ (cnt q ≤ 300 → cnt q ≤ cnt q2 ∧ cnt q2 ≤ cnt q + 7) ∧ (hmM (q_code q2) = 1 → DecM k2 q2 ∧ (¬ q_mode q2 = 3 → rW (q_offset q2))) ∧ DecI k2 q2 ∧ (∀ P : Int32 → SQ → Prop, P (fOk q2) q2 → wX6_follows q P) ∧ (∀ P : SF → Prop, P (sF q2 k2) → wX1_fetchRest (sF q k) P)
theorem jRest0 {q : SQ} {k : SC} (hI : Inv q) (hs : rS q) (hc : Cnt q k) (hn : c_number k = q_code q) (hb : rB (q_code q)) (hp : ¬ formsF (q_code q).toNatClampNeg = 9) (hm : hmM (q_code q) = 0) : ∃ q2 k2, Rst q k q2 k2 := by
  obtain ⟨q2, k2, ⟨l1, l2, l3, l4⟩, ⟨l5, l6⟩, l7, l8, l9⟩ := lf_any (k := k) hI (lf_cases (r := q_r q) hb (Or.inr hm))
  have ec := l1.2.1.1
  refine ⟨q2, k2, l1, l2, l3 hc, fun h => ?_, fun h => ?_, decI_num (by rw [ec]; exact hb) (Or.inr (by rw [ec]; exact hm)) (by rw [ec, l5.2.2.1]; exact l7), fun P h => ?_, fun P h => ?_⟩
  · have := l4 (by omega); omega
  · rw [ec, hm] at h; exact absurd h (by decide)
  · exact mFollows hI hs hb.1 (fun _ => l8 P (mOk h)) (fun c => absurd hm c) (by
      have := (jMode (q := q) (k := cs_fetched (cs_givenSegment k (q_segment q)) (q_at q - q_begin q)) hI hs rfl rfl).1
      exact this.2.1.1)
  · refine cRest (by rw [hn]; exact hb) (fun _ => ?_) (fun c => ?_)
    · rw [hn, form_L0 (r2 := q_r q) hb hp hm]
      exact l9 P h
    · rw [hn] at c
      exact absurd ((form_M' hb hp).trans hm) c
theorem jRest1 {q : SQ} {k : SC} (hI : Inv q) (hs : rS q) (hgs : c_givenSegment k = q_segment q) (hc : Cnt q k) (hn : c_number k = q_code q) (hb : rB (q_code q)) (hp : ¬ formsF (q_code q).toNatClampNeg = 9) (hm : hmM (q_code q) = 1) : ∃ q2 k2, Rst q k q2 k2 := by
  obtain ⟨j1, j2, j3, j4, j5, j6, j7⟩ := jMode hI hs hgs hc
  have hI1 := core_inv j1 hI
  have ec := j1.2.1.1
  have er := j5.1.2.2.2.2.2
  have ek := j5.1.2.2.1
  generalize fMode q = q1 at *
  generalize kMode q k = k1 at *
  obtain ⟨q2, k2, ⟨l1, l2, l3, l4⟩, ⟨l5, l6⟩, l7, l8, l9⟩ := lf_any (k := k1) hI1 (lf_cases (n := q_code q1) (r := q_r q1) (by rw [ec]; exact hb) (Or.inl er))
  have ec2 := l1.2.1.1
  refine ⟨q2, k2, j1.tr l1, j2.tr l2, l3 j3, fun h => ?_, fun h => dec_mv l5 l6 j5, decI_num (by rw [ec2, ec]; exact hb) (Or.inl (by rw [l5.2.2.1]; exact er)) (by rw [ec2, l5.2.2.1]; exact l7), fun P h => ?_, fun P h => ?_⟩
  · have a := j4 (by omega)
    have b := l4 (by omega)
    omega
  · refine mHM ⟨fun c => ?_, fun c => j6 _ (mB11 (by rw [ec]; exact hb.1) (l8 P (mOk h)))⟩
    rw [hm] at c; exact absurd c (by decide)
  · refine cRest (by rw [hn]; exact hb) (fun c => ?_) (fun _ => j7 _ (cB21 ?_))
    · rw [hn, form_M' hb hp, hm] at c; exact absurd c (by decide)
    · show cL P (lc21 (formsF (c_number k).toNatClampNeg) (c_r k1)) (sF q1 k1)
      rw [hn, ek, form_L' hb hp er]
      rw [ec] at l9
      exact l9 P h
theorem jRest {q : SQ} {k : SC} (hI : Inv q) (hs : rS q) (hgs : c_givenSegment k = q_segment q) (hc : Cnt q k) (hn : c_number k = q_code q) (hb : rB (q_code q)) (hp : ¬ formsF (q_code q).toNatClampNeg = 9) : ∃ q2 k2, Rst q k q2 k2 := by
  rcases hm_cases hb with hm | hm
  · exact jRest0 hI hs hc hn hb hp hm
  · exact jRest1 hI hs hgs hc hn hb hp hm
