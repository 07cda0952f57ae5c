-- ----- the code with its prefixes, both sides
def cTail (P : Int32 → SF → Prop) (u1 : SF) : Prop := wX1_fetchRest u1 (fun u3 => (((15 : Int32) < (c_fetched (f_code u3)) → (wX1_find_b67 P u3)) ∧ (¬ (15 : Int32) < (c_fetched (f_code u3)) → (wX1_formOf (c_number (f_code u3)) () (fun r7 _ => ((r7 = (9 : Int32) → (wX1_find_b67 P u3)) ∧ (¬ r7 = (9 : Int32) → (wX1_isCode (f_code u3) (fun r10 u9 => ((r10 = (0 : Int32) → (wX1_find_b67 P (fs_code u3 u9))) ∧ (¬ r10 = (0 : Int32) → (wX1_find_b68 P (1 : Int32) (fs_code u3 u9)))))))))))))
def sOut (x : Int32) (q : SQ) (k : SC) : SF := (k, mR (mQ q), (q_registers q, q_segments q, if x = 1 then q_at q &&& 65535 else q_begin q))
theorem sOut_1 (q : SQ) (k : SC) : sOut 1 q k = sF q k := by unfold sOut; rw [if_pos rfl]
theorem sOut_0 (q : SQ) (k : SC) : sOut 0 q k = (k, mR (mQ q), (q_registers q, q_segments q, q_begin q)) := by unfold sOut; rw [if_neg (by decide)]
theorem sF_code (q : SQ) (k : SC) : f_code (sF q k) = k := rfl
theorem sF_fs (q : SQ) (k k2 : SC) : fs_code (sF q k) k2 = sF q k2 := rfl
theorem cNo {q : SQ} {k : SC} {P : Int32 → SF → Prop} (hb : c_begin k &&& 65535 = q_begin q) (h : P 0 (sOut 0 q k)) : wX1_find_b67 P (sF q k) := by
  rw [sOut_0, ← hb] at h
  exact tk rfl (iX4_moveTo ⟨zB_0, h⟩)
theorem cYes {q : SQ} {k : SC} {P : Int32 → SF → Prop} (h : P 1 (sOut 1 q k)) : wX1_find_b68 P 1 (sF q k) := by
  rw [sOut_1] at h
  exact sk (by decide) ⟨zB_1, h⟩
theorem dec_of {q q2 : SQ} {k k2 : SC} (hs : rS q) (hb : rB (q_code q)) (hp : ¬ formsF (q_code q).toNatClampNeg = 9) (hn : c_number k = q_code q) (hr : Rel k q) (hbg : c_begin k &&& 65535 = q_begin q) (R : Rst q k q2 k2) (ok : fOk q2 = 1) : Dec k2 q2 := by
  obtain ⟨r1, r2, r3, r4, r5, r6, r7, r8⟩ := R
  have ec := r1.2.1.1
  refine ⟨r2.1.trans (hn.trans ec.symm), ?_, ?_, fun h => r5 (kd_M' (by rw [ec]; exact hb) h), r6, decX_ok ok⟩
  · rw [ec]
    exact ⟨hb.1, hb.2, kd_P' hb hp⟩
  · unfold DecP
    rw [r1.2.1.2.1, r1.2.1.2.2.1, r1.2.1.2.2.2, r2.2.1, r2.2.2.1, r2.2.2.2]
    exact ⟨core_rS r1 hs, hr.1, hbg, hr.2⟩
def Fnd (q : SQ) (x : Int32) (q2 : SQ) (k2 : SC) : Prop := (x = 0 ∨ x = 1) ∧ Cor q q2 ∧ q_begin q2 = q_begin q ∧ (x = 1 → Dec k2 q2)
theorem jEnd {q : SQ} {k : SC} (hI : Inv q) (hs : rS q) (hb : rB (q_code q)) (hn : c_number k = q_code q) (hc : Cnt q k) (hr : Rel (fK k) q) (hbg : c_begin k &&& 65535 = q_begin q) (hp : ¬ formsF (q_code q).toNatClampNeg = 9) :
    ∃ x q2 k2, Fnd q x q2 k2 ∧ (∀ P : Int32 → SQ → Prop, P x q2 → wX6_decode_b152 P 0 q) ∧ (∀ P : Int32 → SF → Prop, P x (sOut x q2 k2) → cTail P (sF q k)) := by
  have hr' : Rel k q := by
    unfold fK at hr
    rw [hn, if_neg hp] at hr
    exact hr
  obtain ⟨q2, k2, R⟩ := jRest hI hs hr'.1 hc hn hb hp
  have D := fun ok => dec_of hs hb hp hn hr' hbg R ok
  obtain ⟨r1, r2, r3, r4, r5, r6, r7, r8⟩ := R
  have ec := r1.2.1.1
  have eb := r1.2.1.2.2.1
  have hbg2 : c_begin k2 &&& 65535 = q_begin q2 := by rw [r2.2.1, eb]; exact hbg
  have hn2 : c_number k2 = q_code q2 := r2.1.trans (hn.trans ec.symm)
  have e15 : ∀ u : SF, u = sF q2 k2 → c_fetched (f_code u) = q_at q2 - q_begin q2 := by rintro u rfl; exact r3
  by_cases z : (15 : Int32) < q_at q2 - q_begin q2
  · refine ⟨0, q2, k2, ⟨Or.inl rfl, r1.cor, eb, fun h => absurd h (by decide)⟩, fun P h => ?_, fun P h => ?_⟩
    · exact tk rfl (r7 _ ⟨fun _ => h, fun _ => tk z h⟩)
    · refine r8 _ (tk ?_ (cNo hbg2 h))
      rw [e15 _ rfl]
      exact z
  · refine ⟨fOk q2, q2, k2, ⟨ok_cases q2, r1.cor, eb, D⟩, fun P h => ?_, fun P h => ?_⟩
    · refine tk rfl (r7 _ ⟨fun c => ?_, fun c => sk z ?_⟩)
      · rw [c] at h; exact h
      · rw [(ok_cases q2).resolve_left c] at h; exact h
    · refine r8 _ (sk ?_ ?_)
      · rw [e15 _ rfl]
        exact z
      · rw [sF_code, hn2]
        refine iX1_formOf (by rw [ec]; exact hb) (sk (by rw [ec]; exact hp) (cOk hn2 (fun c => ?_) ⟨fun c => ?_, fun c => ?_⟩))
        · have m := (r5 (hm_5 c)).1
          exact ⟨m.1, m.2.2.1⟩
        · rw [c] at h
          exact cNo hbg2 h
        · rw [(ok_cases q2).resolve_left c] at h
          exact cYes h
theorem lc_9 (r : Int32) : lc21 9 r = 0 := by
  unfold lc21 lc58 lc95
  rw [if_neg (by decide), if_neg (by decide), if_neg (by decide), if_neg (by decide), if_neg (by decide), if_neg (by decide), if_neg (by decide)]
/-- fifteen prefixes and no code yet: the class -/
theorem cFull {q : SQ} {k : SC} {P : Int32 → SF → Prop} (hb : rB (q_code q)) (hn : c_number k = q_code q) (hc : Cnt q k) (hbg : c_begin k &&& 65535 = q_begin q) (hp : formsF (q_code q).toNatClampNeg = 9) (h15 : cnt q = 15) (h : P 0 (sOut 0 q k)) : cTail P (sF q k) := by
  have e15 : (15 : Int32).toInt = 15 := rfl
  have hf : c_fetched k = q_at q - q_begin q := hc
  refine cRest (by rw [hn]; exact hb) (fun _ => ?_) (fun c => ?_)
  · rw [hn, hp, lc_9]
    unfold cL
    rw [if_pos rfl]
    refine sk (fun z => ?_) ?_
    · have := ti_lt.mp z
      rw [sF_code, hf] at this
      unfold cnt at h15
      omega
    · rw [sF_code, hn]
      exact iX1_formOf hb (tk hp (cNo hbg h))
  · rw [hn, hp] at c
    exact absurd rfl c
/-- .. and the reference, which takes one byte more -/
theorem mFull {q : SQ} (hI : Inv q) (hs : rS q) (h15 : cnt q = 15) : ∃ q2, Cor q q2 ∧ q_begin q2 = q_begin q ∧ (∀ P : Int32 → SQ → Prop, P 0 q2 → ∃ n, wX6_decode_b28 P n 1 q) := by
  have hb : rB (bAt q) := rB_at hI
  have e16 : (16 : Int32).toInt = 16 := rfl
  have e15 : (15 : Int32).toInt = 15 := rfl
  have c16 : cnt (fPf (bAt q) (nx q)) = 16 := by rw [cnt_pf, cnt_nx (by omega), h15]; rfl
  have C1 : Cor q (fPf (bAt q) (nx q)) := (core_nx q).cor.tr (cor_pf _ _)
  have B1 : q_begin (fPf (bAt q) (nx q)) = q_begin q := (pf_begin _ _).trans (nx_begin q)
  have K1 : q_code (fPf (bAt q) (nx q)) = bAt q := pf_code _ _
  have S1 : rS (fPf (bAt q) (nx q)) := rS_pf (rS_nx hs)
  have T : ∀ (P : Int32 → SQ → Prop) (n : Nat), wX6_decode_b28 P n (fPx (bAt q)) (fPf (bAt q) (nx q)) → wX6_decode_b28 P (n + 1) 1 q := fun P n h => mTurn hI (by omega) h
  generalize fPf (bAt q) (nx q) = q1 at *
  generalize bAt q = r at *
  rcases px_cases hb with ⟨a, b⟩ | ⟨a, b⟩
  · refine ⟨q1, C1, B1, fun P h => ⟨2, T P 1 ?_⟩⟩
    rw [a, wX6_decode_b28]
    refine sk (by decide) (tk ?_ (sk (by decide) h))
    have := ti_le (x := 16) (y := q_at q1 - q_begin q1)
    unfold cnt at c16
    exact this.mpr (by omega)
  · obtain ⟨q2, k2, R⟩ := jRest (k := cs_fetched (cs_givenSegment (cs_number (cs_begin (0, 0, 0, 0, 0, 0, 0, 0, 0, 0, 0, 0) 0) (q_code q1)) (q_segment q1)) (q_at q1 - q_begin q1)) (cor_inv C1 hI) S1 rfl rfl rfl (by rw [K1]; exact hb) (by rw [K1]; exact b)
    obtain ⟨r1, r2, r3, r4, -, -, r7, -⟩ := R
    refine ⟨q2, C1.tr r1.cor, r1.2.1.2.2.1.trans B1, fun P h => ⟨2, T P 1 ?_⟩⟩
    rw [a, wX6_decode_b28]
    refine tk rfl (tk rfl (r7 _ ⟨fun _ => h, fun _ => tk ?_ h⟩))
    have := r4 (by omega)
    refine ti_lt.mpr ?_
    unfold cnt at *
    omega
theorem sOut_cor {q q2 : SQ} (k : SC) (h : Cor q q2) (hb : q_begin q2 = q_begin q) : sOut 0 q2 k = sOut 0 q k := by
  rw [sOut_0, sOut_0, h.1.1, h.1.2.1, h.1.2.2.1, hb]
theorem rel_1 {k : SC} {q : SQ} {r : Int32} (hr : Rel k q) (hb : rB r) : Rel (fK (cs_number (kn k) r)) (fPf r (nx q)) := rel_pf hb (rel_kn hr)
def Hd (q : SQ) (k : SC) : Prop := Inv q ∧ rS q ∧ rB (q_code q) ∧ c_number k = q_code q ∧ Cnt q k ∧ Rel (fK k) q ∧ c_begin k &&& 65535 = q_begin q
theorem num_begin (k : SC) (v : Int32) : c_begin (cs_number k v) = c_begin k := rfl
theorem kn_begin (k : SC) : c_begin (kn k) = c_begin k := rfl
theorem hd_next {q : SQ} {k : SC} (H : Hd q k) (hp : formsF (q_code q).toNatClampNeg = 9) : Hd (fPf (bAt q) (nx q)) (cs_number (kn (fKP k)) (bAt q)) := by
  obtain ⟨hI, hs, hb, hn, hc, hr, hbg⟩ := H
  have hr' : Rel (fKP k) q := by
    unfold fK at hr
    rw [hn, if_pos hp] at hr
    exact hr
  have C1 : Cor q (fPf (bAt q) (nx q)) := (core_nx q).cor.tr (cor_pf _ _)
  refine ⟨cor_inv C1 hI, rS_pf (rS_nx hs), ?_, ?_, Cnt_pf (Cnt_num _ (Cnt_nx (Cnt_kp hc))), rel_1 hr' (rB_at hI), ?_⟩
  · rw [pf_code]; exact rB_at hI
  · rw [pf_code, n_num]
  · rw [num_begin, kn_begin, kp_begin, pf_begin, nx_begin]; exact hbg
theorem jLoop (m : Nat) : ∀ (q : SQ) (k : SC), Hd q k → cnt q = 15 - m → m ≤ 14 → ∃ x q2 k2, Fnd q x q2 k2 ∧ (∀ P : Int32 → SQ → Prop, P x q2 → ∃ n, wX6_decode_b28 P n (fPx (q_code q)) q) ∧ (∀ P : Int32 → SF → Prop, P x (sOut x q2 k2) → ∃ n, wX1_fetchNumber_b12 (cTail P) n (q_at q - q_begin q) (sF q k)) := by
  have e15 : (15 : Int32).toInt = 15 := rfl
  induction m with
  | zero =>
    intro q k H hm _
    have H' := H
    obtain ⟨hI, hs, hb, hn, hc, hr, hbg⟩ := H
    have z15 : (15 : Int32) ≤ q_at q - q_begin q := ti_le.mpr (by unfold cnt at hm; omega)
    rcases px_cases hb with ⟨a, b⟩ | ⟨a, b⟩
    · obtain ⟨q2, c1, c2, c3⟩ := mFull hI hs (by omega)
      refine ⟨0, q2, k, ⟨Or.inl rfl, c1, c2, fun h => absurd h (by decide)⟩, fun P h => by rw [a]; exact c3 P h, fun P h => ⟨1, ?_⟩⟩
      rw [wX1_fetchNumber_b12]
      rw [sOut_cor k c1 c2] at h
      exact tk z15 (cFull hb hn hc hbg b (by omega) h)
    · obtain ⟨x, q2, k2, f1, f2, f3⟩ := jEnd hI hs hb hn hc hr hbg b
      refine ⟨x, q2, k2, f1, fun P h => ⟨1, ?_⟩, fun P h => ⟨1, ?_⟩⟩
      · rw [a, wX6_decode_b28]
        exact tk rfl (f2 P h)
      · rw [wX1_fetchNumber_b12]
        exact tk z15 (f3 P h)
  | succ m ih =>
    intro q k H hm hle
    have H' := H
    obtain ⟨hI, hs, hb, hn, hc, hr, hbg⟩ := H
    have z15 : ¬ (15 : Int32) ≤ q_at q - q_begin q := fun z => by
      have := ti_le.mp z
      unfold cnt at hm
      omega
    rcases px_cases hb with ⟨a, b⟩ | ⟨a, b⟩
    · have c1 : cnt (fPf (bAt q) (nx q)) = 15 - m := by
        rw [cnt_pf, cnt_nx (by omega), hm]
        omega
      obtain ⟨x, q2, k2, ⟨f1, f2, f3, f4⟩, f5, f6⟩ := ih _ _ (hd_next H' b) c1 (by omega)
      rw [pf_begin, nx_begin] at f3
      rw [pf_code] at f5
      rw [sF_pf, pf_at, pf_begin, nx_at, nx_begin, cnt_1] at f6
      refine ⟨x, q2, k2, ⟨f1, ((core_nx q).cor.tr (cor_pf _ _)).tr f2, f3, f4⟩, fun P h => ?_, fun P h => ?_⟩
      · obtain ⟨n, h1⟩ := f5 P h
        rw [a]
        exact ⟨n + 1, mTurn hI (by omega) h1⟩
      · obtain ⟨n, h1⟩ := f6 P h
        refine ⟨n + 1, ?_⟩
        rw [wX1_fetchNumber_b12]
        refine sk z15 ?_
        rw [sF_code, hn]
        refine iX1_formOf hb (tk b (cKeep ?_))
        rw [sF_fs]
        exact iX1_fetch hI h1
    · obtain ⟨x, q2, k2, f1, f2, f3⟩ := jEnd hI hs hb hn hc hr hbg b
      refine ⟨x, q2, k2, f1, fun P h => ⟨1, ?_⟩, fun P h => ⟨1, ?_⟩⟩
      · rw [a, wX6_decode_b28]
        exact tk rfl (f2 P h)
      · rw [wX1_fetchNumber_b12]
        refine sk z15 ?_
        rw [sF_code, hn]
        exact iX1_formOf hb (sk b (f3 P h))
/-- where both begin -/
def q00 (q : SQ) : SQ := qs_repeat (qs_segment (qs_at (qs_begin q (q_ip q)) (q_ip q)) (-1)) 0
def k00 (q : SQ) (k : SC) : SC := cs_fetched (cs_repeat (cs_givenSegment (cs_begin k (q_ip q)) (-1)) (-1)) 0
theorem cor_00 (q : SQ) : Cor q (q00 q) := (((cor_begin q _).tr (cor_at _ _)).tr (cor_segment _ _)).tr (cor_repeat _ _)
def b00 (q : SQ) : SQ := qs_at (qs_begin q (q_ip q)) (q_ip q)
theorem b00_at (q : SQ) : q_at (b00 q) = q_ip q := rfl
theorem b00_begin (q : SQ) : q_begin (b00 q) = q_ip q := rfl
theorem s00_at (q : SQ) (v w : Int32) : q_at (qs_repeat (qs_segment q v) w) = q_at q := rfl
theorem s00_begin (q : SQ) (v w : Int32) : q_begin (qs_repeat (qs_segment q v) w) = q_begin q := rfl
theorem s00_rel (q : SQ) (k : SC) : Rel (cs_repeat (cs_givenSegment k (-1)) (-1)) (qs_repeat (qs_segment q (-1)) 0) := ⟨rfl, Or.inl ⟨rfl, rfl⟩⟩
theorem s00_rS (q : SQ) (w : Int32) : rS (qs_repeat (qs_segment q (-1)) w) := Or.inl rfl
theorem rel_f {k : SC} {q : SQ} (v : Int32) (h : Rel k q) : Rel (cs_fetched k v) q := h
theorem q00_e (q : SQ) : q00 q = qs_repeat (qs_segment (b00 q) (-1)) 0 := rfl
theorem q00_at (q : SQ) : q_at (q00 q) = q_ip q := by rw [q00_e, s00_at, b00_at]
theorem q00_begin (q : SQ) : q_begin (q00 q) = q_ip q := by rw [q00_e, s00_begin, b00_begin]
theorem k00_begin (q : SQ) (k : SC) : c_begin (k00 q k) = q_ip q := rfl
theorem k00_fetched (q : SQ) (k : SC) : c_fetched (k00 q k) = 0 := rfl
theorem hd_00 {q : SQ} (k : SC) (hI : Inv q) : Hd (fPf (bAt (q00 q)) (nx (q00 q))) (cs_number (kn (k00 q k)) (bAt (q00 q))) ∧ cnt (q00 q) = 0 := by
  have hr : Rel (k00 q k) (q00 q) := by rw [q00_e]; exact rel_f _ (s00_rel _ _)
  have hs : rS (q00 q) := by rw [q00_e]; exact s00_rS _ _
  have hI0 := cor_inv (cor_00 q) hI
  have hc : Cnt (q00 q) (k00 q k) := by
    unfold Cnt
    rw [k00_fetched, q00_at, q00_begin, Int32.sub_self]
  have C1 : Cor (q00 q) (fPf (bAt (q00 q)) (nx (q00 q))) := (core_nx _).cor.tr (cor_pf _ _)
  refine ⟨⟨cor_inv C1 hI0, rS_pf (rS_nx hs), ?_, ?_, Cnt_pf (Cnt_num _ (Cnt_nx hc)), rel_1 hr (rB_at hI0), ?_⟩, ?_⟩
  · rw [pf_code]; exact rB_at hI0
  · rw [pf_code, n_num]
  · rw [num_begin, kn_begin, k00_begin, pf_begin, nx_begin, q00_begin]; exact and65535_id hI.2.1.2.2
  · unfold cnt
    rw [q00_at, q00_begin, Int32.sub_self]
    rfl
theorem jFind {q : SQ} (k : SC) (hI : Inv q) : ∃ x q2 k2, (x = 0 ∨ x = 1) ∧ Cor q q2 ∧ q_begin q2 = q_ip q ∧ (x = 1 → Dec k2 q2) ∧ (∀ P : Int32 → SQ → Prop, P x q2 → wX6_decode q P) ∧ (∀ P : Int32 → SF → Prop, P x (sOut x q2 k2) → wX1_find (k, mR (mQ q), rQ q) P) := by
  obtain ⟨H, h0⟩ := hd_00 k hI
  have hI0 := cor_inv (cor_00 q) hI
  have c1 : cnt (fPf (bAt (q00 q)) (nx (q00 q))) = 15 - ((14 : Nat) : Int) := by
    rw [cnt_pf, cnt_nx (by omega), h0]; rfl
  obtain ⟨x, q2, k2, ⟨f1, f2, f3, f4⟩, f5, f6⟩ := jLoop 14 _ _ H c1 (by decide)
  rw [pf_begin, nx_begin, q00_begin] at f3
  rw [pf_code] at f5
  rw [sF_pf, pf_at, pf_begin, nx_at, nx_begin, cnt_1, q00_at, q00_begin, Int32.sub_self, Int32.zero_add] at f6
  refine ⟨x, q2, k2, f1, ((cor_00 q).tr ((core_nx _).cor.tr (cor_pf _ _))).tr f2, f3, f4, fun P h => ?_, fun P h => ?_⟩
  · obtain ⟨n, h1⟩ := f5 P h
    exact ⟨n + 1, (mTurn (q := q00 q) hI0 (by omega) h1 : wX6_decode_b28 P (n + 1) 1 (q00 q))⟩
  · have h1 := f6 P h
    have e1 : (k00 q k, mR (mQ q), rQ q) = sF (q00 q) (k00 q k) := by
      show (k00 q k, mR (mQ q), (q_registers q, q_segments q, q_ip q)) = (k00 q k, mR (mQ (q00 q)), (q_registers (q00 q), q_segments (q00 q), q_at (q00 q) &&& 65535))
      have C0 := (cor_00 q).1
      rw [C0.1, C0.2.1, C0.2.2.1, q00_at, and65535_id hI.2.1.2.2]
    show wX1_fetchNumber (k00 q k, mR (mQ q), rQ q) (fun u1 => cTail P u1)
    rw [e1]
    exact iX1_fetch hI0 h1
