-- ----- strings with repeats
def isStr (n : Int32) : Prop := n = 164 ∨ n = 165 ∨ n = 166 ∨ n = 167 ∨ n = 170 ∨ n = 171 ∨ n = 172 ∨ n = 173 ∨ n = 174 ∨ n = 175
theorem isStr_kind {n : Int32} (h : isStr n) : n &&& 254 = 164 ∨ n &&& 254 = 166 ∨ n &&& 254 = 170 ∨ n &&& 254 = 172 ∨ n &&& 254 = 174 := by
  rcases h with rfl | rfl | rfl | rfl | rfl | rfl | rfl | rfl | rfl | rfl <;> decide
theorem isStr_pos {n : Int32} (h : isStr n) : 0 ≤ n.toInt := by
  rcases h with rfl | rfl | rfl | rfl | rfl | rfl | rfl | rfl | rfl | rfl <;> decide
def fCmp (n : Int32) : Int32 := bI (n &&& 6 = 6)
theorem iX1_compares {k : SC} {P : Int32 → SC → Prop} (h : P (fCmp (c_number k)) k) : wX1_compares k P := br_p (fun z => P z k) h
theorem iX6_compares {q : SQ} {P : Int32 → SQ → Prop} (hS : isStr (q_code q)) (h : P (fCmp (q_code q)) q) : wX6_compares q P := by
  refine ⟨fun d => ?_, fun d => ⟨fun d2 => ?_, fun d2 => ⟨fun d3 => ?_, fun d3 => ⟨fun d4 => ?_, fun d4 => ?_⟩⟩⟩⟩
  · rw [d, show fCmp 166 = 1 from by decide] at h; exact h
  · rw [d2, show fCmp 167 = 1 from by decide] at h; exact h
  · rw [d3, show fCmp 174 = 1 from by decide] at h; exact h
  · rw [d4, show fCmp 175 = 1 from by decide] at h; exact h
  · rcases hS with c | c | c | c | c | c | c | c | c | c
    · rw [c, show fCmp 164 = 0 from by decide] at h; exact h
    · rw [c, show fCmp 165 = 0 from by decide] at h; exact h
    · exact absurd c d
    · exact absurd c d2
    · rw [c, show fCmp 170 = 0 from by decide] at h; exact h
    · rw [c, show fCmp 171 = 0 from by decide] at h; exact h
    · rw [c, show fCmp 172 = 0 from by decide] at h; exact h
    · rw [c, show fCmp 173 = 0 from by decide] at h; exact h
    · exact absurd c d3
    · exact absurd c d4
def SameC (q q1 : SQ) : Prop := q_code q1 = q_code q ∧ q_begin q1 = q_begin q ∧ q_repeat q1 = q_repeat q ∧ q_segment q1 = q_segment q ∧ q_repetitions q1 = q_repetitions q
theorem SameC.tr {q q1 q2 : SQ} (h : SameC q q1) (h2 : SameC q1 q2) : SameC q q2 := ⟨h2.1.trans h.1, h2.2.1.trans h.2.1, h2.2.2.1.trans h.2.2.1, h2.2.2.2.1.trans h.2.2.2.1, h2.2.2.2.2.trans h.2.2.2.2⟩
theorem sc_R (q : SQ) (f : A32) : SameC q (qs_registers q f) := ⟨rfl, rfl, rfl, rfl, rfl⟩
theorem sc_A (q : SQ) (b : Int32) (M : SM) : SameC q (strA q b M) ∧ Same q (strA q b M) := ⟨⟨rfl, rfl, rfl, rfl, rfl⟩, ⟨rfl, rfl, rfl, rfl, rfl, rfl⟩⟩
theorem sc_B (q : SQ) (b f : Int32) : SameC q (strB q b f) ∧ Same q (strB q b f) := ⟨⟨rfl, rfl, rfl, rfl, rfl⟩, ⟨rfl, rfl, rfl, rfl, rfl, rfl⟩⟩
theorem sc_C (q : SQ) (b : Int32) (M : SM) : SameC q (strC q b M) ∧ Same q (strC q b M) := ⟨⟨rfl, rfl, rfl, rfl, rfl⟩, ⟨rfl, rfl, rfl, rfl, rfl, rfl⟩⟩
theorem sc_D (q : SQ) (b : Int32) (R : A32) : SameC q (strD q b R) ∧ Same q (strD q b R) := ⟨⟨rfl, rfl, rfl, rfl, rfl⟩, ⟨rfl, rfl, rfl, rfl, rfl, rfl⟩⟩
theorem sc_E (q : SQ) (b f : Int32) : SameC q (strE q b f) ∧ Same q (strE q b f) := ⟨⟨rfl, rfl, rfl, rfl, rfl⟩, ⟨rfl, rfl, rfl, rfl, rfl, rfl⟩⟩
theorem sc_str (q : SQ) : SameC q (fStr q) ∧ Same q (fStr q) := by
  unfold fStr
  split
  · exact sc_A _ _ _
  · split
    · exact sc_B _ _ _
    · split
      · exact sc_C _ _ _
      · split
        · exact sc_D _ _ _
        · exact sc_E _ _ _
theorem inv_passS {q : SQ} (h : Inv q) (b : Int32) : Inv (fPassS b q) := inv_R h (inv_updW h.2.1.1 _ (rW_and _))
theorem inv_passT {q : SQ} (h : Inv q) (b : Int32) : Inv (fPassT b q) := inv_R h (inv_updW h.2.1.1 _ (rW_and _))
theorem inv_A' {q : SQ} (h : Inv q) (b : Int32) {M : SM} (hM : InvM M) : Inv (strA q b M) := inv_passT (inv_passS (inv_Mm h hM) _) _
theorem inv_B' {q : SQ} (h : Inv q) (b f : Int32) : Inv (strB q b f) := inv_passT (inv_passS (inv_F _ h) _) _
theorem inv_C' {q : SQ} (h : Inv q) (b : Int32) {M : SM} (hM : InvM M) : Inv (strC q b M) := inv_passT (inv_Mm h hM) _
theorem inv_D' {q : SQ} (h : Inv q) (b : Int32) {R : A32} (hR : ∀ i, rW (R i)) : Inv (strD q b R) := inv_passS (inv_R h hR) _
theorem inv_E' {q : SQ} (h : Inv q) (b f : Int32) : Inv (strE q b f) := inv_passT (inv_F _ h) _
theorem inv_str {q : SQ} (h : Inv q) : Inv (fStr q) := by
  unfold fStr
  split
  · exact inv_A' h _ (inv_put h.1)
  · split
    · exact inv_B' h _ _
    · split
      · exact inv_C' h _ (inv_put h.1)
      · split
        · exact inv_D' h _ (inv_setR h.2.1.1 _ _ _)
        · exact inv_E' h _ _
theorem rep_A (q : SQ) (r b : Int32) (M : SM) : strA (qs_repetitions q r) b M = qs_repetitions (strA q b M) r := rfl
theorem rep_B (q : SQ) (r b f : Int32) : strB (qs_repetitions q r) b f = qs_repetitions (strB q b f) r := rfl
theorem rep_C (q : SQ) (r b : Int32) (M : SM) : strC (qs_repetitions q r) b M = qs_repetitions (strC q b M) r := rfl
theorem rep_D (q : SQ) (r b : Int32) (R : A32) : strD (qs_repetitions q r) b R = qs_repetitions (strD q b R) r := rfl
theorem rep_E (q : SQ) (r b f : Int32) : strE (qs_repetitions q r) b f = qs_repetitions (strE q b f) r := rfl
theorem rep_src (q : SQ) (r : Int32) : fSrc (qs_repetitions q r) = fSrc q := rfl
theorem rep_tgt (q : SQ) (r : Int32) : fTgt (qs_repetitions q r) = fTgt q := rfl
theorem rep_acc (q : SQ) (r : Int32) : fAcc (qs_repetitions q r) = fAcc q := rfl
theorem rep_to (q : SQ) (r v : Int32) : fToT (qs_repetitions q r) v = fToT q v := rfl
theorem rep_stride (q : SQ) (r : Int32) : fStride (qs_repetitions q r) = fStride q := rfl
theorem rep_code (q : SQ) (r : Int32) : q_code (qs_repetitions q r) = q_code q := rfl
theorem rep_fl (q : SQ) (r : Int32) : q_flags (qs_repetitions q r) = q_flags q := rfl
theorem rep_rg (q : SQ) (r : Int32) : q_registers (qs_repetitions q r) = q_registers q := rfl
theorem rep_str (q : SQ) (r : Int32) : fStr (qs_repetitions q r) = qs_repetitions (fStr q) r := by
  unfold fStr
  rw [rep_code, rep_src, rep_tgt, rep_acc, rep_to, rep_to, rep_stride, rep_fl, rep_rg, rep_A, rep_B, rep_C, rep_D, rep_E]
  split
  · rfl
  · split
    · rfl
    · split
      · rfl
      · split
        · rfl
        · rfl
def fCx (q : SQ) : SQ := qs_registers q (upd (q_registers q) 1 (q_registers q 1 - 1))
def fStop (q : SQ) : SQ := if q_registers q 1 = 0 then q else qs_ip q (q_begin q)
theorem mStop {q : SQ} {P : SQ → Prop} (h : P (fStop q)) : wX6_strings_b106 P 1 q := by
  unfold fStop at h
  refine sk (by decide) ⟨v_18, fun c => ?_, fun c => ?_⟩
  · rw [if_pos (show q_registers q 1 = 0 from c)] at h; exact h
  · rw [if_neg (show ¬ q_registers q 1 = 0 from c)] at h; exact h
theorem cStop {cd : Int32} {q : SQ} {k : SC} {P : SP → Prop} (hb : c_begin k &&& 65535 = q_begin q) (h : P (pO (fStop q) cd k)) : wX3_strings_b116 P (pO q cd k) := by
  unfold fStop at h
  refine iX4_word ⟨fun c => ?_, fun c => ?_⟩
  · rw [if_pos (show q_registers q 1 = 0 from c)] at h; exact h
  · rw [if_neg (show ¬ q_registers q 1 = 0 from c)] at h
    refine iP_moveTo (q := q) ?_
    rw [show c_begin (p_code (pO q cd k)) &&& 65535 = q_begin q from hb]
    exact h
theorem inv_stop {q : SQ} (h : Inv q) (hb : rW (q_begin q)) : Inv (fStop q) := by
  unfold fStop
  split
  · exact h
  · exact inv_Ip h hb
theorem same_stop (q : SQ) : Same q (fStop q) := by
  unfold fStop
  split
  · exact Same.rf
  · exact same_Ip _ _
def fRep (q : SQ) : SQ := qs_repetitions (fStr (fCx q)) (q_repetitions q + 1)
def StrK (k : SC) (s0 : Int32) (q : SQ) : Prop := Inv q ∧ rS q ∧ c_givenSegment k = q_segment q ∧ c_number k = q_code q ∧ isStr (q_code q) ∧ c_begin k &&& 65535 = q_begin q ∧ (q_repeat q = 243 ∧ s0 = 1 ∨ ¬ q_repeat q = 243 ∧ s0 = 0)
theorem cx_W {q : SQ} (h : Inv q) (c : ¬ q_registers q 1 = 0) : rW (q_registers q 1 - 1) := by
  have hw : rW (q_registers q 1) := h.2.1.1 1
  have h0 := hw.1
  have h1 := hw.2
  have e1 : (1 : Int32).toInt = 1 := rfl
  have hn : ¬ (q_registers q 1).toInt = 0 := fun z => c (ti_ext z)
  have e : (q_registers q 1 - 1).toInt = (q_registers q 1).toInt - 1 := by rw [ti_sub (by omega) (by omega), e1]
  exact ⟨by rw [e]; omega, by rw [e]; omega⟩
theorem inv_cx {q : SQ} (h : Inv q) (c : ¬ q_registers q 1 = 0) : Inv (fCx q) := inv_R h (inv_updW h.2.1.1 _ (cx_W h c))
theorem rep_fields (q : SQ) (r : Int32) : q_begin (qs_repetitions q r) = q_begin q ∧ q_repeat (qs_repetitions q r) = q_repeat q ∧ q_segment (qs_repetitions q r) = q_segment q := ⟨rfl, rfl, rfl⟩
theorem rs_seg {q q1 : SQ} (h : q_segment q1 = q_segment q) (hs : rS q) : rS q1 := by unfold rS at *; rw [h]; exact hs
theorem strK_rep {k : SC} {s0 : Int32} {q q2 : SQ} {r : Int32} (h : StrK k s0 q) (sc : SameC q q2) (hI : Inv q2) : StrK k s0 (qs_repetitions q2 r) := by
  rcases h with ⟨_, hs, hg, hn, hS, hb, hr⟩
  have f := rep_fields q2 r
  refine ⟨inv_Rp _ hI, rs_seg (f.2.2.trans sc.2.2.2.1) hs, hg.trans (f.2.2.trans sc.2.2.2.1).symm, hn.trans ((rep_code q2 r).trans sc.1).symm, ?_, hb.trans (f.1.trans sc.2.1).symm, ?_⟩
  · rw [rep_code, sc.1]; exact hS
  · rw [f.2.1, sc.2.2.1]; exact hr
theorem fRep_k {k : SC} {s0 : Int32} {q : SQ} (h : StrK k s0 q) (c : ¬ q_registers q 1 = 0) : StrK k s0 (fRep q) :=
  strK_rep h ((sc_R q _).tr (sc_str (fCx q)).1) (inv_str (inv_cx h.1 c))
theorem same_rep (q : SQ) : Same q (fRep q) := ((same_R q _).tr (sc_str (fCx q)).2).tr (same_Rp _ _)
theorem mRep {n : Nat} {c s0 : Int32} {k : SC} {q : SQ} {P : SQ → Prop} (h : StrK k s0 q) (hc : c.toInt < 64) (h1 : ¬ q_registers q 1 = 0)
    (hy : (fCmp (q_code q) = 0 ∨ fH (q_flags (fRep q)) 64 = s0) → wX6_strings_b16 P n (c + 1) 1 (fRep q))
    (hz : ¬ (fCmp (q_code q) = 0 ∨ fH (q_flags (fRep q)) 64 = s0) → wX6_strings_b16 P n (c + 1) 0 (fRep q)) : wX6_strings_b16 P (n + 1) c 1 q := by
  have hk := fRep_k h h1
  have ec : q_code (fRep q) = q_code q := hk.2.2.2.1.symm.trans h.2.2.2.1
  have er : q_repeat (fRep q) = q_repeat q := by
    have sc : SameC q (fStr (fCx q)) := (sc_R q _).tr (sc_str (fCx q)).1
    unfold fRep
    rw [(rep_fields _ _).2.1]
    exact sc.2.2.1
  have en : q_repetitions (fStr (fCx q)) + 1 = q_repetitions q + 1 := by
    have sc : SameC q (fStr (fCx q)) := (sc_R q _).tr (sc_str (fCx q)).1
    rw [sc.2.2.2.2]
  have e64 : (64 : Int32).toInt = 64 := rfl
  refine sk (by decide) ⟨v_18, sk h1 (sk (fun z => absurd (ti_le.mp z) (by omega)) ⟨v_18, v_18, mStr (q := fCx q) (inv_cx h.1 h1) (rs_seg rfl h.2.1) (isStr_pos h.2.2.2.2.1) (isStr_kind h.2.2.2.2.1) ?_⟩)⟩
  rw [en]
  show wX6_compares (fRep q) _
  refine iX6_compares hk.2.2.2.2.1 ?_
  rw [ec]
  refine ⟨fun d => hy (Or.inl d), fun d => iX6_has ?_⟩
  show (q_repeat (fRep q) = 243 → (fH (q_flags (fRep q)) 64 = 1 → wX6_strings_b16 P n (c + 1) 1 (fRep q)) ∧ (¬ fH (q_flags (fRep q)) 64 = 1 → wX6_strings_b16 P n (c + 1) 0 (fRep q))) ∧ (¬ q_repeat (fRep q) = 243 → (fH (q_flags (fRep q)) 64 = 0 → wX6_strings_b16 P n (c + 1) 1 (fRep q)) ∧ (¬ fH (q_flags (fRep q)) 64 = 0 → wX6_strings_b16 P n (c + 1) 0 (fRep q)))
  rw [er]
  rcases h.2.2.2.2.2.2 with ⟨e, rfl⟩ | ⟨e, rfl⟩
  · exact tk e ⟨fun z => hy (Or.inr z), fun z => hz (fun y => y.elim d z)⟩
  · exact sk e ⟨fun z => hy (Or.inr z), fun z => hz (fun y => y.elim d z)⟩
theorem cRep {n : Nat} {c s0 : Int32} {k : SC} {q : SQ} {P : SP → Prop} (h : StrK k s0 q) (hc : c.toInt < 64) (h1 : ¬ q_registers q 1 = 0)
    (hy : (fCmp (q_code q) = 0 ∨ fH (q_flags (fRep q)) 64 = s0) → wX3_strings_b37 P n s0 (c + 1) (pO (fRep q) (-1) k))
    (hz : ¬ (fCmp (q_code q) = 0 ∨ fH (q_flags (fRep q)) 64 = s0) → P (pO (fRep q) (-1) k)) : wX3_strings_b37 P (n + 1) s0 c (pO q (-1) k) := by
  have e64 : (64 : Int32).toInt = 64 := rfl
  have fin : wX3_stringOnce (pO (qs_repetitions (fCx q) (q_repetitions q + 1)) (-1) k) (fun u13 => wX1_compares (p_code u13) (fun r16 u15 => ((r16 = (0 : Int32) → (wX3_strings_b37 P n s0 (c + (1 : Int32)) (ps_code u13 u15))) ∧ (¬ r16 = (0 : Int32) → (wX0_has (64 : Int32) (p_flags u13) (fun r19 u18 => ((r19 = s0 → (wX3_strings_b37 P n s0 (c + (1 : Int32)) (ps_code (ps_flags u13 u18) u15))) ∧ (¬ r19 = s0 → (P (ps_code (ps_flags u13 u18) u15)))))))))) := by
    refine cStr (q := qs_repetitions (fCx q) (q_repetitions q + 1)) (inv_Rp _ (inv_cx h.1 h1)) (rs_seg rfl h.2.1) h.2.2.1 h.2.2.2.1 (isStr_kind h.2.2.2.2.1) ?_
    rw [rep_str]
    show wX1_compares k _
    refine iX1_compares ?_
    rw [h.2.2.2.1]
    refine ⟨fun d => hy (Or.inl d), fun d => iX0_has ⟨fun z => hy (Or.inr z), fun z => hz (fun y => y.elim d z)⟩⟩
  refine sk (fun z => absurd (ti_le.mp z) (by omega)) (iX4_word (sk h1 (iX4_word (iX4_setWord ?_))))
  have ew : q_registers q 1 - 1 &&& 65535 = q_registers q 1 - 1 := and65535_id (cx_W h.1 h1)
  show wX3_stringOnce (pO (qs_repetitions (qs_registers q (upd (q_registers q) 1 (q_registers q 1 - 1 &&& 65535))) (q_repetitions q + 1)) (-1) k) _
  rw [ew]
  exact fin
theorem str_loop {k : SC} {s0 : Int32} : ∀ j : Nat, ∀ (c : Int32) (q : SQ), c.toInt + (j : Int) = 64 → 0 ≤ c.toInt → StrK k s0 q → ∃ q1, Inv q1 ∧ Same q q1 ∧ (∀ P : SQ → Prop, P q1 → wX6_strings_b16 P (j + 2) c 1 q) ∧ (∀ P : SP → Prop, P (pO q1 (-1) k) → wX3_strings_b37 P (j + 2) s0 c (pO q (-1) k)) := by
  have e64 : (64 : Int32).toInt = 64 := rfl
  intro j
  induction j with
  | zero =>
    intro c q hc h0 h
    have hb : rW (q_begin q) := by rw [← h.2.2.2.2.2.1]; exact rW_and _
    refine ⟨fStop q, inv_stop h.1 hb, same_stop q, fun P hp => ?_, fun P hp => ?_⟩
    · exact sk (by decide) ⟨v_18, fun _ => mStop hp, fun _ => tk (ti_le.mpr (by omega)) (mStop hp)⟩
    · exact tk (ti_le.mpr (by omega)) (cStop h.2.2.2.2.2.1 hp)
  | succ j ih =>
    intro c q hc h0 h
    have hb : rW (q_begin q) := by rw [← h.2.2.2.2.2.1]; exact rW_and _
    by_cases h1 : q_registers q 1 = 0
    · refine ⟨fStop q, inv_stop h.1 hb, same_stop q, fun P hp => ?_, fun P hp => ?_⟩
      · exact sk (by decide) ⟨v_18, tk h1 (mStop hp)⟩
      · exact sk (fun z => absurd (ti_le.mp z) (by omega)) (iX4_word (tk h1 (cStop h.2.2.2.2.2.1 hp)))
    · have hlt : c.toInt < 64 := by omega
      have ec : (c + 1).toInt = c.toInt + 1 := ti_add (by have : (1 : Int32).toInt = 1 := rfl; omega) (by have : (1 : Int32).toInt = 1 := rfl; omega)
      by_cases d : fCmp (q_code q) = 0 ∨ fH (q_flags (fRep q)) 64 = s0
      · rcases ih (c + 1) (fRep q) (by rw [ec]; omega) (by omega) (fRep_k h h1) with ⟨q1, hi, hs, hm, hcl⟩
        exact ⟨q1, hi, (same_rep q).tr hs, fun P hp => mRep h hlt h1 (fun _ => hm P hp) (fun z => absurd d z), fun P hp => cRep h hlt h1 (fun _ => hcl P hp) (fun z => absurd d z)⟩
      · exact ⟨fRep q, (fRep_k h h1).1, same_rep q, fun P hp => mRep h hlt h1 (fun z => absurd z d) (fun _ => tk rfl (tk rfl hp)), fun P hp => cRep h hlt h1 (fun z => absurd z d) (fun _ => hp)⟩
theorem simStrings {q : SQ} {k : SC} (hI : Inv q) (hg : q_gave q = 0) (hs : rS q) (hgs : c_givenSegment k = q_segment q) (hn : c_number k = q_code q) (hS : isStr (q_code q)) (hb : c_begin k &&& 65535 = q_begin q)
    (hp : q_repeat q = 0 ∧ c_repeat k = -1 ∨ q_repeat q = 243 ∧ c_repeat k = 243 ∨ q_repeat q = 242 ∧ c_repeat k = 242) : Sim (wX6_strings q) (wX3_strings (pO q (-1) k)) q k 0 := by
  have e0 : (0 : Int32).toInt = 0 := rfl
  rcases hp with ⟨r, rk⟩ | ⟨r, rk⟩ | ⟨r, rk⟩
  · apply Sim.one (q1 := fStr q)
    · intro P h
      exact tk r (mStr hI hs (isStr_pos hS) (isStr_kind hS) h)
    · intro P h
      unfold wX3_strings
      rw [show c_repeat (p_code (pO q (-1) k)) = -1 from rk]
      exact tk rfl (cStr hI hs hgs hn (isStr_kind hS) h)
    · exact inv_str hI
    · exact (sc_str q).2.kept hg
  · rcases str_loop (k := k) (s0 := 1) 64 0 q (by rw [e0]; rfl) (by rw [e0]; omega) ⟨hI, hs, hgs, hn, hS, hb, Or.inl ⟨r, rfl⟩⟩ with ⟨q1, hi, hsm, hm, hcl⟩
    apply Sim.one (q1 := q1)
    · intro P h
      exact sk (by rw [r]; decide) ⟨_, hm P h⟩
    · intro P h
      unfold wX3_strings
      rw [show c_repeat (p_code (pO q (-1) k)) = 243 from rk]
      exact sk (by decide) (tk rfl ⟨_, hcl P h⟩)
    · exact hi
    · exact hsm.kept hg
  · rcases str_loop (k := k) (s0 := 0) 64 0 q (by rw [e0]; rfl) (by rw [e0]; omega) ⟨hI, hs, hgs, hn, hS, hb, Or.inr ⟨by rw [r]; decide, rfl⟩⟩ with ⟨q1, hi, hsm, hm, hcl⟩
    apply Sim.one (q1 := q1)
    · intro P h
      exact sk (by rw [r]; decide) ⟨_, hm P h⟩
    · intro P h
      unfold wX3_strings
      rw [show c_repeat (p_code (pO q (-1) k)) = 242 from rk]
      exact sk (by decide) (sk (by decide) ⟨_, hcl P h⟩)
    · exact hi
    · exact hsm.kept hg
