-- ----- what a decoded code is
def hasMp (n : Int32) : Prop := (n.toInt < 64 ∧ n.toInt % 8 < 4) ∨ (128 ≤ n.toInt ∧ n.toInt < 144) ∨ (196 ≤ n.toInt ∧ n.toInt < 200) ∨ (208 ≤ n.toInt ∧ n.toInt < 212) ∨ (216 ≤ n.toInt ∧ n.toInt < 224) ∨ (246 ≤ n.toInt ∧ n.toInt < 248) ∨ 254 ≤ n.toInt
def iShort (n : Int32) : Prop := (96 ≤ n.toInt ∧ n.toInt < 128) ∨ (224 ≤ n.toInt ∧ n.toInt < 228) ∨ n.toInt = 235
def iByte (n r : Int32) : Prop := (n.toInt < 64 ∧ n.toInt % 8 = 4) ∨ n.toInt = 128 ∨ n.toInt = 130 ∨ n.toInt = 168 ∨ (176 ≤ n.toInt ∧ n.toInt < 184) ∨ n.toInt = 198 ∨ n.toInt = 205 ∨ (212 ≤ n.toInt ∧ n.toInt < 214) ∨ (228 ≤ n.toInt ∧ n.toInt < 232) ∨ (n.toInt = 246 ∧ r.toInt < 2)
def iWord (n r : Int32) : Prop := (n.toInt < 64 ∧ n.toInt % 8 = 5) ∨ n.toInt = 129 ∨ (160 ≤ n.toInt ∧ n.toInt < 164) ∨ n.toInt = 169 ∨ (184 ≤ n.toInt ∧ n.toInt < 193) ∨ n.toInt = 194 ∨ n.toInt = 199 ∨ n.toInt = 200 ∨ n.toInt = 202 ∨ n.toInt = 232 ∨ n.toInt = 233 ∨ (n.toInt = 247 ∧ r.toInt < 2)
def iTwo (n : Int32) : Prop := n.toInt = 154 ∨ n.toInt = 234
def noPre (n : Int32) : Prop := ¬ (32 ≤ n.toInt ∧ n.toInt < 64 ∧ n.toInt % 8 = 6) ∧ ¬ (240 ≤ n.toInt ∧ n.toInt < 244)
def DecX (k : SC) (q : SQ) : Prop := ((q_code q).toInt = 141 ∨ (q_code q).toInt = 196 ∨ (q_code q).toInt = 197 → ¬ q_mode q = 3) ∧ ((q_code q).toInt = 254 → (q_r q).toInt < 2) ∧ ((q_code q).toInt = 255 → q_r q = 3 ∨ q_r q = 5 → ¬ q_mode q = 3)
def DecI (k : SC) (q : SQ) : Prop := (iShort (q_code q) → q_i q = fExt (c_first k) ∧ rB (c_first k)) ∧ ((q_code q).toInt = 131 → q_i q = fExt (c_first k) &&& 65535 ∧ rB (c_first k)) ∧ (iByte (q_code q) (q_r q) → q_i q = c_first k ∧ rB (q_i q)) ∧ (iWord (q_code q) (q_r q) → q_i q = c_first k ∧ rW (q_i q)) ∧ (iTwo (q_code q) → (q_i q = c_first k ∧ rW (q_i q)) ∧ q_j q = c_second k ∧ rW (q_j q))
def DecP (k : SC) (q : SQ) : Prop := rS q ∧ c_givenSegment k = q_segment q ∧ c_begin k &&& 65535 = q_begin q ∧ (q_repeat q = 0 ∧ c_repeat k = -1 ∨ q_repeat q = 243 ∧ c_repeat k = 243 ∨ q_repeat q = 242 ∧ c_repeat k = 242)
def Dec (k : SC) (q : SQ) : Prop := c_number k = q_code q ∧ (0 ≤ (q_code q).toInt ∧ (q_code q).toInt ≤ 255 ∧ noPre (q_code q)) ∧ DecP k q ∧ (hasMp (q_code q) → DecM k q ∧ (¬ q_mode q = 3 → rW (q_offset q))) ∧ DecI k q ∧ DecX k q
def fGS (n : Int32) : Int32 := if (n.toInt % 8 = 7 ∧ n.toInt < 32) ∨ n.toInt = 142 then 1 else 0
/-- the end of a code of the class -/
theorem Sim.exec {wm : (SQ → Prop) → Prop} {wc : (SP → Prop) → Prop} {q : SQ} {k : SC} {gv : Int32} (S : Sim wm wc q k gv) : ∃ q1, Inv q1 ∧ Kept q q1 gv ∧ (∀ P : SQ → Prop, P q1 → wm P) ∧ (∀ P : SP → Prop, (∀ cd, P (pO q1 cd k)) → wc (fun u => wX3_execute_b238 P u)) := by
  rcases S with ⟨q1, cd, hi, hk, hm, hc⟩
  by_cases c : cd = -1
  · refine ⟨q1, hi, hk, fun P h => hm P ?_, fun P h => hc _ ?_⟩
    · rw [fFin, if_pos c]; exact h
    · exact tk c (h cd)
  · refine ⟨fInt q1 cd, inv_int hi cd, ?_, fun P h => hm P ?_, fun P h => hc _ ?_⟩
    · have s := same_int q1 cd
      exact ⟨s.1.trans hk.1, s.2.1.trans hk.2.1, s.2.2.1.trans hk.2.2.1, s.2.2.2.1.trans hk.2.2.2.1, s.2.2.2.2.1.trans hk.2.2.2.2.1, s.2.2.2.2.2.trans hk.2.2.2.2.2⟩
    · rw [fFin, if_neg c]; exact h
    · exact sk c (iX3_interrupt (n := cd) hi (h cd))
theorem Sim.gv {wm : (SQ → Prop) → Prop} {wc : (SP → Prop) → Prop} {q : SQ} {k : SC} {g g' : Int32} (S : Sim wm wc q k g) (h : g = g') : Sim wm wc q k g' := by subst h; exact S
theorem Sim.mp {wm wm' : (SQ → Prop) → Prop} {wc wc' : (SP → Prop) → Prop} {q : SQ} {k : SC} {g : Int32} (S : Sim wm wc q k g) (h : ∀ P, wm P → wm' P) (h' : ∀ P, wc P → wc' P) : Sim wm' wc' q k g := by
  rcases S with ⟨q1, cd, hi, hk, hm, hc⟩
  exact ⟨q1, cd, hi, hk, fun P x => h P (hm P x), fun P x => h' P (hc P x)⟩
theorem rO_word {x n : Int32} (h : rW x) (ho : n.toInt % 2 = 1) : rO x (n &&& 1) := by
  refine (rO_1 (fun z => ?_)).mpr h
  have e := congrArg Int32.toInt z
  rw [ti_and1] at e
  have : (0 : Int32).toInt = 0 := rfl
  omega

theorem simJump {q : SQ} {k : SC} (hI : Inv q) (hg : q_gave q = 0) (hn : c_number k = q_code q) (hi : q_i q = fExt (c_first k) ∧ rB (c_first k)) :
    Sim (fun P => wX6_holds (q_code q &&& 15) q (fun r25 u24 => ((r25 = (0 : Int32) → (wX6_does_b86 P (0 : Int32) u24)) ∧ (¬ r25 = (0 : Int32) → (wX6_does_b86 P (q_i u24) u24)))))
      (fun P => wX0_holds (c_number k &&& 15) (q_flags q) (fun r43 u42 => wX3_jumpIf r43 (ps_flags (pO q (-1) k) u42) P)) q k 0 := by
  apply Sim.one (q1 := fJump q (if fCond (q_flags q) (q_code q &&& 15) = 0 then 0 else q_i q))
  · intro P h
    refine iX6_holds ⟨fun c => iX6_jump ?_, fun c => iX6_jump ?_⟩
    · rw [if_pos c] at h; exact h
    · rw [if_neg c] at h; exact h
  · intro P h
    rw [hn]
    refine iX0_holds (by rw [ti_and15]; omega) ?_
    refine iX3_jumpIf (q := q) (cd := -1) (k := k) hI hi.2 ?_
    rw [hi.1] at h
    exact h
  · exact inv_jump hI _
  · exact (same_jump q _).kept hg
theorem simNum {q : SQ} {k : SC} (w : Int32) (hI : Inv q) (hg : q_gave q = 0) (hn : c_number k = q_code q) (hi : q_i q = c_first k) :
    Sim (fun P => wX6_memory_b38 P (q_code q &&& 7) w q) (fun P => wX4_give (c_number k) (c_first k) w (p_regs (pO q (-1) k)) (fun u46 => P (ps_regs (pO q (-1) k) u46))) q k 0 := by
  apply Sim.one (q1 := qs_registers q (fSetR (q_registers q) (q_code q &&& 7) w (q_i q)))
  · intro P h
    exact iX6_setRegister (r7_and _) h
  · intro P h
    rw [hn, ← hi]
    exact give_and h
  · exact inv_R hI (inv_setR hI.2.1.1 _ _ _)
  · exact (same_R q _).kept hg
/-- F6, F7 -/
theorem simF6 {q : SQ} {k : SC} (hI : Inv q) (hg : q_gave q = 0) (hn : c_number k = q_code q) (hM : DecM k q) (hc : (q_code q).toInt = 246 ∨ (q_code q).toInt = 247) (hi : (q_r q).toInt < 2 → q_i q = c_first k ∧ rO (q_i q) (q_code q &&& 1)) : Sim (wX6_flagsAndMore q) (wX3_lastCodes (pO q (-1) k)) q k 0 := by
  have hn' : c_number (p_code (pO q (-1) k)) = q_code q := hn
  have h0 : 0 ≤ (q_code q).toInt := by omega
  have S : Sim (wX6_byOne q) (wX3_codesF6 (pO q (-1) k)) q k 0 := by
    have hr := hM.2.2.2.2.2
    rcases in8 hr.1 hr.2 with c | c | c | c | c | c | c | c
    · exact simF6a hI hg hn hM h0 (Or.inl c) (hi (by rw [c]; decide))
    · exact simF6a hI hg hn hM h0 (Or.inr c) (hi (by rw [c]; decide))
    · exact simF6b hI hg hn hM h0 12 (Or.inl ⟨c, rfl⟩)
    · exact simF6b hI hg hn hM h0 11 (Or.inr ⟨c, rfl⟩)
    · exact simF6c hI hg hn hM h0 0 (Or.inl ⟨c, rfl⟩)
    · exact simF6c hI hg hn hM h0 1 (Or.inr ⟨c, rfl⟩)
    · exact simF6d hI hg hn hM h0 0 (Or.inl ⟨c, rfl⟩)
    · exact simF6d hI hg hn hM h0 1 (Or.inr ⟨c, rfl⟩)
  refine S.mp (fun P h => ?_) (fun P h => ?_)
  · rcases hc with c | c
    · have c' : q_code q = 246 := ti_ext c
      exact (sk (by rw [c']; decide) (sk (by rw [c']; decide) (tk c' h)))
    · have c' : q_code q = 247 := ti_ext c
      exact (sk (by rw [c']; decide) (sk (by rw [c']; decide) (sk (by rw [c']; decide) (tk c' h))))
  · unfold wX3_lastCodes
    refine iX1_wide ?_
    rw [hn']
    rcases hc with c | c
    · have c' : q_code q = 246 := ti_ext c
      exact (sk (by rw [c']; decide) (sk (by rw [c']; decide) (tk c' h)))
    · have c' : q_code q = 247 := ti_ext c
      exact (sk (by rw [c']; decide) (sk (by rw [c']; decide) (sk (by rw [c']; decide) (tk c' h))))
theorem simFE {q : SQ} {k : SC} (hI : Inv q) (hg : q_gave q = 0) (hn : c_number k = q_code q) (hM : DecM k q) (hc : (q_code q).toInt = 254 ∨ (q_code q).toInt = 255) (h2 : (q_code q).toInt = 254 → (q_r q).toInt < 2) (h3 : (q_code q).toInt = 255 → q_r q = 3 ∨ q_r q = 5 → ¬ q_mode q = 3) : Sim (wX6_flagsAndMore q) (wX3_lastCodes (pO q (-1) k)) q k 0 := by
  have hn' : c_number (p_code (pO q (-1) k)) = q_code q := hn
  have h0 : 0 ≤ (q_code q).toInt := by omega
  have hw : ¬ (q_r q).toInt < 2 → (q_code q).toInt = 255 ∧ q_code q &&& 1 = 1 := by
    intro z
    have h : (q_code q).toInt = 255 := hc.resolve_left (fun y => z (h2 y))
    refine ⟨h, ti_ext ?_⟩
    rw [ti_and1, h]
    rfl
  have S : Sim (wX6_last q) (wX3_codesFE (pO q (-1) k)) q k 0 := by
    have hr := hM.2.2.2.2.2
    rcases in8 hr.1 hr.2 with c | c | c | c | c | c | c | c
    · exact simFEa hI hg hn hM h0 9 (Or.inl ⟨c, rfl⟩)
    · exact simFEa hI hg hn hM h0 10 (Or.inr ⟨c, rfl⟩)
    · exact simFE2 hI hg hn hM h0 (hw (by rw [c]; decide)).2 c
    · exact simFE3 hI hg hn hM h0 (hw (by rw [c]; decide)).2 (h3 (hw (by rw [c]; decide)).1 (Or.inl c)) c
    · exact simFE4 hI hg hn hM h0 (hw (by rw [c]; decide)).2 c
    · exact simFE5 hI hg hn hM h0 (hw (by rw [c]; decide)).2 (h3 (hw (by rw [c]; decide)).1 (Or.inr c)) c
    · exact simFE6 hI hg hn hM h0 (hw (by rw [c]; decide)).2 (Or.inl c)
    · exact simFE6 hI hg hn hM h0 (hw (by rw [c]; decide)).2 (Or.inr c)

  refine S.mp (fun P h => ?_) (fun P h => ?_)
  · rcases hc with c | c
    · have c' : q_code q = 254 := ti_ext c
      exact (sk (by rw [c']; decide) (sk (by rw [c']; decide) (sk (by rw [c']; decide) (sk (by rw [c']; decide) (sk (by rw [c']; decide) (sk (by rw [c']; decide) (sk (by rw [c']; decide) (sk (by rw [c']; decide) (sk (by rw [c']; decide) (sk (by rw [c']; decide) h))))))))))
    · have c' : q_code q = 255 := ti_ext c
      exact (sk (by rw [c']; decide) (sk (by rw [c']; decide) (sk (by rw [c']; decide) (sk (by rw [c']; decide) (sk (by rw [c']; decide) (sk (by rw [c']; decide) (sk (by rw [c']; decide) (sk (by rw [c']; decide) (sk (by rw [c']; decide) (sk (by rw [c']; decide) h))))))))))
  · unfold wX3_lastCodes
    refine iX1_wide ?_
    rw [hn']
    rcases hc with c | c
    · have c' : q_code q = 254 := ti_ext c
      exact (sk (by rw [c']; decide) (sk (by rw [c']; decide) (sk (by rw [c']; decide) (sk (by rw [c']; decide) (sk (by rw [c']; decide) (sk (by rw [c']; decide) (sk (by rw [c']; decide) (sk (by rw [c']; decide) (sk (by rw [c']; decide) (sk (by rw [c']; decide) h))))))))))
    · have c' : q_code q = 255 := ti_ext c
      exact (sk (by rw [c']; decide) (sk (by rw [c']; decide) (sk (by rw [c']; decide) (sk (by rw [c']; decide) (sk (by rw [c']; decide) (sk (by rw [c']; decide) (sk (by rw [c']; decide) (sk (by rw [c']; decide) (sk (by rw [c']; decide) (sk (by rw [c']; decide) h))))))))))
