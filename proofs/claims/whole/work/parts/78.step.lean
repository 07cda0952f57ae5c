-- ----- one step, both sides
def ht0 (q : SQ) : SQ := qs_halted q 0
theorem ht_R (q : SQ) (f : A32) : qs_registers (ht0 q) f = ht0 (qs_registers q f) := by
  dsimp only [ht0, qs_halted, qs_registers]
theorem ht_Sg (q : SQ) (f : A32) : qs_segments (ht0 q) f = ht0 (qs_segments q f) := by
  dsimp only [ht0, qs_halted, qs_segments]
theorem ht_Ip (q : SQ) (v : Int32) : qs_ip (ht0 q) v = ht0 (qs_ip q v) := by
  dsimp only [ht0, qs_halted, qs_ip]
theorem ht_F (q : SQ) (v : Int32) : qs_flags (ht0 q) v = ht0 (qs_flags q v) := by
  dsimp only [ht0, qs_halted, qs_flags]
theorem ht_M (q : SQ) (u : SM) : sMQ (ht0 q) u = ht0 (sMQ q u) := by
  dsimp only [ht0, qs_halted, sMQ, qs_bytes, qs_slots, qs_pages, qs_lost]
theorem ht_r (q : SQ) : q_registers (ht0 q) = q_registers q := rfl
theorem ht_s (q : SQ) : q_segments (ht0 q) = q_segments q := rfl
theorem ht_mQ (q : SQ) : mQ (ht0 q) = mQ q := rfl
theorem ht_fl (q : SQ) : q_flags (ht0 q) = q_flags q := rfl
theorem ht_ip (q : SQ) : q_ip (ht0 q) = q_ip q := rfl
theorem ht_SP (q : SQ) (v : Int32) : fSP (ht0 q) v = ht0 (fSP q v) := by
  unfold fSP
  rw [ht_r]
  exact ht_R _ _
theorem ht_push (q : SQ) (v : Int32) : fPush (ht0 q) v = ht0 (fPush q v) := by
  unfold fPush
  rw [ht_r, ht_s, ht_mQ, ht_SP]
  exact ht_M _ _
theorem ht_A (q : SQ) : fIntA (ht0 q) = ht0 (fIntA q) := by
  unfold fIntA
  rw [ht_fl]
  exact ht_F _ _
theorem ht_C (q : SQ) : fIntC (ht0 q) = ht0 (fIntC q) := by unfold fIntC; rw [ht_ip, ht_push]
theorem ht_D (q : SQ) : fIntD (ht0 q) = ht0 (fIntD q) := by unfold fIntD; rw [ht_s, ht_push]
theorem ht_B (q : SQ) (n : Int32) : fIntB (ht0 q) n = ht0 (fIntB q n) := by
  unfold fIntB
  rw [ht_mQ, ht_s, ht_Ip]
  exact ht_Sg _ _
theorem ht_int (q : SQ) (n : Int32) : fInt (ht0 q) n = ht0 (fInt q n) := by
  unfold fInt
  rw [ht_fl, ht_push, ht_A, ht_D, ht_C, ht_B]
theorem inv_ht {q : SQ} (h : Inv q) : Inv (ht0 q) := inv_Ht 0 h
/-- the class's object, by the reference's state -/
def fDue (q : SQ) : Int32 := bI (¬ q_trapped q = 0 ∧ q_gave q = 0 ∧ q_interrupted q = 0)
def xO (q : SQ) (cd : Int32) (k : SC) : SX := (q_line q, fDue q, q_gave q, q_steps q, pO q cd k)
def InvS (q : SQ) : Prop := Inv q ∧ (q_line q = -1 ∨ 0 ≤ (q_line q).toInt) ∧ (q_gave q = 0 ∨ q_gave q = 1)
/-- what the reference notes behind an interrupt of its own -/
def iS (u : SQ) : SQ := qs_interrupted (qs_gave (qs_halted (qs_steps u (q_steps u + 1)) 0) 0) 1
theorem inv_St {q : SQ} (v : Int32) (h : Inv q) : Inv (qs_steps q v) := h
theorem inv_It {q : SQ} (v : Int32) (h : Inv q) : Inv (qs_interrupted q v) := h
theorem iS_inv {q : SQ} (h : Inv q) : Inv (iS q) := inv_It 1 (inv_gave 0 (inv_Ht 0 (inv_St (q_steps q + 1) h)))
theorem iS_line (q : SQ) : q_line (iS q) = q_line q := rfl
theorem iS_thrown (q : SQ) : q_thrown (iS q) = q_thrown q := rfl
theorem iS_gave (q : SQ) : q_gave (iS q) = 0 := rfl
theorem iS_steps (q : SQ) : q_steps (iS q) = q_steps q + 1 := rfl
theorem iS_intd (q : SQ) : q_interrupted (iS q) = 1 := rfl
theorem iS_pO (q : SQ) (cd : Int32) (k : SC) : pO (iS q) cd k = pO (ht0 q) cd k := by
  dsimp only [ht0, iS, pO, mQ, rQ, mR, q_thrown, q_registers, q_segments, q_ip, q_flags, q_slots, q_bytes, q_pages, q_lost, q_ports, q_line, q_steps, q_repetitions, q_halted, q_trapped, q_gave, q_interrupted, q_begin, q_at, q_segment, q_repeat, q_code, q_mode, q_r, q_m, q_offset, q_place, q_i, q_j, qs_thrown, qs_registers, qs_segments, qs_ip, qs_flags, qs_slots, qs_bytes, qs_pages, qs_lost, qs_ports, qs_line, qs_steps, qs_repetitions, qs_halted, qs_trapped, qs_gave, qs_interrupted, qs_begin, qs_at, qs_segment, qs_repeat, qs_code, qs_mode, qs_r, qs_m, qs_offset, qs_place, qs_i, qs_j]
theorem due_iS (q : SQ) : fDue (iS q) = 0 := by
  unfold fDue
  rw [iS_intd]
  exact bI_f (fun z => absurd z.2.2 (by decide))
theorem xO_iS (q : SQ) (cd : Int32) (k : SC) : xO (iS q) cd k = (q_line q, 0, 0, q_steps q + 1, pO (ht0 q) cd k) := by
  unfold xO
  rw [iS_line, due_iS, iS_gave, iS_steps, iS_pO]
def tr (q : SQ) (v : Int32) : SQ := qs_trapped q v
theorem tr_inv {q : SQ} (v : Int32) (h : Inv q) : Inv (tr q v) := h
theorem tr_pO (q : SQ) (v cd : Int32) (k : SC) : pO (tr q v) cd k = pO q cd k := rfl
theorem tr_ht (q : SQ) (v cd : Int32) (k : SC) : pO (ht0 (tr q v)) cd k = pO (ht0 q) cd k := by
  dsimp only [ht0, tr, pO, mQ, rQ, mR, q_thrown, q_registers, q_segments, q_ip, q_flags, q_slots, q_bytes, q_pages, q_lost, q_ports, q_line, q_steps, q_repetitions, q_halted, q_trapped, q_gave, q_interrupted, q_begin, q_at, q_segment, q_repeat, q_code, q_mode, q_r, q_m, q_offset, q_place, q_i, q_j, qs_thrown, qs_registers, qs_segments, qs_ip, qs_flags, qs_slots, qs_bytes, qs_pages, qs_lost, qs_ports, qs_line, qs_steps, qs_repetitions, qs_halted, qs_trapped, qs_gave, qs_interrupted, qs_begin, qs_at, qs_segment, qs_repeat, qs_code, qs_mode, qs_r, qs_m, qs_offset, qs_place, qs_i, qs_j]
theorem tr_line (q : SQ) (v : Int32) : q_line (tr q v) = q_line q := rfl
theorem tr_steps (q : SQ) (v : Int32) : q_steps (tr q v) = q_steps q := rfl
theorem tr_thrown (q : SQ) (v : Int32) : q_thrown (tr q v) = q_thrown q := rfl
theorem zB_bI (c : Prop) [Decidable c] : zB (bI c) := by
  unfold bI
  split
  · exact Or.inr rfl
  · exact Or.inl rfl
theorem mIntStep {n : Int32} {q : SQ} {P : SQ → Prop} (hI : Inv q) (h : P (iS (fInt q n))) : wX6_interruptStep n q P := iX6_interrupt hI h
/-- one turn of the class's run: P at its end, N where it goes on -/
def cInt (N : SX → Prop) (r5 : Int32) (u4 : SX) : Prop := wX5_noteInterruptStep u4 (fun u15 => wX3_interrupt r5 (x_proc u15) (fun u17 => N (xs_proc u15 u17)))
def cF (P : Int32 → SX → Prop) (N : SX → Prop) (u4 : SX) : Int32 → SF → Prop := (fun r9 u8 => ((r9 = (0 : Int32) → (P (2 : Int32) (xs_proc u4 (ps_code (ps_regs (ps_mem (x_proc u4) (f_mem u8)) (f_regs u8)) (f_code u8))))) ∧ (¬ r9 = (0 : Int32) → (wX5_noteCodeStep (xs_proc u4 (ps_code (ps_regs (ps_mem (x_proc u4) (f_mem u8)) (f_regs u8)) (f_code u8))) (fun u11 => (wX3_execute (x_proc u11) (fun u13 => (N (xs_proc u11 u13)))))))))
def cCode (P : Int32 → SX → Prop) (N : SX → Prop) (u4 : SX) : Prop := (p_halted (x_proc u4) = 0 → wX1_find (p_code (x_proc u4), p_mem (x_proc u4), p_regs (x_proc u4)) (cF P N u4)) ∧ (¬ p_halted (x_proc u4) = 0 → P 1 u4)
def cStep (P : Int32 → SX → Prop) (N : SX → Prop) (u : SX) : Prop := wX5_takeDueInterrupt u (fun r5 u4 => ((r5 = (-1 : Int32) → cCode P N u4) ∧ (¬ r5 = (-1 : Int32) → cInt N r5 u4)))
theorem cInt_ {N : SX → Prop} {n a b c d cd : Int32} {k : SC} {q : SQ} (hI : Inv q) (h : N (a, 0, 0, d + 1, pO (ht0 (fInt q n)) cd k)) : cInt N n (a, b, c, d, pO q cd k) := by
  show wX3_interrupt n (pO (ht0 q) cd k) (fun u17 => N (a, 0, 0, d + 1, u17))
  refine iX3_interrupt (inv_ht hI) ?_
  rw [ht_int]
  exact h
/-- the single step's interrupt -/
def St (q : SQ) (k : SC) (x : Int32) (q1 : SQ) (k1 : SC) : Prop := InvS q1 ∧ q_thrown q1 = q_thrown q ∧ (x = 0 ∨ x = 1 ∨ x = 2) ∧ (∀ P : Int32 → SQ → Prop, P x q1 → wX6_step q P) ∧ (∀ (P : Int32 → SX → Prop) (N : SX → Prop) (cd : Int32), (x = 0 → ∀ cd, N (xO q1 cd k1)) → (¬ x = 0 → ∀ cd, P x (xO q1 cd k1)) → cStep P N (xO q cd k))
theorem invS_i {q : SQ} (h : Inv q) (hl : q_line q = -1 ∨ 0 ≤ (q_line q).toInt) : InvS (iS q) := ⟨iS_inv h, by rw [iS_line]; exact hl, Or.inl (iS_gave q)⟩
theorem stepA {q : SQ} {k : SC} (hI : InvS q) (c1 : ¬ q_trapped q = 0) (c2 : q_gave q = 0) (c3 : q_interrupted q = 0) : ∃ x q1 k1, St q k x q1 k1 := by
  refine ⟨0, iS (fInt (tr q (bI (¬ q_flags q &&& 256 = 0))) 1), k, invS_i (inv_int (tr_inv _ hI.1) 1) ?_, ?_, Or.inl rfl, fun P h => ?_, fun P N cd hN _ => ?_⟩
  · rw [(same_int _ 1).2.1, tr_line]; exact hI.2.1
  · rw [iS_thrown, (same_int _ 1).1, tr_thrown]
  · refine sk c1 (tk c2 (tk c3 (iX6_has ⟨zB_bI _, mIntStep (tr_inv _ hI.1) h⟩)))
  · have d : fDue q = 1 := bI_t ⟨c1, c2, c3⟩
    have h := hN rfl cd
    rw [xO_iS, (same_int _ 1).2.1, (same_int _ 1).2.2.1, tr_line, tr_steps] at h
    unfold xO
    rw [d]
    refine sk (show ¬ (1 : Int32) = 0 by decide) (sk (show ¬ (1 : Int32) = -1 by decide) ?_)
    have e : pO q cd k = pO (tr q (bI (¬ q_flags q &&& 256 = 0))) cd k := (tr_pO q _ cd k).symm
    rw [e]
    exact cInt_ (tr_inv _ hI.1) h
/-- the reference, when no single step is due -/
theorem mRest {q : SQ} {P : Int32 → SQ → Prop} (c : ¬ (¬ q_trapped q = 0 ∧ q_gave q = 0 ∧ q_interrupted q = 0)) (h : wX6_step_b39 P q) : wX6_step q P := by
  refine ⟨fun _ => h, fun c1 => ⟨fun c2 => ⟨fun c3 => absurd ⟨c1, c2, c3⟩ c, fun _ => h⟩, fun _ => h⟩⟩
def ln (q : SQ) (v : Int32) : SQ := qs_line q v
theorem ln_inv {q : SQ} (v : Int32) (h : Inv q) : Inv (ln q v) := h
theorem ln_pO (q : SQ) (v cd : Int32) (k : SC) : pO (ln q v) cd k = pO q cd k := rfl
theorem ln_line (q : SQ) (v : Int32) : q_line (ln q v) = v := rfl
theorem ln_steps (q : SQ) (v : Int32) : q_steps (ln q v) = q_steps q := rfl
theorem ln_thrown (q : SQ) (v : Int32) : q_thrown (ln q v) = q_thrown q := rfl
theorem stepB {q : SQ} {k : SC} (hI : InvS q) (c : ¬ (¬ q_trapped q = 0 ∧ q_gave q = 0 ∧ q_interrupted q = 0)) (c1 : 0 ≤ (q_line q).toInt) (c2 : ¬ q_flags q &&& 512 = 0) (c3 : q_gave q = 0) : ∃ x q1 k1, St q k x q1 k1 := by
  have z0 : (0 : Int32).toInt = 0 := rfl
  have zm : (-1 : Int32).toInt = -1 := rfl
  have nl : ¬ q_line q = -1 := fun z => by rw [z, zm] at c1; omega
  refine ⟨0, iS (fInt (tr (ln q (-1)) (bI (¬ q_flags q &&& 256 = 0))) (q_line q)), k, invS_i (inv_int (tr_inv _ (ln_inv _ hI.1)) _) ?_, ?_, Or.inl rfl, fun P h => ?_, fun P N cd hN _ => ?_⟩
  · rw [(same_int _ _).2.1, tr_line, ln_line]; exact Or.inl rfl
  · rw [iS_thrown, (same_int _ _).1, tr_thrown, ln_thrown]
  · refine mRest c (sk (fun z => ?_) (iX6_has (sk ?_ (tk c3 (iX6_has ⟨zB_bI _, mIntStep (tr_inv _ (ln_inv _ hI.1)) h⟩)))))
    · have := ti_lt.mp z
      omega
    · rw [bI_t c2]; decide
  · have d : fDue q = 0 := bI_f c
    have h := hN rfl cd
    rw [xO_iS, (same_int _ _).2.1, (same_int _ _).2.2.1, tr_line, tr_steps, ln_line, ln_steps] at h
    unfold xO
    rw [d, c3]
    refine tk rfl (tk rfl (iX0_has (sk (by rw [show p_flags (x_proc (q_line q, (0 : Int32), (0 : Int32), q_steps q, pO q cd k)) = q_flags q from rfl, bI_t c2]; decide) (sk nl ?_))))
    have e : pO q cd k = pO (tr (ln q (-1)) (bI (¬ q_flags q &&& 256 = 0))) cd k := (ln_pO q _ cd k).symm.trans (tr_pO _ _ cd k).symm
    show cInt N (q_line q) (-1, 0, 0, q_steps q, pO q cd k)
    rw [e]
    exact cInt_ (tr_inv _ (ln_inv _ hI.1)) h
theorem cor_pO {q q2 : SQ} (cd : Int32) (k : SC) (h : Cor q q2) : pO q2 cd k = pO q cd k := by
  show (q_halted q2, q_repetitions q2, cd, sxA (q_ports q2), mR (mQ q2), (q_registers q2, q_segments q2, q_ip q2), q_flags q2, k) = (q_halted q, q_repetitions q, cd, sxA (q_ports q), mR (mQ q), (q_registers q, q_segments q, q_ip q), q_flags q, k)
  rw [h.1.1, h.1.2.1, h.1.2.2.1, h.1.2.2.2.1, h.1.2.2.2.2, h.2.1.1, h.2.1.2.1, h.2.1.2.2]
theorem cor_xO {q q2 : SQ} (cd : Int32) (k : SC) (h : Cor q q2) : xO q2 cd k = xO q cd k := by
  obtain ⟨s1, s2, s3, s4, s5, s6⟩ := h.2.2
  unfold xO fDue
  rw [cor_pO cd k h, s2, s3, s4, s5, s6]
theorem gs_all : ∀ j : Fin 256, ((nI j.val &&& 231 = 7 ∨ nI j.val = 142) → fGS (nI j.val) = 1) ∧ (¬ (nI j.val &&& 231 = 7 ∨ nI j.val = 142) → fGS (nI j.val) = 0) := by
  unfold fGS
  decide +kernel
theorem cGS {k : SC} {P : Int32 → SC → Prop} (hb : rB (c_number k)) (h : P (fGS (c_number k)) k) : wX1_givesSegment k P := by
  rcases byte_fin hb with ⟨j, e, -⟩
  have g := gs_all j
  rw [e] at g
  refine ⟨fun a => ?_, fun a => ⟨fun b => ?_, fun b => ?_⟩⟩
  · rw [g.1 (Or.inl a)] at h; exact h
  · rw [g.1 (Or.inr b)] at h; exact h
  · rw [g.2 (fun z => z.elim a b)] at h; exact h
theorem gs_01 (n : Int32) : fGS n = 0 ∨ fGS n = 1 := by
  unfold fGS
  split
  · exact Or.inr rfl
  · exact Or.inl rfl
def dPrep (q : SQ) : SQ := qs_interrupted (qs_gave (qs_ip q (q_at q &&& 65535)) 0) 0
theorem prep_inv {q : SQ} (h : Inv q) : Inv (dPrep q) := inv_It 0 (inv_gave 0 (inv_Ip h (rW_and _)))
theorem dec_ip {q : SQ} {k : SC} (v : Int32) (h : Dec k q) : Dec k (qs_ip q v) := h
theorem dec_gv {q : SQ} {k : SC} (v : Int32) (h : Dec k q) : Dec k (qs_gave q v) := h
theorem dec_it {q : SQ} {k : SC} (v : Int32) (h : Dec k q) : Dec k (qs_interrupted q v) := h
theorem dec_tr {q : SQ} {k : SC} (v : Int32) (h : Dec k q) : Dec k (tr q v) := h
theorem dec_prep {q : SQ} {k : SC} (h : Dec k q) : Dec k (dPrep q) := dec_it _ (dec_gv _ (dec_ip _ h))
theorem prep_code (q : SQ) : q_code (dPrep q) = q_code q := rfl
theorem prep_gave (q : SQ) : q_gave (dPrep q) = 0 := rfl
theorem prep_intd (q : SQ) : q_interrupted (dPrep q) = 0 := rfl
theorem prep_line (q : SQ) : q_line (dPrep q) = q_line q := rfl
theorem prep_steps (q : SQ) : q_steps (dPrep q) = q_steps q := rfl
theorem prep_thrown (q : SQ) : q_thrown (dPrep q) = q_thrown q := rfl
theorem prep_trapped (q : SQ) : q_trapped (dPrep q) = q_trapped q := rfl
theorem prep_pO (q : SQ) (cd : Int32) (k : SC) : pO (dPrep q) cd k = (q_halted q, q_repetitions q, cd, sxA (q_ports q), mR (mQ q), (q_registers q, q_segments q, q_at q &&& 65535), q_flags q, k) := by
  dsimp only [dPrep, pO, mQ, rQ, mR, q_thrown, q_registers, q_segments, q_ip, q_flags, q_slots, q_bytes, q_pages, q_lost, q_ports, q_line, q_steps, q_repetitions, q_halted, q_trapped, q_gave, q_interrupted, q_begin, q_at, q_segment, q_repeat, q_code, q_mode, q_r, q_m, q_offset, q_place, q_i, q_j, qs_thrown, qs_registers, qs_segments, qs_ip, qs_flags, qs_slots, qs_bytes, qs_pages, qs_lost, qs_ports, qs_line, qs_steps, qs_repetitions, qs_halted, qs_trapped, qs_gave, qs_interrupted, qs_begin, qs_at, qs_segment, qs_repeat, qs_code, qs_mode, qs_r, qs_m, qs_offset, qs_place, qs_i, qs_j]
theorem tr_code (q : SQ) (v : Int32) : q_code (tr q v) = q_code q := rfl
theorem tr_trapped (q : SQ) (v : Int32) : q_trapped (tr q v) = v := rfl
def stp (q : SQ) : SQ := qs_steps q (q_steps q + 1)
theorem stp_inv {q : SQ} (h : Inv q) : Inv (stp q) := h
theorem stp_line (q : SQ) : q_line (stp q) = q_line q := rfl
theorem stp_steps (q : SQ) : q_steps (stp q) = q_steps q + 1 := rfl
theorem stp_gave (q : SQ) : q_gave (stp q) = q_gave q := rfl
theorem stp_thrown (q : SQ) : q_thrown (stp q) = q_thrown q := rfl
theorem stp_trapped (q : SQ) : q_trapped (stp q) = q_trapped q := rfl
theorem stp_intd (q : SQ) : q_interrupted (stp q) = q_interrupted q := rfl
theorem stp_pO (q : SQ) (cd : Int32) (k : SC) : pO (stp q) cd k = pO q cd k := rfl
theorem does_tr (q : SQ) (v : Int32) (P : SQ → Prop) : wX6_does (tr q v) P = mDoes (q_code (dPrep (tr q v))) (dPrep (tr q v)) P := rfl
/-- what the class notes before a code -/
theorem cNote {a b c d cd : Int32} {k : SC} {q : SQ} {P : SX → Prop} (hb : rB (c_number k)) (h : P (a, bI (¬ bI (¬ q_flags q &&& 256 = 0) = 0 ∧ fGS (c_number k) = 0 ∧ (0 : Int32) = 0), fGS (c_number k), d + 1, pO q cd k)) : wX5_noteCodeStep (a, b, c, d, pO q cd k) P := by
  refine cGS hb ⟨gs_01 _, iX0_has ⟨fun e => ?_, fun e => ⟨fun f => ?_, fun f => ?_⟩⟩⟩
  · rw [bI_f (fun z => z.1 e)] at h
    exact ⟨zB_0, h⟩
  · rw [bI_t ⟨e, f, rfl⟩] at h
    exact ⟨zB_1, h⟩
  · rw [bI_f (fun z => f z.2.1)] at h
    exact ⟨zB_0, h⟩
theorem cCode_f {P : Int32 → SX → Prop} {N : SX → Prop} {q : SQ} {cd : Int32} {k : SC} (hz : q_halted q = 0) (h : wX1_find (k, mR (mQ q), rQ q) (cF P N (xO q cd k))) : cCode P N (xO q cd k) := ⟨fun _ => h, fun z => absurd hz z⟩
theorem cCode_h {P : Int32 → SX → Prop} {N : SX → Prop} {q : SQ} {cd : Int32} {k : SC} (hz : ¬ q_halted q = 0) (h : P 1 (xO q cd k)) : cCode P N (xO q cd k) := ⟨fun z => absurd z hz, fun _ => h⟩
theorem cF_0 {P : Int32 → SX → Prop} {N : SX → Prop} {u : SX} {f : SF} (h : P 2 (xs_proc u (ps_code (ps_regs (ps_mem (x_proc u) (f_mem f)) (f_regs f)) (f_code f)))) : cF P N u 0 f := ⟨fun _ => h, fun z => absurd rfl z⟩
theorem cF_1 {P : Int32 → SX → Prop} {N : SX → Prop} {u : SX} {f : SF} (h : wX5_noteCodeStep (xs_proc u (ps_code (ps_regs (ps_mem (x_proc u) (f_mem f)) (f_regs f)) (f_code f))) (fun u11 => (wX3_execute (x_proc u11) (fun u13 => (N (xs_proc u11 u13)))))) : cF P N u 1 f := ⟨fun z => absurd z (by decide), fun _ => h⟩
theorem stepC {q : SQ} {k : SC} (hI : InvS q) (c : ¬ (¬ q_trapped q = 0 ∧ q_gave q = 0 ∧ q_interrupted q = 0)) (h91 : ∀ P : Int32 → SQ → Prop, wX6_step_b91 P q → wX6_step_b39 P q) (hcls : ∀ (P : Int32 → SX → Prop) (N : SX → Prop) (cd : Int32), cCode P N (xO q cd k) → cStep P N (xO q cd k)) : ∃ x q1 k1, St q k x q1 k1 := by
  by_cases hz : q_halted q = 0
  · obtain ⟨x, q2, k2, f1, f2, f3, f4, f5, f6⟩ := jFind k hI.1
    obtain ⟨s1, s2, s3, s4, s5, s6⟩ := f2.2.2
    rcases f1 with rfl | rfl
    · refine ⟨2, q2, k2, ⟨cor_inv f2 hI.1, by rw [s2]; exact hI.2.1, by rw [s6]; exact hI.2.2⟩, s1, Or.inr (Or.inr rfl), fun P h => mRest c (h91 P (tk hz (f5 _ (tk rfl h)))), fun P N cd _ hP => hcls P N cd (cCode_f hz (f6 _ (cF_0 ?_)))⟩
      have h := hP (by decide) cd
      rw [cor_xO cd k2 f2] at h
      rw [sOut_0, f2.1.1, f2.1.2.1, f2.1.2.2.1, f3]
      exact h
    · have D4 : Dec k2 (dPrep (tr q2 (bI (¬ q_flags q2 &&& 256 = 0)))) := dec_prep (dec_tr _ (f4 rfl))
      obtain ⟨q5, hi, hk, hm, hc⟩ := simExec (prep_inv (tr_inv _ (cor_inv f2 hI.1))) (prep_gave _) D4
      obtain ⟨t1, t2, t3, t4, t5, t6⟩ := hk
      rw [prep_thrown, tr_thrown, s1] at t1
      rw [prep_line, tr_line, s2] at t2
      rw [prep_steps, tr_steps, s3] at t3
      rw [prep_trapped, tr_trapped] at t4
      rw [prep_intd] at t5
      rw [prep_code, tr_code] at t6
      have hn : c_number k2 = q_code q2 := (f4 rfl).1
      have hb : rB (c_number k2) := by rw [hn]; exact ⟨(f4 rfl).2.1.1, (f4 rfl).2.1.2.1⟩
      refine ⟨0, stp q5, k2, ⟨stp_inv hi, by rw [stp_line, t2]; exact hI.2.1, by rw [stp_gave, t6]; exact gs_01 _⟩, (stp_thrown q5).trans t1, Or.inl rfl, fun P h => mRest c (h91 P (tk hz (f5 _ (sk (by decide) (iX6_has ⟨zB_bI _, ?_⟩))))), fun P N cd hN _ => hcls P N cd (cCode_f hz (f6 _ (cF_1 ?_)))⟩
      · show wX6_does (tr q2 (bI (¬ q_flags q2 &&& 256 = 0))) _
        rw [does_tr]
        exact hm _ h
      · have e : xs_proc (xO q cd k) (ps_code (ps_regs (ps_mem (x_proc (xO q cd k)) (f_mem (sOut 1 q2 k2))) (f_regs (sOut 1 q2 k2))) (f_code (sOut 1 q2 k2))) = (q_line q, fDue q, q_gave q, q_steps q, pO (dPrep (tr q2 (bI (¬ q_flags q2 &&& 256 = 0)))) cd k2) := by
          rw [sOut_1, prep_pO]
          show (q_line q, fDue q, q_gave q, q_steps q, (q_halted q, q_repetitions q, cd, sxA (q_ports q), mR (mQ q2), (q_registers q2, q_segments q2, q_at q2 &&& 65535), q_flags q, k2)) = (q_line q, fDue q, q_gave q, q_steps q, (q_halted q2, q_repetitions q2, cd, sxA (q_ports q2), mR (mQ q2), (q_registers q2, q_segments q2, q_at q2 &&& 65535), q_flags q2, k2))
          rw [f2.1.2.2.2.2, f2.2.1.1, f2.2.1.2.1, f2.2.1.2.2]
        rw [e]
        refine cNote hb ?_
        refine hc _ cd (fun cd' => ?_)
        have h := hN rfl cd'
        unfold xO fDue at h
        rw [stp_line, stp_trapped, stp_gave, stp_intd, stp_steps, stp_pO, t2, t3, t4, t5, t6] at h
        rw [hn]
        exact h
  · refine ⟨1, q, k, hI, rfl, Or.inr (Or.inl rfl), fun P h => mRest c (h91 P (sk hz h)), fun P N cd _ hP => hcls P N cd (cCode_h hz (hP (by decide) cd))⟩
theorem line_m1 {q : SQ} {a b d : Int32} {u : SP} (h : q_line q = -1) : ((-1 : Int32), a, b, d, u) = (q_line q, a, b, d, u) := by rw [h]
theorem jStep {q : SQ} (k : SC) (hI : InvS q) : ∃ x q1 k1, St q k x q1 k1 := by
  have z0 : (0 : Int32).toInt = 0 := rfl
  by_cases c : ¬ q_trapped q = 0 ∧ q_gave q = 0 ∧ q_interrupted q = 0
  · exact stepA hI c.1 c.2.1 c.2.2
  by_cases c1 : 0 ≤ (q_line q).toInt
  · by_cases c2 : q_flags q &&& 512 = 0
    · refine stepC hI c (fun P h => sk (fun z => ?_) (iX6_has (tk (bI_f (fun z => z c2)) h))) (fun P N cd h => ?_)
      · have := ti_lt.mp z
        omega
      · refine tk (bI_f c) ⟨fun _ => iX0_has (tk (bI_f (fun z => z c2)) (tk rfl h)), fun _ => tk rfl h⟩
    · by_cases c3 : q_gave q = 0
      · exact stepB hI c c1 c2 c3
      · refine stepC hI c (fun P h => sk (fun z => ?_) (iX6_has (sk (by rw [bI_t c2]; decide) (sk c3 h)))) (fun P N cd h => ?_)
        · have := ti_lt.mp z
          omega
        · exact tk (bI_f c) (sk c3 (tk rfl h))
  · have l1 : q_line q = -1 := hI.2.1.resolve_right c1
    refine stepC hI c (fun P h => tk (by rw [l1]; decide) h) (fun P N cd h => ?_)
    refine tk (bI_f c) ⟨fun _ => iX0_has ⟨fun _ => tk rfl h, fun _ => ?_⟩, fun _ => tk rfl h⟩
    refine tk l1 ?_
    show cCode P N ((-1 : Int32), fDue q, q_gave q, q_steps q, pO q cd k)
    rw [line_m1 l1]
    exact h
