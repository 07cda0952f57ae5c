-- ===== codes 40 to 5F =====
theorem store_low (u : SM) (p : Int32) {v v' : Int32} (h : v &&& 255 = v' &&& 255) : fStore u p v = fStore u p v' := by
  unfold fStore fSet; rw [h]
theorem put_low (u : SM) (s off : Int32) (w : Int32) {v v' : Int32} (h : v &&& 255 = v' &&& 255) (h2 : v >>> ((8 : Int32) &&& 31) &&& 255 = v' >>> ((8 : Int32) &&& 31) &&& 255) : fPut u s off w v = fPut u s off w v' := by
  unfold fPut; rw [store_low u _ h, store_low (fStore u (fPlace s off) v') _ h2]
theorem push_low (q : SQ) {v v' : Int32} (h : v &&& 65535 = v' &&& 65535) : fPush q v = fPush q v' := by
  have e := congrArg Int32.toInt h
  rw [ti_and65535, ti_and65535] at e
  unfold fPush
  rw [put_low _ _ _ _ (v := v) (v' := v') (ti_ext (by rw [ti_and255, ti_and255]; omega)) (ti_ext (by rw [ti_and255, ti_and255, ti_shr8, ti_shr8]; omega))]
theorem and7_code {n : Int32} : (n &&& 7 &&& 7) = n &&& 7 := and7_id (r7_and n)
theorem ti_and8 {n : Int32} (h0 : 0 ≤ n.toInt) : (n &&& 8 = 0) ↔ n.toInt / 8 % 2 = 0 := by
  rw [and_two n 3 (by omega) (by decide), bit_of h0]
  simp only [decide_eq_false_iff_not]
  constructor <;> intro q <;> omega
theorem and65535_op {f o a : Int32} (ho : o = 9 ∨ o = 10) : fOpV f o a 0 1 &&& 65535 = fOpV f o a 0 1 := by
  have h : rW (fOpV f o a 0 1) := by
    rcases ho with rfl | rfl
    · exact (rO_1 (by decide)).mp (rO_andAll (a + 1 + 0) 1)
    · exact (rO_1 (by decide)).mp (rO_andAll (a - 1 - 0) 1)
  exact and65535_id h
theorem simSecond {q : SQ} {k : SC} (hI : Inv q) (hg : q_gave q = 0) (hn : c_number k = q_code q) (h0 : 64 ≤ (q_code q).toInt) (h1 : (q_code q).toInt < 80) :
    Sim (wX6_second q) (wX3_stepWordRegister (pO q (-1) k)) q k 0 := by
  have hn' : c_number (p_code (pO q (-1) k)) = q_code q := hn
  have t72 : (72 : Int32).toInt = 72 := rfl
  have t80 : (80 : Int32).toInt = 80 := rfl
  have hr : rW (q_registers q (q_code q &&& 7).toNatClampNeg) := hI.2.1.1 _
  have go : ∀ o : Int32, (o = 9 ∧ (q_code q).toInt < 72 ∨ o = 10 ∧ 72 ≤ (q_code q).toInt) → Sim (wX6_second q) (wX3_stepWordRegister (pO q (-1) k)) q k 0 := by
    intro o ho
    apply Sim.one (q1 := qs_registers (qs_flags q (fOpF (q_flags q) o (q_registers q (q_code q &&& 7).toNatClampNeg) 0 1)) (upd (q_registers q) (q_code q &&& 7).toNatClampNeg (fOpV (q_flags q) o (q_registers q (q_code q &&& 7).toNatClampNeg) 0 1)))
    · intro P h
      have b39 : wX6_second_b39 P (q_code q &&& 7) (q_code q &&& 7) o q := ⟨vp_7 (r7_and _), iX6_operation ⟨vp_7 (r7_and _), h⟩⟩
      refine ⟨fun c => absurd (ti_le.mp c) (by omega), fun _ => ⟨fun c => ?_, fun c => ?_⟩⟩
      · have := ti_le.mp c
        rcases ho with ⟨rfl, hc⟩ | ⟨rfl, hc⟩
        · omega
        · exact b39
      · rcases ho with ⟨rfl, hc⟩ | ⟨rfl, hc⟩
        · exact b39
        · exact absurd (ti_le.mpr (by omega)) c
    · intro P h
      unfold wX3_stepWordRegister
      rw [hn']
      have e8 := ti_and8 (n := q_code q) (by omega)
      have b36 : ∀ back : Int32, (if back = 0 then (9 : Int32) else 10) = o → wX3_stepWordRegister_b36 P (q_registers q (q_code q &&& 7).toNatClampNeg) back (pO q (-1) k) := by
        intro back hb
        unfold wX3_stepWordRegister_b36
        rw [hn']
        refine iX0_byOne ((rO_1 (by decide)).mpr hr) ?_
        rw [hb]
        refine iX4_setWord ?_
        have eo : o = 9 ∨ o = 10 := ho.elim (fun z => Or.inl z.1) (fun z => Or.inr z.1)
        show P (pO (qs_registers (qs_flags q (fOpF (q_flags q) o (q_registers q (q_code q &&& 7).toNatClampNeg) 0 1)) (upd (q_registers q) (q_code q &&& 7).toNatClampNeg (fOpV (q_flags q) o (q_registers q (q_code q &&& 7).toNatClampNeg) 0 1 &&& 65535))) (-1) k)
        rw [and65535_op eo]
        exact h
      refine iX4_word ⟨fun c => b36 0 ?_, fun c => b36 1 ?_⟩
      · rcases ho with ⟨rfl, hc⟩ | ⟨rfl, hc⟩
        · rfl
        · have := e8.mp c; omega
      · rcases ho with ⟨rfl, hc⟩ | ⟨rfl, hc⟩
        · exact absurd (e8.mpr (by omega)) c
        · rfl
    · refine inv_R (inv_F _ hI) (inv_updW hI.2.1.1 _ ?_)
      rcases ho with ⟨rfl, hc⟩ | ⟨rfl, hc⟩
      · exact (rO_1 (by decide)).mp (rO_andAll (_ + 1 + 0) 1)
      · exact (rO_1 (by decide)).mp (rO_andAll (_ - 1 - 0) 1)
    · exact ((same_F q _).tr (same_R _ _)).kept hg
  by_cases c : (q_code q).toInt < 72
  · exact go 9 (Or.inl ⟨rfl, c⟩)
  · exact go 10 (Or.inr ⟨rfl, by omega⟩)
theorem simStack {q : SQ} {k : SC} (hI : Inv q) (hg : q_gave q = 0) (hn : c_number k = q_code q) (h0 : 80 ≤ (q_code q).toInt) (h1 : (q_code q).toInt < 96) :
    Sim (wX6_second q) (wX3_registerStackCodes (pO q (-1) k)) q k 0 := by
  have hn' : c_number (p_code (pO q (-1) k)) = q_code q := hn
  have t88 : (88 : Int32).toInt = 88 := rfl
  have t80 : (80 : Int32).toInt = 80 := rfl
  have e8 := ti_and8 (n := q_code q) (by omega)
  by_cases c : (q_code q).toInt < 88
  · apply Sim.one (q1 := fPush q (upd (q_registers q) 4 (q_registers q 4 - 2 &&& 65535) (q_code q &&& 7).toNatClampNeg))
    · intro P h
      exact ⟨fun _ => ⟨fun d => absurd (ti_le.mp d) (by omega), fun _ => ⟨vp_7 r7_4, vp_7 r7_4, vp_3 r3_2, vp_7 r7_4, vp_7 (r7_and _), iX6_put hI.1 h⟩⟩, fun d => absurd (ti_le.mpr (by omega)) d⟩
    · intro P h
      unfold wX3_registerStackCodes
      rw [hn']
      refine ⟨fun _ => ?_, fun d => absurd (e8.mpr (by omega)) d⟩
      have fin : ∀ v : Int32, v &&& 65535 = upd (q_registers q) 4 (q_registers q 4 - 2 &&& 65535) (q_code q &&& 7).toNatClampNeg &&& 65535 → wX3_push v (pO q (-1) k) (fun u8 => P u8) := by
        intro v hv
        refine iX3_push hI ?_
        rw [push_low q hv]
        exact h
      refine ⟨fun d => ?_, fun d => ?_⟩
      · rw [d]
        refine iX4_word (fin _ ?_)
        have e4 : (q_code q &&& 7).toNatClampNeg = 4 := by rw [d]; rfl
        rw [e4]
        show (q_registers q 4 - 2) &&& 65535 = upd (q_registers q) 4 (q_registers q 4 - 2 &&& 65535) 4 &&& 65535
        unfold upd
        rw [if_pos rfl, and65535_id (rW_and _)]
      · refine iX4_word (fin _ ?_)
        rw [and7_code]
        unfold upd
        rw [if_neg]
        intro z
        apply d
        apply ti_ext
        have := ti_cl (x := q_code q &&& 7) (r7_and _).1
        rw [z] at this
        exact this.symm
    · exact inv_push hI _
    · exact (same_push q _).kept hg
  · apply Sim.one (q1 := qs_registers (fPop q) (upd (q_registers (fPop q)) (q_code q &&& 7).toNatClampNeg (fPopV q)))
    · intro P h
      exact ⟨fun _ => ⟨fun _ => iX6_pop hI ⟨vp_7 (r7_and _), h⟩, fun d => absurd (ti_le.mpr (by omega)) d⟩, fun d => absurd (ti_le.mpr (by omega)) d⟩
    · intro P h
      unfold wX3_registerStackCodes
      rw [hn']
      refine ⟨fun d => absurd (e8.mp d) (by omega), fun _ => iX3_pop hI (iP_setWord (q := fPop q) ?_)⟩
      rw [and65535_id (rW_popV hI)]
      exact h
    · exact inv_R (inv_pop hI) (inv_updW (inv_pop hI).2.1.1 _ (rW_popV hI))
    · exact ((same_pop q).tr (same_R _ _)).kept hg
-- ===== jumps by a signed byte =====
def fExt (b : Int32) : Int32 := if b ≤ 127 then b else b - 256
theorem iX6_extended {b : Int32} {P : Int32 → Unit → Prop} (h : P (fExt b) ()) : wX6_extended b () P := ⟨fun c => by rw [fExt, if_pos c] at h; exact h, fun c => by rw [fExt, if_neg c] at h; exact h⟩
theorem ext_cut {b : Int32} (h : rB b) : fCut b 0 = fExt b := ti_ext (by
  have h1 := h.1
  have h2 := h.2
  unfold fCut fExt
  rw [if_pos rfl, ti_i8, bm_8]
  have t127 : (127 : Int32).toInt = 127 := rfl
  have t256 : (256 : Int32).toInt = 256 := rfl
  by_cases c : b ≤ 127
  · have := ti_le.mp c
    rw [if_pos c]; split <;> omega
  · have : ¬ b.toInt ≤ 127 := fun z => c (ti_le.mpr (by omega))
    rw [if_neg c, ti_sub (by omega) (by omega)]; split <;> omega)
def fJump (q : SQ) (by_ : Int32) : SQ := qs_ip q (q_ip q + by_ &&& 65535)
theorem iX6_jump {d : Int32} {q : SQ} {P : SQ → Prop} (h : P (fJump q d)) : wX6_jump d q P := h
theorem iX3_jump {d cd : Int32} {k : SC} {q : SQ} {P : SP → Prop} (h : P (pO (fJump q d) cd k)) : wX3_jump d (pO q cd k) P := iX4_moveTo h
theorem jump_0 {q : SQ} (h : Inv q) : fJump q 0 = q := by
  unfold fJump
  rw [Int32.add_zero, and65535_id h.2.1.2.2]
theorem inv_jump {q : SQ} (h : Inv q) (d : Int32) : Inv (fJump q d) := inv_Ip h (rW_and _)
theorem same_jump (q : SQ) (d : Int32) : Same q (fJump q d) := same_Ip q _
theorem iX3_jumpIf {c cd : Int32} {k : SC} {q : SQ} {P : SP → Prop} (hI : Inv q) (hb : rB (c_first k)) (h : P (pO (fJump q (if c = 0 then 0 else fExt (c_first k))) cd k)) : wX3_jumpIf c (pO q cd k) P := by
  refine ⟨fun d => ?_, fun d => iX0_signed (iX3_jump (q := q) ?_)⟩
  · rw [if_pos d, jump_0 hI] at h; exact h
  · rw [if_neg d] at h
    have e : fCut (c_first (p_code (pO q cd k))) 0 = fExt (c_first k) := ext_cut hb
    rw [e]
    exact h
-- ===== far calls, interrupts =====
theorem sk {a X R : Prop} (h : ¬ a) (r : R) : (a → X) ∧ (¬ a → R) := ⟨fun c => absurd c h, fun _ => r⟩
theorem tk {a X R : Prop} (h : a) (x : X) : (a → X) ∧ (¬ a → R) := ⟨fun _ => x, fun c => absurd h c⟩
def fJumpFar (q : SQ) (ip cs : Int32) : SQ := qs_ip (qs_segments q (upd (q_segments q) 1 cs)) ip
def fCallFar (q : SQ) (ip cs : Int32) : SQ := fJumpFar (fPush (fPush q (q_segments q 1)) (q_ip (fPush q (q_segments q 1)))) ip cs
theorem v_14 : vp_in 1 4 := vp_3 ⟨by decide, by decide⟩
theorem iX6_callFar {ip cs : Int32} {q : SQ} {P : SQ → Prop} (hI : Inv q) (h : P (fCallFar q ip cs)) : wX6_callFar ip cs q P :=
  ⟨v_14, iX6_push hI (iX6_push (inv_push hI _) ⟨v_14, h⟩)⟩
theorem iX3_jumpFar {ip cs cd : Int32} {k : SC} {q : SQ} {P : SP → Prop} (hi : rW ip) (hc : rW cs) (h : P (pO (fJumpFar q ip cs) cd k)) : wX3_jumpFar ip cs (pO q cd k) P := by
  refine iX4_moveTo (iX4_setSegment ?_)
  rw [and65535_id hi, and65535_id hc]
  exact h
theorem iX3_callFar {ip cs cd : Int32} {k : SC} {q : SQ} {P : SP → Prop} (hI : Inv q) (hi : rW ip) (hc : rW cs) (h : P (pO (fCallFar q ip cs) cd k)) : wX3_callFar ip cs (pO q cd k) P :=
  iX4_segment (iX3_push hI (iX3_push (inv_push hI _) (iX3_jumpFar hi hc h)))
theorem inv_jumpFar {q : SQ} (h : Inv q) {ip cs : Int32} (hi : rW ip) (hc : rW cs) : Inv (fJumpFar q ip cs) := inv_Ip (inv_Sg h (inv_updW h.2.1.2.1 _ hc)) hi
theorem inv_callFar {q : SQ} (h : Inv q) {ip cs : Int32} (hi : rW ip) (hc : rW cs) : Inv (fCallFar q ip cs) := inv_jumpFar (inv_push (inv_push h _) _) hi hc
theorem same_jumpFar (q : SQ) (ip cs : Int32) : Same q (fJumpFar q ip cs) := (same_Sg q _).tr (same_Ip _ _)
theorem same_callFar (q : SQ) (ip cs : Int32) : Same q (fCallFar q ip cs) := ((same_push q _).tr (same_push _ _)).tr (same_jumpFar _ _ _)
theorem two_marks (f : Int32) : fMark (fMark f 512 0) 256 0 = f &&& (-769) := by
  have e : f = nf (-1) 0 f := nf_id f
  unfold fMark
  rw [if_pos rfl, if_pos rfl, e, nf_and, nf_and, nf_and]
  congr 1
theorem int_tail {q : SQ} {n cd : Int32} {k : SC} {P : SP → Prop} (hI : Inv q) (h : P (pO (fIntB q n) cd k)) :
    wX2_load 0 (4 * n) 1 (p_mem (pO q cd k)) (fun r16 u15 => wX4_moveTo r16 (p_regs (pO q cd k)) (fun u17 => wX2_load 0 (4 * n + 2) 1 u15 (fun r20 u19 => wX4_setSegment 1 r20 u17 (fun u21 => P (ps_regs (ps_mem (pO q cd k) u19) u21))))) := by
  refine iX2_load hI.1 (iX4_moveTo (iX2_load hI.1 (iX4_setSegment ?_)))
  rw [and65535_id (rO_W (rO_get hI.1 _ _ _)), and65535_id (rO_W (rO_get hI.1 _ _ _))]
  exact h
theorem iX3_pushD {cd : Int32} {k : SC} {q : SQ} {P : SP → Prop} (hI : Inv q) (h : P (pO (fIntD q) cd k)) : wX3_push (q_segments q 1) (pO q cd k) P := iX3_push hI h
theorem iX3_pushC {cd : Int32} {k : SC} {q : SQ} {P : SP → Prop} (hI : Inv q) (h : P (pO (fIntC q) cd k)) : wX3_push (q_ip q) (pO q cd k) P := iX3_push hI h
theorem inv_A {q : SQ} (h : Inv q) : Inv (fIntA q) := inv_F _ h
theorem inv_D {q : SQ} (h : Inv q) : Inv (fIntD q) := inv_push h _
theorem inv_C {q : SQ} (h : Inv q) : Inv (fIntC q) := inv_push h _
theorem inv_B {q : SQ} (h : Inv q) (n : Int32) : Inv (fIntB q n) := inv_Sg (inv_Ip h (rO_W (rO_get h.1 _ _ _))) (inv_updW h.2.1.2.1 _ (rO_W (rO_get h.1 _ _ _)))
theorem iX3_intA {n cd : Int32} {k : SC} {q : SQ} {P : SP → Prop} (hI : Inv q) (h : P (pO (fIntB (fIntC (fIntD (fIntA q))) n) cd k)) : wX0_mark 512 0 (p_flags (pO q cd k)) (fun u5 => wX0_mark 256 0 u5 (fun u7 => wX4_segment 1 (p_regs (pO q cd k)) (fun r10 u9 => wX3_push r10 (ps_flags (ps_regs (pO q cd k) u9) u7) (fun u11 => wX3_push (r_ip (p_regs u11)) u11 (fun u13 => wX2_load 0 (4 * n) 1 (p_mem u13) (fun r16 u15 => wX4_moveTo r16 (p_regs u13) (fun u17 => wX2_load 0 (4 * n + 2) 1 u15 (fun r20 u19 => wX4_setSegment 1 r20 u17 (fun u21 => P (ps_regs (ps_mem u13 u19) u21)))))))))) := by
  refine iX0_mark (iX0_mark (iX4_segment ?_))
  rw [two_marks]
  have h1 := inv_A hI
  have e : (q_segments q ((1 : Int32) &&& 3).toNatClampNeg) = q_segments (fIntA q) 1 := rfl
  refine iX3_pushD (q := fIntA q) h1 ?_
  generalize fIntA q = q1 at h h1
  have h2 := inv_D h1
  generalize fIntD q1 = q2 at h h2
  refine iX3_pushC h2 ?_
  have h3 := inv_C h2
  generalize fIntC q2 = q3 at h h3
  exact int_tail h3 h
theorem iX3_interrupt {n cd : Int32} {k : SC} {q : SQ} {P : SP → Prop} (hI : Inv q) (h : P (pO (fInt q n) cd k)) : wX3_interrupt n (pO q cd k) P := by
  unfold fInt at h
  unfold wX3_interrupt wX3_pushedFlags
  refine iX3_push hI ?_
  have h1 := inv_push hI (q_flags q ||| 61442)
  show wX0_mark 512 0 (p_flags (pO (fPush q (q_flags q ||| 61442)) cd k)) _
  generalize fPush q (q_flags q ||| 61442) = q1 at h h1
  exact iX3_intA h1 h
theorem im_tail {n : Int32} {q : SQ} {P : SQ → Prop} (hI : Inv q) (h : P (fIntB q n)) : wX6_get 0 (4 * n) 1 q (fun r8 u7 => wX6_get 0 (4 * n + 2) 1 (qs_ip u7 r8) (fun r10 u9 => vp_in 1 4 ∧ P (qs_segments u9 (upd (q_segments u9) (1 : Int32).toNatClampNeg r10)))) := by
  refine iX6_get hI.1 ?_
  refine iX6_get (q := qs_ip q (fGet (mQ q) 0 (4 * n) 1)) hI.1 ?_
  exact ⟨v_14, h⟩
theorem im_C {q : SQ} {P : SQ → Prop} (hI : Inv q) (h : P (fIntC q)) : wX6_push (q_ip q) q P := iX6_push hI h
theorem im_D {q : SQ} {P : SQ → Prop} (hI : Inv q) (h : P (fIntD (fIntA q))) : wX6_push (q_segments q (1 : Int32).toNatClampNeg) (qs_flags q (q_flags q &&& (-769))) P := iX6_push (inv_A hI) h
theorem iX6_interrupt {n : Int32} {q : SQ} {P : SQ → Prop} (hI : Inv q) (h : P (fInt q n)) : wX6_interrupt n q P := by
  unfold fInt at h
  unfold wX6_interrupt
  refine iX6_push hI ?_
  have h1 := inv_push hI (q_flags q ||| 61442)
  generalize fPush q (q_flags q ||| 61442) = q1 at h h1
  refine ⟨v_14, im_D h1 ?_⟩
  have h3 := inv_D (inv_A h1)
  generalize fIntD (fIntA q1) = q3 at h h3
  refine im_C h3 ?_
  have h4 := inv_C h3
  generalize fIntC q3 = q4 at h h4
  exact im_tail h4 h
theorem inv_int {q : SQ} (h : Inv q) (n : Int32) : Inv (fInt q n) := inv_B (inv_C (inv_D (inv_A (inv_push h _)))) n
theorem same_int (q : SQ) (n : Int32) : Same q (fInt q n) := by
  unfold fInt
  have e1 : ∀ q : SQ, Same q (fIntA q) := fun q => same_F q _
  have e2 : ∀ q : SQ, Same q (fIntB q n) := fun q => (same_Ip q _).tr (same_Sg _ _)
  have e3 : ∀ q : SQ, Same q (fIntC q) := fun q => same_push q _
  have e4 : ∀ q : SQ, Same q (fIntD q) := fun q => same_push q _
  exact ((((same_push q _).tr (e1 _)).tr (e4 _)).tr (e3 _)).tr (e2 _)
