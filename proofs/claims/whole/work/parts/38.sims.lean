-- ===== codes 00 to 3F =====
theorem lt_lit {x : Int32} {a b : Int32} (h : x.toInt < a.toInt) (hab : a.toInt ≤ b.toInt) : ¬ b ≤ x := fun c => by
  have := ti_le.mp c; omega
theorem le_lit {x : Int32} {b : Int32} (h : b.toInt ≤ x.toInt) : b ≤ x := ti_le.mpr h
theorem r7_op {n : Int32} (h0 : 0 ≤ n.toInt) (h1 : n.toInt < 64) : r7 (n >>> ((3 : Int32) &&& 31)) := by
  unfold r7; rw [ti_shr3]; omega
theorem simAdj {q : SQ} {k : SC} (hI : Inv q) (hg : q_gave q = 0) (hn : c_number k = q_code q) (h0 : 0 ≤ (q_code q).toInt) (h1 : (q_code q).toInt < 64)
    (l7 : (q_code q).toInt % 8 = 7) (A5 : ¬ (q_code q).toInt < 32) : Sim (wX6_first q) (wX3_operationCodes (pO q (-1) k)) q k 0 := by
  have hO := r7_op h0 h1
  have e7 := ti_and7 (q_code q)
  have hn' : c_number (p_code (pO q (-1) k)) = q_code q := hn
  have eo : (q_code q >>> ((3 : Int32) &&& 31)) &&& 7 = q_code q >>> ((3 : Int32) &&& 31) := and7_id hO
  have t0 : (0 : Int32).toInt = 0 := rfl
  have t1 : (1 : Int32).toInt = 1 := rfl
  have t2 : (2 : Int32).toInt = 2 := rfl
  have t3 : (3 : Int32).toInt = 3 := rfl
  have t4 : (4 : Int32).toInt = 4 := rfl
  have t5 : (5 : Int32).toInt = 5 := rfl
  have t6 : (6 : Int32).toInt = 6 := rfl
  have t7 : (7 : Int32).toInt = 7 := rfl
  have t32 : (32 : Int32).toInt = 32 := rfl
  have t48 : (48 : Int32).toInt = 48 := rfl
  have hne : ∀ j : Int32, (j.toInt = 0 ∨ j.toInt = 1 ∨ j.toInt = 2 ∨ j.toInt = 3 ∨ j.toInt = 4 ∨ j.toInt = 5) → ¬ q_code q &&& 7 = j := fun j hj c => by
    have := congrArg Int32.toInt c; rw [e7] at this; omega
  have s0 : q_code q &&& 7 = 0 → False := hne 0 (Or.inl rfl)
  have s1 : q_code q &&& 7 = 1 → False := hne 1 (Or.inr (Or.inl rfl))
  have s2 : q_code q &&& 7 = 2 → False := hne 2 (Or.inr (Or.inr (Or.inl rfl)))
  have s3 : q_code q &&& 7 = 3 → False := hne 3 (Or.inr (Or.inr (Or.inr (Or.inl rfl))))
  have s4 : q_code q &&& 7 = 4 → False := hne 4 (Or.inr (Or.inr (Or.inr (Or.inr (Or.inl rfl)))))
  have s5 : q_code q &&& 7 = 5 → False := hne 5 (Or.inr (Or.inr (Or.inr (Or.inr (Or.inr rfl)))))
  have n6 : ¬ q_code q &&& 7 = 6 := fun c => by have := congrArg Int32.toInt c; rw [e7, t6] at this; omega
  have m32 : (32 : Int32) ≤ q_code q := ti_le.mpr (by omega)
  -- the four adjustments: kind by bits 3 and 4
  have ek : ((q_code q >>> ((3 : Int32) &&& 31)) &&& 3).toInt = (q_code q).toInt / 8 - 4 := by rw [ti_and3, ti_shr3]; omega
  have clas : ∀ (P : SP → Prop), wX0_adjustment ((q_code q >>> ((3 : Int32) &&& 31)) &&& 3) (fReg (q_registers q) 0 1) 0 (q_flags q) (fun r18 u17 => wX3_giveA r18 1 (pO (qs_flags q u17) (-1) k) (fun u19 => P u19)) → wX3_operationCodes (pO q (-1) k) P := by
    intro P h
    unfold wX3_operationCodes
    rw [hn', eo]
    refine iX1_wide ?_
    rw [hn']
    refine ⟨fun c => (s0 c).elim, fun _ => ⟨fun c => (s1 c).elim, fun _ => ⟨fun c => (s2 c).elim, fun _ => ⟨fun c => (s3 c).elim, fun _ => ⟨fun c => (s4 c).elim, fun _ => ⟨fun c => (s5 c).elim, fun _ => ⟨fun c => absurd c n6, fun _ => ⟨fun _ => ?_, fun c => absurd m32 c⟩⟩⟩⟩⟩⟩⟩⟩
    exact iX3_a hI h
  have modl : ∀ (P : SQ → Prop), wX6_first_b163 P (q_code q >>> ((3 : Int32) &&& 31)) q → wX6_first q P := by
    intro P h
    unfold wX6_first
    exact iX6_isWide h0 ⟨fun _ => ⟨fun _ => ⟨fun _ => ⟨fun _ => h, fun c => absurd m32 c⟩, fun c => absurd (ti_le.mpr (by omega)) c⟩, fun c => absurd (ti_le.mpr (by omega)) c⟩, fun c => absurd (ti_le.mpr (by omega)) c⟩
  have eA : fReg (q_registers q) 0 1 = q_registers q 0 := rfl
  have hA := hI.2.1.1 0
  have fin : ∀ dn : Int32, (dn = 0 ∧ (q_code q).toInt = 39 ∨ dn = 1 ∧ (q_code q).toInt = 47) → Sim (wX6_first q) (wX3_operationCodes (pO q (-1) k)) q k 0 := by
    intro dn hdn
    have rv : rB (fDV (q_flags q) (q_registers q 0 &&& 255) dn) := by unfold fDV; split <;> exact rB_and _
    apply Sim.one (q1 := fDecimal q dn)
    · intro P h
      refine modl P ⟨fun _ => ⟨fun c => absurd (ti_le.mp c) (by omega), fun _ => ⟨fun c => ?_, fun c => ?_⟩⟩, fun c => absurd m32 c⟩
      · rcases hdn with ⟨rfl, hc⟩ | ⟨rfl, hc⟩
        · exfalso; have := congrArg Int32.toInt c; rw [hc] at this; exact absurd this (by decide)
        · exact iX6_adjustDecimal h
      · rcases hdn with ⟨rfl, hc⟩ | ⟨rfl, hc⟩
        · exact iX6_adjustDecimal h
        · exact absurd (ti_ext (by rw [hc]; rfl)) c
    · intro P h
      refine clas P ?_
      rw [eA]
      have hgoal : ∀ sg : Int32, (sg = 1 ∧ dn = 0 ∨ sg = -1 ∧ dn = 1) → wX0_decimal (q_registers q 0) sg (q_flags q) (fun r18 u17 => wX3_giveA r18 1 (pO (qs_flags q u17) (-1) k) (fun u19 => P u19)) := by
        intro sg hs
        refine iX0_decimal hs (iX3_giveA (q := qs_flags q (fDF (q_flags q) (q_registers q 0 &&& 255) dn)) ?_)
        have e1 : fSetR (q_registers q) 0 1 (q_registers q 0 &&& 65280 ||| fDV (q_flags q) (q_registers q 0 &&& 255) dn) = fSetR (q_registers q) 0 0 (fDV (q_flags q) (q_registers q 0 &&& 255) dn) := by
          show upd (q_registers q) 0 _ = upd (q_registers q) 0 _
          rw [and65535_id (or_lo hA rv), and255_id rv]; rfl
        show P (pO (qs_registers (qs_flags q _) (fSetR (q_registers q) 0 1 _)) (-1) k)
        rw [e1]
        exact h
      rcases hdn with ⟨hd, hc⟩ | ⟨hd, hc⟩
      · have e0 : (q_code q >>> ((3 : Int32) &&& 31)) &&& 3 = 0 := ti_ext (by rw [ek, hc, t0]; omega)
        rw [e0]
        exact ⟨fun _ => hgoal 1 (Or.inl ⟨rfl, hd⟩), fun c => absurd rfl c⟩
      · have e0 : (q_code q >>> ((3 : Int32) &&& 31)) &&& 3 = 1 := ti_ext (by rw [ek, hc, t1]; omega)
        rw [e0]
        exact ⟨fun c => absurd c (by decide), fun _ => ⟨fun _ => hgoal (-1) (Or.inr ⟨rfl, hd⟩), fun c => absurd rfl c⟩⟩
    · exact inv_F _ (inv_R hI (inv_setR hI.2.1.1 _ _ _))
    · exact ((same_R q _).tr (same_F _ _)).kept hg
  have fin2 : ∀ dn : Int32, (dn = 0 ∧ (q_code q).toInt = 55 ∨ dn = 1 ∧ (q_code q).toInt = 63) → Sim (wX6_first q) (wX3_operationCodes (pO q (-1) k)) q k 0 := by
    intro dn hdn
    have rv : rW (fGV (q_flags q) (q_registers q 0) dn) := by
      have r15 : ∀ x : Int32, rB (x &&& 15) := fun x => by unfold rB; rw [ti_and15]; omega
      unfold fGV; repeat' split
      all_goals exact or_hi (r15 _) (rB_and _)
    apply Sim.one (q1 := fDigit q dn)
    · intro P h
      refine modl P ⟨fun _ => ⟨fun _ => ⟨fun c => ?_, fun c => ?_⟩, fun c => absurd (ti_le.mpr (by omega)) c⟩, fun c => absurd m32 c⟩
      · rcases hdn with ⟨rfl, hc⟩ | ⟨rfl, hc⟩
        · exfalso; have := congrArg Int32.toInt c; rw [hc] at this; exact absurd this (by decide)
        · exact iX6_adjustDigit h
      · rcases hdn with ⟨rfl, hc⟩ | ⟨rfl, hc⟩
        · exact iX6_adjustDigit h
        · exact absurd (ti_ext (by rw [hc]; rfl)) c
    · intro P h
      refine clas P ?_
      rw [eA]
      have hgoal : ∀ sg : Int32, (sg = 1 ∧ dn = 0 ∨ sg = -1 ∧ dn = 1) → wX0_unpacked (q_registers q 0) sg (q_flags q) (fun r18 u17 => wX3_giveA r18 1 (pO (qs_flags q u17) (-1) k) (fun u19 => P u19)) := by
        intro sg hs
        refine iX0_unpacked hA hs (iX3_giveA (q := qs_flags q (fGF (q_flags q) (q_registers q 0))) ?_)
        have e1 : fSetR (q_registers q) 0 1 (fGV (q_flags q) (q_registers q 0) dn) = upd (q_registers q) 0 (fGV (q_flags q) (q_registers q 0) dn) := by
          show upd (q_registers q) 0 _ = upd (q_registers q) 0 _
          rw [and65535_id rv]
        show P (pO (qs_registers (qs_flags q _) (fSetR (q_registers q) 0 1 _)) (-1) k)
        rw [e1]
        exact h
      rcases hdn with ⟨hd, hc⟩ | ⟨hd, hc⟩
      · have e0 : (q_code q >>> ((3 : Int32) &&& 31)) &&& 3 = 2 := ti_ext (by rw [ek, hc, t2]; omega)
        rw [e0]
        exact ⟨fun c => absurd c (by decide), fun _ => ⟨fun c => absurd c (by decide), fun _ => ⟨fun _ => hgoal 1 (Or.inl ⟨rfl, hd⟩), fun c => absurd rfl c⟩⟩⟩
      · have e0 : (q_code q >>> ((3 : Int32) &&& 31)) &&& 3 = 3 := ti_ext (by rw [ek, hc, t3]; omega)
        rw [e0]
        exact ⟨fun c => absurd c (by decide), fun _ => ⟨fun c => absurd c (by decide), fun _ => ⟨fun c => absurd c (by decide), fun _ => ⟨fun _ => hgoal (-1) (Or.inr ⟨rfl, hd⟩), fun c => absurd rfl c⟩⟩⟩⟩
    · exact inv_R (inv_F _ hI) (inv_updW hI.2.1.1 _ rv)
    · exact ((same_F q _).tr (same_R _ _)).kept hg
  rcases (show (q_code q).toInt = 39 ∨ (q_code q).toInt = 47 ∨ (q_code q).toInt = 55 ∨ (q_code q).toInt = 63 by omega) with c | c | c | c
  · exact fin 0 (Or.inl ⟨rfl, c⟩)
  · exact fin 1 (Or.inr ⟨rfl, c⟩)
  · exact fin2 0 (Or.inl ⟨rfl, c⟩)
  · exact fin2 1 (Or.inr ⟨rfl, c⟩)

set_option maxHeartbeats 200000 in
theorem simFirstA {q : SQ} {k : SC} (hI : Inv q) (hg : q_gave q = 0) (hn : c_number k = q_code q) (h0 : 0 ≤ (q_code q).toInt) (h1 : (q_code q).toInt < 64)
    (hM : (q_code q).toInt % 8 < 4 → DecM k q) (hi : (q_code q).toInt % 8 = 4 ∨ (q_code q).toInt % 8 = 5 → q_i q = c_first k ∧ rO (q_i q) (q_code q &&& 1)) (hp : (q_code q).toInt % 8 = 6 → (q_code q).toInt < 32) (A1 : (q_code q).toInt % 8 < 2) :
    Sim (wX6_first q) (wX3_operationCodes (pO q (-1) k)) q k (if (q_code q).toInt % 8 = 7 ∧ (q_code q).toInt < 32 then 1 else 0) := by
  have hO := r7_op h0 h1
  have e7 := ti_and7 (q_code q)
  have hn' : c_number (p_code (pO q (-1) k)) = q_code q := hn
  have eo : (q_code q >>> ((3 : Int32) &&& 31)) &&& 7 = q_code q >>> ((3 : Int32) &&& 31) := and7_id hO
  have t0 : (0 : Int32).toInt = 0 := rfl
  have t1 : (1 : Int32).toInt = 1 := rfl
  have t2 : (2 : Int32).toInt = 2 := rfl
  have t3 : (3 : Int32).toInt = 3 := rfl
  have t4 : (4 : Int32).toInt = 4 := rfl
  have t5 : (5 : Int32).toInt = 5 := rfl
  have t6 : (6 : Int32).toInt = 6 := rfl
  have t7 : (7 : Int32).toInt = 7 := rfl
  have t32 : (32 : Int32).toInt = 32 := rfl
  have t48 : (48 : Int32).toInt = 48 := rfl
  have hD := hM (by omega)
  have hm := hD.2.2.2.2.1
  have hr := hD.2.2.2.2.2
  rw [if_neg (by omega)]
  apply Sim.one (q1 := fOpE q (q_code q >>> ((3 : Int32) &&& 31)) (fReg (q_registers q) (q_r q) (q_code q &&& 1)) (q_code q &&& 1))
  · intro P h
    unfold wX6_first
    refine iX6_isWide h0 ⟨fun c => absurd (ti_le.mp c) (by omega), fun _ => iX6_operand hI hm (iX6_register hr (iX6_operation ?_))⟩
    unfold fOpE at h
    refine ⟨fun c => ?_, fun c => iX6_give (q := qs_flags q _) (inv_F _ hI) hm ?_⟩
    · rw [if_pos (Or.inl c)] at h; exact h
    · rw [if_neg (fun z => z.elim c (fun z => by have := hO.2; rw [z] at this; exact absurd this (by decide)))] at h; exact h
  · intro P h
    unfold wX3_operationCodes
    rw [hn', eo]
    have b68 : wX3_operationCodes_b68 P (q_code q >>> ((3 : Int32) &&& 31)) (q_code q &&& 1) (pO q (-1) k) := by
      refine iX4_value hI.2.1 (by show r7 (c_r k); rw [hD.2.2.1]; exact hr) ?_
      show wX3_operateE _ (fReg (q_registers q) (c_r k) (q_code q &&& 1)) _ (pO q (-1) k) _
      rw [hD.2.2.1]
      exact iX3_operateE hI hD (rO_reg hI.2.1.1 _ _) (r7_O hO) h
    refine iX1_wide ?_
    rw [hn']
    refine ⟨fun _ => b68, fun c => ⟨fun _ => b68, fun c2 => ?_⟩⟩
    exact absurd (ti_ext (x := q_code q &&& 7) (y := 1) (by rw [e7, t1]; have : ¬ (q_code q &&& 7).toInt = (0 : Int32).toInt := sw_ne c; rw [e7, t0] at this; omega)) c2
  · exact inv_opE hI _ _ _
  · exact (same_opE q _ _ _).kept hg
set_option maxHeartbeats 200000 in
theorem simFirstB {q : SQ} {k : SC} (hI : Inv q) (hg : q_gave q = 0) (hn : c_number k = q_code q) (h0 : 0 ≤ (q_code q).toInt) (h1 : (q_code q).toInt < 64)
    (hM : (q_code q).toInt % 8 < 4 → DecM k q) (hi : (q_code q).toInt % 8 = 4 ∨ (q_code q).toInt % 8 = 5 → q_i q = c_first k ∧ rO (q_i q) (q_code q &&& 1)) (hp : (q_code q).toInt % 8 = 6 → (q_code q).toInt < 32) (A1 : ¬ (q_code q).toInt % 8 < 2) (A2 : (q_code q).toInt % 8 < 4) :
    Sim (wX6_first q) (wX3_operationCodes (pO q (-1) k)) q k (if (q_code q).toInt % 8 = 7 ∧ (q_code q).toInt < 32 then 1 else 0) := by
  have hO := r7_op h0 h1
  have e7 := ti_and7 (q_code q)
  have hn' : c_number (p_code (pO q (-1) k)) = q_code q := hn
  have eo : (q_code q >>> ((3 : Int32) &&& 31)) &&& 7 = q_code q >>> ((3 : Int32) &&& 31) := and7_id hO
  have t0 : (0 : Int32).toInt = 0 := rfl
  have t1 : (1 : Int32).toInt = 1 := rfl
  have t2 : (2 : Int32).toInt = 2 := rfl
  have t3 : (3 : Int32).toInt = 3 := rfl
  have t4 : (4 : Int32).toInt = 4 := rfl
  have t5 : (5 : Int32).toInt = 5 := rfl
  have t6 : (6 : Int32).toInt = 6 := rfl
  have t7 : (7 : Int32).toInt = 7 := rfl
  have t32 : (32 : Int32).toInt = 32 := rfl
  have t48 : (48 : Int32).toInt = 48 := rfl
  have hD := hM (by omega)
  have hm := hD.2.2.2.2.1
  have hr := hD.2.2.2.2.2
  rw [if_neg (by omega)]
  apply Sim.one (q1 := qs_registers (qs_flags q (fOpF (q_flags q) (q_code q >>> ((3 : Int32) &&& 31)) (fReg (q_registers q) (q_r q) (q_code q &&& 1)) (fE q (q_code q &&& 1)) (q_code q &&& 1))) (fSetR (q_registers q) (q_r q) (q_code q &&& 1) (fOpV (q_flags q) (q_code q >>> ((3 : Int32) &&& 31)) (fReg (q_registers q) (q_r q) (q_code q &&& 1)) (fE q (q_code q &&& 1)) (q_code q &&& 1))))
  · intro P h
    unfold wX6_first
    exact iX6_isWide h0 ⟨fun _ => ⟨fun c => absurd (ti_le.mp c) (by omega), fun _ => iX6_register hr (iX6_operand hI hm (iX6_operation (iX6_setRegister hr h)))⟩, fun c => absurd (ti_le.mpr (by omega)) c⟩
  · intro P h
    unfold wX3_operationCodes
    rw [hn', eo]
    have b92 : wX3_operationCodes_b92 P (q_code q >>> ((3 : Int32) &&& 31)) (q_code q &&& 1) (pO q (-1) k) := by
      refine iX4_value hI.2.1 (by show r7 (c_r k); rw [hD.2.2.1]; exact hr) ?_
      show wX3_e _ (pO q (-1) k) _
      refine iX3_e hI hD (iX0_operation (rO_reg hI.2.1.1 _ _) (rO_e hI _) (r7_O hO).1 (r7_O hO).2 (iX4_give (by show r7 (c_r k); rw [hD.2.2.1]; exact hr) ?_))
      have er : c_r (p_code (pO q (-1) k)) = q_r q := hD.2.2.1
      rw [er]
      exact h
    refine iX1_wide ?_
    rw [hn']
    have hne : ∀ j : Int32, (j.toInt = 0 ∨ j.toInt = 1) → ¬ q_code q &&& 7 = j := fun j hj c => by
      have := congrArg Int32.toInt c; rw [e7] at this; omega
    refine ⟨fun c => absurd c (hne 0 (Or.inl rfl)), fun _ => ⟨fun c => absurd c (hne 1 (Or.inr rfl)), fun _ => ⟨fun _ => b92, fun c => ⟨fun _ => b92, fun c2 => ?_⟩⟩⟩⟩
    exact absurd (ti_ext (x := q_code q &&& 7) (y := 3) (by rw [e7, t3]; have : ¬ (q_code q &&& 7).toInt = (2 : Int32).toInt := sw_ne c; rw [e7, t2] at this; omega)) c2
  · exact inv_R (inv_F _ hI) (inv_setR hI.2.1.1 _ _ _)
  · exact ((same_F q _).tr (same_R _ _)).kept hg
set_option maxHeartbeats 200000 in
theorem simFirstC {q : SQ} {k : SC} (hI : Inv q) (hg : q_gave q = 0) (hn : c_number k = q_code q) (h0 : 0 ≤ (q_code q).toInt) (h1 : (q_code q).toInt < 64)
    (hM : (q_code q).toInt % 8 < 4 → DecM k q) (hi : (q_code q).toInt % 8 = 4 ∨ (q_code q).toInt % 8 = 5 → q_i q = c_first k ∧ rO (q_i q) (q_code q &&& 1)) (hp : (q_code q).toInt % 8 = 6 → (q_code q).toInt < 32) (A2 : ¬ (q_code q).toInt % 8 < 4) (A3 : (q_code q).toInt % 8 < 6) :
    Sim (wX6_first q) (wX3_operationCodes (pO q (-1) k)) q k (if (q_code q).toInt % 8 = 7 ∧ (q_code q).toInt < 32 then 1 else 0) := by
  have hO := r7_op h0 h1
  have e7 := ti_and7 (q_code q)
  have hn' : c_number (p_code (pO q (-1) k)) = q_code q := hn
  have eo : (q_code q >>> ((3 : Int32) &&& 31)) &&& 7 = q_code q >>> ((3 : Int32) &&& 31) := and7_id hO
  have t0 : (0 : Int32).toInt = 0 := rfl
  have t1 : (1 : Int32).toInt = 1 := rfl
  have t2 : (2 : Int32).toInt = 2 := rfl
  have t3 : (3 : Int32).toInt = 3 := rfl
  have t4 : (4 : Int32).toInt = 4 := rfl
  have t5 : (5 : Int32).toInt = 5 := rfl
  have t6 : (6 : Int32).toInt = 6 := rfl
  have t7 : (7 : Int32).toInt = 7 := rfl
  have t32 : (32 : Int32).toInt = 32 := rfl
  have t48 : (48 : Int32).toInt = 48 := rfl
  obtain ⟨ei, ri⟩ := hi (by omega)
  rw [if_neg (by omega)]
  apply Sim.one (q1 := qs_registers (qs_flags q (fOpF (q_flags q) (q_code q >>> ((3 : Int32) &&& 31)) (fReg (q_registers q) 0 (q_code q &&& 1)) (q_i q) (q_code q &&& 1))) (fSetR (q_registers q) 0 (q_code q &&& 1) (fOpV (q_flags q) (q_code q >>> ((3 : Int32) &&& 31)) (fReg (q_registers q) 0 (q_code q &&& 1)) (q_i q) (q_code q &&& 1))))
  · intro P h
    unfold wX6_first
    exact iX6_isWide h0 ⟨fun _ => ⟨fun _ => ⟨fun c => absurd (ti_le.mp c) (by omega), fun _ => iX6_register r7_0 (iX6_operation (iX6_setRegister r7_0 h))⟩, fun c => absurd (ti_le.mpr (by omega)) c⟩, fun c => absurd (ti_le.mpr (by omega)) c⟩
  · intro P h
    unfold wX3_operationCodes
    rw [hn', eo]
    have b139 : wX3_operationCodes_b139 P (q_code q >>> ((3 : Int32) &&& 31)) (q_code q &&& 1) (pO q (-1) k) := by
      refine iX3_a hI ?_
      have er : c_first (p_code (pO q (-1) k)) = q_i q := ei.symm
      rw [er]
      exact iX0_operation (rO_reg hI.2.1.1 _ _) ri (r7_O hO).1 (r7_O hO).2 (iX3_giveA (q := qs_flags q _) h)
    refine iX1_wide ?_
    rw [hn']
    have hne : ∀ j : Int32, (j.toInt = 0 ∨ j.toInt = 1 ∨ j.toInt = 2 ∨ j.toInt = 3) → ¬ q_code q &&& 7 = j := fun j hj c => by
      have := congrArg Int32.toInt c; rw [e7] at this; omega
    refine ⟨fun c => absurd c (hne 0 (Or.inl rfl)), fun _ => ⟨fun c => absurd c (hne 1 (Or.inr (Or.inl rfl))), fun _ => ⟨fun c => absurd c (hne 2 (Or.inr (Or.inr (Or.inl rfl)))), fun _ => ⟨fun c => absurd c (hne 3 (Or.inr (Or.inr (Or.inr rfl)))), fun _ => ⟨fun _ => b139, fun c => ⟨fun _ => b139, fun c2 => ?_⟩⟩⟩⟩⟩⟩
    exact absurd (ti_ext (x := q_code q &&& 7) (y := 5) (by rw [e7, t5]; have : ¬ (q_code q &&& 7).toInt = (4 : Int32).toInt := sw_ne c; rw [e7, t4] at this; omega)) c2
  · exact inv_R (inv_F _ hI) (inv_setR hI.2.1.1 _ _ _)
  · exact ((same_F q _).tr (same_R _ _)).kept hg
set_option maxHeartbeats 200000 in
theorem simFirstD {q : SQ} {k : SC} (hI : Inv q) (hg : q_gave q = 0) (hn : c_number k = q_code q) (h0 : 0 ≤ (q_code q).toInt) (h1 : (q_code q).toInt < 64)
    (hM : (q_code q).toInt % 8 < 4 → DecM k q) (hi : (q_code q).toInt % 8 = 4 ∨ (q_code q).toInt % 8 = 5 → q_i q = c_first k ∧ rO (q_i q) (q_code q &&& 1)) (hp : (q_code q).toInt % 8 = 6 → (q_code q).toInt < 32) (A3 : ¬ (q_code q).toInt % 8 < 6) (A4 : (q_code q).toInt % 8 = 6) :
    Sim (wX6_first q) (wX3_operationCodes (pO q (-1) k)) q k (if (q_code q).toInt % 8 = 7 ∧ (q_code q).toInt < 32 then 1 else 0) := by
  have hO := r7_op h0 h1
  have e7 := ti_and7 (q_code q)
  have hn' : c_number (p_code (pO q (-1) k)) = q_code q := hn
  have eo : (q_code q >>> ((3 : Int32) &&& 31)) &&& 7 = q_code q >>> ((3 : Int32) &&& 31) := and7_id hO
  have t0 : (0 : Int32).toInt = 0 := rfl
  have t1 : (1 : Int32).toInt = 1 := rfl
  have t2 : (2 : Int32).toInt = 2 := rfl
  have t3 : (3 : Int32).toInt = 3 := rfl
  have t4 : (4 : Int32).toInt = 4 := rfl
  have t5 : (5 : Int32).toInt = 5 := rfl
  have t6 : (6 : Int32).toInt = 6 := rfl
  have t7 : (7 : Int32).toInt = 7 := rfl
  have t32 : (32 : Int32).toInt = 32 := rfl
  have t48 : (48 : Int32).toInt = 48 := rfl
  have hne : ∀ j : Int32, (j.toInt = 0 ∨ j.toInt = 1 ∨ j.toInt = 2 ∨ j.toInt = 3 ∨ j.toInt = 4 ∨ j.toInt = 5) → ¬ q_code q &&& 7 = j := fun j hj c => by
    have := congrArg Int32.toInt c; rw [e7] at this; omega
  have s0 : q_code q &&& 7 = 0 → False := hne 0 (Or.inl rfl)
  have s1 : q_code q &&& 7 = 1 → False := hne 1 (Or.inr (Or.inl rfl))
  have s2 : q_code q &&& 7 = 2 → False := hne 2 (Or.inr (Or.inr (Or.inl rfl)))
  have s3 : q_code q &&& 7 = 3 → False := hne 3 (Or.inr (Or.inr (Or.inr (Or.inl rfl))))
  have s4 : q_code q &&& 7 = 4 → False := hne 4 (Or.inr (Or.inr (Or.inr (Or.inr (Or.inl rfl)))))
  have s5 : q_code q &&& 7 = 5 → False := hne 5 (Or.inr (Or.inr (Or.inr (Or.inr (Or.inr rfl)))))
  have h32 := hp A4
  rw [if_neg (by omega)]
  have l6 : q_code q &&& 7 = 6 := ti_ext (by rw [e7, t6]; omega)
  have ro : r3 (q_code q >>> ((3 : Int32) &&& 31)) := by unfold r3; rw [ti_shr3]; omega
  apply Sim.one (q1 := fPush q (q_segments q (q_code q >>> ((3 : Int32) &&& 31)).toNatClampNeg))
  · intro P h
    unfold wX6_first
    exact iX6_isWide h0 ⟨fun _ => ⟨fun _ => ⟨fun _ => ⟨fun c => absurd (ti_le.mp c) (by omega), fun _ => ⟨fun _ => ⟨vp_3 ro, iX6_push hI h⟩, fun c => absurd l6 c⟩⟩, fun c => absurd (ti_le.mpr (by omega)) c⟩, fun c => absurd (ti_le.mpr (by omega)) c⟩, fun c => absurd (ti_le.mpr (by omega)) c⟩
  · intro P h
    unfold wX3_operationCodes
    rw [hn', eo]
    refine iX1_wide ?_
    rw [hn']
    refine ⟨fun c => (s0 c).elim, fun _ => ⟨fun c => (s1 c).elim, fun _ => ⟨fun c => (s2 c).elim, fun _ => ⟨fun c => (s3 c).elim, fun _ => ⟨fun c => (s4 c).elim, fun _ => ⟨fun c => (s5 c).elim, fun _ => ⟨fun _ => ?_, fun c => absurd l6 c⟩⟩⟩⟩⟩⟩⟩
    refine iX4_segment ?_
    rw [and3_id ro]
    exact iX3_push hI h
  · exact inv_push hI _
  · exact (same_push q _).kept hg
set_option maxHeartbeats 200000 in
theorem simFirstE {q : SQ} {k : SC} (hI : Inv q) (hg : q_gave q = 0) (hn : c_number k = q_code q) (h0 : 0 ≤ (q_code q).toInt) (h1 : (q_code q).toInt < 64)
    (hM : (q_code q).toInt % 8 < 4 → DecM k q) (hi : (q_code q).toInt % 8 = 4 ∨ (q_code q).toInt % 8 = 5 → q_i q = c_first k ∧ rO (q_i q) (q_code q &&& 1)) (hp : (q_code q).toInt % 8 = 6 → (q_code q).toInt < 32) (l7 : (q_code q).toInt % 8 = 7) (A5 : (q_code q).toInt < 32) :
    Sim (wX6_first q) (wX3_operationCodes (pO q (-1) k)) q k (if (q_code q).toInt % 8 = 7 ∧ (q_code q).toInt < 32 then 1 else 0) := by
  have hO := r7_op h0 h1
  have e7 := ti_and7 (q_code q)
  have hn' : c_number (p_code (pO q (-1) k)) = q_code q := hn
  have eo : (q_code q >>> ((3 : Int32) &&& 31)) &&& 7 = q_code q >>> ((3 : Int32) &&& 31) := and7_id hO
  have t0 : (0 : Int32).toInt = 0 := rfl
  have t1 : (1 : Int32).toInt = 1 := rfl
  have t2 : (2 : Int32).toInt = 2 := rfl
  have t3 : (3 : Int32).toInt = 3 := rfl
  have t4 : (4 : Int32).toInt = 4 := rfl
  have t5 : (5 : Int32).toInt = 5 := rfl
  have t6 : (6 : Int32).toInt = 6 := rfl
  have t7 : (7 : Int32).toInt = 7 := rfl
  have t32 : (32 : Int32).toInt = 32 := rfl
  have t48 : (48 : Int32).toInt = 48 := rfl
  have hne : ∀ j : Int32, (j.toInt = 0 ∨ j.toInt = 1 ∨ j.toInt = 2 ∨ j.toInt = 3 ∨ j.toInt = 4 ∨ j.toInt = 5) → ¬ q_code q &&& 7 = j := fun j hj c => by
    have := congrArg Int32.toInt c; rw [e7] at this; omega
  have s0 : q_code q &&& 7 = 0 → False := hne 0 (Or.inl rfl)
  have s1 : q_code q &&& 7 = 1 → False := hne 1 (Or.inr (Or.inl rfl))
  have s2 : q_code q &&& 7 = 2 → False := hne 2 (Or.inr (Or.inr (Or.inl rfl)))
  have s3 : q_code q &&& 7 = 3 → False := hne 3 (Or.inr (Or.inr (Or.inr (Or.inl rfl))))
  have s4 : q_code q &&& 7 = 4 → False := hne 4 (Or.inr (Or.inr (Or.inr (Or.inr (Or.inl rfl)))))
  have s5 : q_code q &&& 7 = 5 → False := hne 5 (Or.inr (Or.inr (Or.inr (Or.inr (Or.inr rfl)))))
  have n6 : ¬ q_code q &&& 7 = 6 := fun c => by have := congrArg Int32.toInt c; rw [e7, t6] at this; omega
  rw [if_pos ⟨l7, A5⟩]
  have ro : r3 (q_code q >>> ((3 : Int32) &&& 31)) := by unfold r3; rw [ti_shr3]; omega
  apply Sim.one (q1 := qs_gave (qs_segments (fPop q) (upd (q_segments (fPop q)) (q_code q >>> ((3 : Int32) &&& 31)).toNatClampNeg (fPopV q))) 1)
  · intro P h
    unfold wX6_first
    refine iX6_isWide h0 ⟨fun _ => ⟨fun _ => ⟨fun _ => ⟨fun c => absurd (ti_le.mp c) (by omega), fun _ => ⟨fun c => absurd c n6, fun _ => ?_⟩⟩, fun c => absurd (ti_le.mpr (by omega)) c⟩, fun c => absurd (ti_le.mpr (by omega)) c⟩, fun c => absurd (ti_le.mpr (by omega)) c⟩
    exact ⟨fun c => absurd (ti_le.mp c) (by omega), fun _ => iX6_pop hI ⟨vp_3 ro, h⟩⟩
  · intro P h
    unfold wX3_operationCodes
    rw [hn', eo]
    refine iX1_wide ?_
    rw [hn']
    refine ⟨fun c => (s0 c).elim, fun _ => ⟨fun c => (s1 c).elim, fun _ => ⟨fun c => (s2 c).elim, fun _ => ⟨fun c => (s3 c).elim, fun _ => ⟨fun c => (s4 c).elim, fun _ => ⟨fun c => (s5 c).elim, fun _ => ⟨fun c => absurd c n6, fun _ => ⟨fun c => absurd (ti_le.mp c) (by omega), fun _ => ?_⟩⟩⟩⟩⟩⟩⟩⟩
    refine iX3_pop hI (iP_setSegment (q := fPop q) ?_)
    rw [and3_id ro, and65535_id (rW_popV hI)]
    rw [pO_gave] at h
    exact h
  · exact inv_gave _ (inv_Sg (inv_pop hI) (inv_updW (inv_pop hI).2.1.2.1 _ (rW_popV hI)))
  · exact kept_gave ((same_pop q).tr (same_Sg _ _))
theorem simFirst {q : SQ} {k : SC} (hI : Inv q) (hg : q_gave q = 0) (hn : c_number k = q_code q) (h0 : 0 ≤ (q_code q).toInt) (h1 : (q_code q).toInt < 64)
    (hM : (q_code q).toInt % 8 < 4 → DecM k q) (hi : (q_code q).toInt % 8 = 4 ∨ (q_code q).toInt % 8 = 5 → q_i q = c_first k ∧ rO (q_i q) (q_code q &&& 1)) (hp : (q_code q).toInt % 8 = 6 → (q_code q).toInt < 32) :
    Sim (wX6_first q) (wX3_operationCodes (pO q (-1) k)) q k (if (q_code q).toInt % 8 = 7 ∧ (q_code q).toInt < 32 then 1 else 0) := by
  by_cases A1 : (q_code q).toInt % 8 < 2
  · exact simFirstA hI hg hn h0 h1 hM hi hp A1
  by_cases A2 : (q_code q).toInt % 8 < 4
  · exact simFirstB hI hg hn h0 h1 hM hi hp A1 A2
  by_cases A3 : (q_code q).toInt % 8 < 6
  · exact simFirstC hI hg hn h0 h1 hM hi hp A2 A3
  by_cases A4 : (q_code q).toInt % 8 = 6
  · exact simFirstD hI hg hn h0 h1 hM hi hp A3 A4
  have l7 : (q_code q).toInt % 8 = 7 := by omega
  by_cases A5 : (q_code q).toInt < 32
  · exact simFirstE hI hg hn h0 h1 hM hi hp l7 A5
  rw [if_neg (fun z => A5 z.2)]
  exact simAdj hI hg hn h0 h1 l7 A5
