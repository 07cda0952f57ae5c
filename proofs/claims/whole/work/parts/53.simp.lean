-- ----- a code, from its decoding to its end, both sides
def mDoes (n : Int32) (q : SQ) (P : SQ → Prop) : Prop := (((64 : Int32) ≤ n → (((96 : Int32) ≤ n → (((128 : Int32) ≤ n → (((144 : Int32) ≤ n → (((160 : Int32) ≤ n → (((192 : Int32) ≤ n → (((208 : Int32) ≤ n → (((224 : Int32) ≤ n → (((240 : Int32) ≤ n → (wX6_flagsAndMore  q (fun u10 => (P u10)))) ∧ (¬ (240 : Int32) ≤ n → (wX6_loopsAndPorts  q (fun u12 => (P u12)))))) ∧ (¬ (224 : Int32) ≤ n → (wX6_shiftsAndMore  q (fun u14 => (P u14)))))) ∧ (¬ (208 : Int32) ≤ n → (wX6_returnsAndMore  q (fun u16 => (P u16)))))) ∧ (¬ (192 : Int32) ≤ n → (wX6_memory  q (fun u18 => (P u18)))))) ∧ (¬ (160 : Int32) ≤ n → (wX6_others  q (fun u20 => (P u20)))))) ∧ (¬ (144 : Int32) ≤ n → (wX6_moves  q (fun u22 => (P u22)))))) ∧ (¬ (128 : Int32) ≤ n → (wX6_holds (n &&& (15 : Int32)) q (fun r25 u24 => ((r25 = (0 : Int32) → (wX6_does_b86  P (0 : Int32) u24)) ∧ (¬ r25 = (0 : Int32) → (wX6_does_b86  P (q_i u24) u24)))))))) ∧ (¬ (96 : Int32) ≤ n → (wX6_second  q (fun u27 => (P u27)))))) ∧ (¬ (64 : Int32) ≤ n → (wX6_first  q (fun u29 => (P u29)))))
theorem does_m (q : SQ) (P : SQ → Prop) : wX6_does q P = mDoes (q_code q) (qs_interrupted (qs_gave (qs_ip q (q_at q &&& 65535)) 0) 0) P := rfl
theorem ex0 {q : SQ} {k : SC} (hI : Inv q) (hg : q_gave q = 0) (D : Dec k q) (h0 : 0 ≤ (q_code q).toInt) (h1 : (q_code q).toInt < 64) : ∃ q1, Inv q1 ∧ Kept q q1 (fGS (q_code q)) ∧ (∀ P : SQ → Prop, P q1 → mDoes (q_code q) q P) ∧ (∀ (P : SP → Prop) (cd : Int32), (∀ c, P (pO q1 c k)) → wX3_execute (pO q cd k) P) := by
  have hn : c_number k = q_code q := D.1
  rcases Sim.exec (simG0 hI hg D h1) with ⟨q1, hi, hk, hm, hc⟩
  refine ⟨q1, hi, hk, fun P h => (sk (fun z => by have := ti_le.mp z; have : (64 : Int32).toInt = 64 := rfl; omega) (hm P h)), fun P cd h => ?_⟩
  have hn2 : c_number (p_code (pO q cd k)) = q_code q := hn
  have e4 : (q_code q >>> ((4 : Int32) &&& 31)).toInt = (q_code q).toInt / 16 := ti_shr4 _
  have t : (q_code q).toInt / 16 = 0 ∨ (q_code q).toInt / 16 = 1 ∨ (q_code q).toInt / 16 = 2 ∨ (q_code q).toInt / 16 = 3 := by omega
  unfold wX3_execute
  rw [hn2]
  rcases t with t | t | t | t
  · have e : q_code q >>> ((4 : Int32) &&& 31) = 0 := ti_ext (by rw [e4, t]; rfl)
    rw [e]
    exact (tk rfl (hc P h))
  · have e : q_code q >>> ((4 : Int32) &&& 31) = 1 := ti_ext (by rw [e4, t]; rfl)
    rw [e]
    exact (sk (by decide) (tk rfl (hc P h)))
  · have e : q_code q >>> ((4 : Int32) &&& 31) = 2 := ti_ext (by rw [e4, t]; rfl)
    rw [e]
    exact (sk (by decide) (sk (by decide) (tk rfl (hc P h))))
  · have e : q_code q >>> ((4 : Int32) &&& 31) = 3 := ti_ext (by rw [e4, t]; rfl)
    rw [e]
    exact (sk (by decide) (sk (by decide) (sk (by decide) (tk rfl (hc P h)))))
theorem ex4 {q : SQ} {k : SC} (hI : Inv q) (hg : q_gave q = 0) (D : Dec k q) (h0 : 64 ≤ (q_code q).toInt) (h1 : (q_code q).toInt < 80) : ∃ q1, Inv q1 ∧ Kept q q1 (fGS (q_code q)) ∧ (∀ P : SQ → Prop, P q1 → mDoes (q_code q) q P) ∧ (∀ (P : SP → Prop) (cd : Int32), (∀ c, P (pO q1 c k)) → wX3_execute (pO q cd k) P) := by
  have hn : c_number k = q_code q := D.1
  rcases Sim.exec ((simSecond hI hg D.1 h0 h1).gv (show (0 : Int32) = fGS (q_code q) by unfold fGS; rw [if_neg (by omega)])) with ⟨q1, hi, hk, hm, hc⟩
  refine ⟨q1, hi, hk, fun P h => (tk (ti_le.mpr (by have : (64 : Int32).toInt = 64 := rfl; omega)) (sk (fun z => by have := ti_le.mp z; have : (96 : Int32).toInt = 96 := rfl; omega) (hm P h))), fun P cd h => ?_⟩
  have hn2 : c_number (p_code (pO q cd k)) = q_code q := hn
  have e4 : (q_code q >>> ((4 : Int32) &&& 31)).toInt = (q_code q).toInt / 16 := ti_shr4 _
  have e : q_code q >>> ((4 : Int32) &&& 31) = 4 := ti_ext (by rw [e4]; have : (4 : Int32).toInt = 4 := rfl; omega)
  unfold wX3_execute
  rw [hn2, e]
  exact (sk (by decide) (sk (by decide) (sk (by decide) (sk (by decide) (tk rfl (hc P h))))))
theorem ex5 {q : SQ} {k : SC} (hI : Inv q) (hg : q_gave q = 0) (D : Dec k q) (h0 : 80 ≤ (q_code q).toInt) (h1 : (q_code q).toInt < 96) : ∃ q1, Inv q1 ∧ Kept q q1 (fGS (q_code q)) ∧ (∀ P : SQ → Prop, P q1 → mDoes (q_code q) q P) ∧ (∀ (P : SP → Prop) (cd : Int32), (∀ c, P (pO q1 c k)) → wX3_execute (pO q cd k) P) := by
  have hn : c_number k = q_code q := D.1
  rcases Sim.exec ((simStack hI hg D.1 h0 h1).gv (show (0 : Int32) = fGS (q_code q) by unfold fGS; rw [if_neg (by omega)])) with ⟨q1, hi, hk, hm, hc⟩
  refine ⟨q1, hi, hk, fun P h => (tk (ti_le.mpr (by have : (64 : Int32).toInt = 64 := rfl; omega)) (sk (fun z => by have := ti_le.mp z; have : (96 : Int32).toInt = 96 := rfl; omega) (hm P h))), fun P cd h => ?_⟩
  have hn2 : c_number (p_code (pO q cd k)) = q_code q := hn
  have e4 : (q_code q >>> ((4 : Int32) &&& 31)).toInt = (q_code q).toInt / 16 := ti_shr4 _
  have e : q_code q >>> ((4 : Int32) &&& 31) = 5 := ti_ext (by rw [e4]; have : (5 : Int32).toInt = 5 := rfl; omega)
  unfold wX3_execute
  rw [hn2, e]
  exact (sk (by decide) (sk (by decide) (sk (by decide) (sk (by decide) (sk (by decide) (tk rfl (hc P h)))))))
theorem ex6 {q : SQ} {k : SC} (hI : Inv q) (hg : q_gave q = 0) (D : Dec k q) (h0 : 96 ≤ (q_code q).toInt) (h1 : (q_code q).toInt < 128) : ∃ q1, Inv q1 ∧ Kept q q1 (fGS (q_code q)) ∧ (∀ P : SQ → Prop, P q1 → mDoes (q_code q) q P) ∧ (∀ (P : SP → Prop) (cd : Int32), (∀ c, P (pO q1 c k)) → wX3_execute (pO q cd k) P) := by
  have hn : c_number k = q_code q := D.1
  rcases Sim.exec ((simJump hI hg D.1 (D.2.2.2.2.1.1 (by unfold iShort; omega))).gv (show (0 : Int32) = fGS (q_code q) by unfold fGS; rw [if_neg (by omega)])) with ⟨q1, hi, hk, hm, hc⟩
  refine ⟨q1, hi, hk, fun P h => (tk (ti_le.mpr (by have : (64 : Int32).toInt = 64 := rfl; omega)) (tk (ti_le.mpr (by have : (96 : Int32).toInt = 96 := rfl; omega)) (sk (fun z => by have := ti_le.mp z; have : (128 : Int32).toInt = 128 := rfl; omega) (hm P h)))), fun P cd h => ?_⟩
  have hn2 : c_number (p_code (pO q cd k)) = q_code q := hn
  have e4 : (q_code q >>> ((4 : Int32) &&& 31)).toInt = (q_code q).toInt / 16 := ti_shr4 _
  have t : (q_code q).toInt / 16 = 6 ∨ (q_code q).toInt / 16 = 7 := by omega
  unfold wX3_execute
  rw [hn2]
  rcases t with t | t
  · have e : q_code q >>> ((4 : Int32) &&& 31) = 6 := ti_ext (by rw [e4, t]; rfl)
    rw [e]
    exact (sk (by decide) (sk (by decide) (sk (by decide) (sk (by decide) (sk (by decide) (sk (by decide) (tk rfl (hc P h))))))))
  · have e : q_code q >>> ((4 : Int32) &&& 31) = 7 := ti_ext (by rw [e4, t]; rfl)
    rw [e]
    exact (sk (by decide) (sk (by decide) (sk (by decide) (sk (by decide) (sk (by decide) (sk (by decide) (sk (by decide) (tk rfl (hc P h)))))))))
theorem ex8 {q : SQ} {k : SC} (hI : Inv q) (hg : q_gave q = 0) (D : Dec k q) (h0 : 128 ≤ (q_code q).toInt) (h1 : (q_code q).toInt < 144) : ∃ q1, Inv q1 ∧ Kept q q1 (fGS (q_code q)) ∧ (∀ P : SQ → Prop, P q1 → mDoes (q_code q) q P) ∧ (∀ (P : SP → Prop) (cd : Int32), (∀ c, P (pO q1 c k)) → wX3_execute (pO q cd k) P) := by
  have hn : c_number k = q_code q := D.1
  rcases Sim.exec (simG8 hI hg D h0 h1) with ⟨q1, hi, hk, hm, hc⟩
  refine ⟨q1, hi, hk, fun P h => (tk (ti_le.mpr (by have : (64 : Int32).toInt = 64 := rfl; omega)) (tk (ti_le.mpr (by have : (96 : Int32).toInt = 96 := rfl; omega)) (tk (ti_le.mpr (by have : (128 : Int32).toInt = 128 := rfl; omega)) (sk (fun z => by have := ti_le.mp z; have : (144 : Int32).toInt = 144 := rfl; omega) (hm P h))))), fun P cd h => ?_⟩
  have hn2 : c_number (p_code (pO q cd k)) = q_code q := hn
  have e4 : (q_code q >>> ((4 : Int32) &&& 31)).toInt = (q_code q).toInt / 16 := ti_shr4 _
  have e : q_code q >>> ((4 : Int32) &&& 31) = 8 := ti_ext (by rw [e4]; have : (8 : Int32).toInt = 8 := rfl; omega)
  unfold wX3_execute
  rw [hn2, e]
  exact (sk (by decide) (sk (by decide) (sk (by decide) (sk (by decide) (sk (by decide) (sk (by decide) (sk (by decide) (sk (by decide) (tk rfl (hc P h))))))))))
theorem ex9 {q : SQ} {k : SC} (hI : Inv q) (hg : q_gave q = 0) (D : Dec k q) (h0 : 144 ≤ (q_code q).toInt) (h1 : (q_code q).toInt < 160) : ∃ q1, Inv q1 ∧ Kept q q1 (fGS (q_code q)) ∧ (∀ P : SQ → Prop, P q1 → mDoes (q_code q) q P) ∧ (∀ (P : SP → Prop) (cd : Int32), (∀ c, P (pO q1 c k)) → wX3_execute (pO q cd k) P) := by
  have hn : c_number k = q_code q := D.1
  rcases Sim.exec (simG9 hI hg D h0 h1) with ⟨q1, hi, hk, hm, hc⟩
  refine ⟨q1, hi, hk, fun P h => (tk (ti_le.mpr (by have : (64 : Int32).toInt = 64 := rfl; omega)) (tk (ti_le.mpr (by have : (96 : Int32).toInt = 96 := rfl; omega)) (tk (ti_le.mpr (by have : (128 : Int32).toInt = 128 := rfl; omega)) (tk (ti_le.mpr (by have : (144 : Int32).toInt = 144 := rfl; omega)) (sk (fun z => by have := ti_le.mp z; have : (160 : Int32).toInt = 160 := rfl; omega) (hm P h)))))), fun P cd h => ?_⟩
  have hn2 : c_number (p_code (pO q cd k)) = q_code q := hn
  have e4 : (q_code q >>> ((4 : Int32) &&& 31)).toInt = (q_code q).toInt / 16 := ti_shr4 _
  have e : q_code q >>> ((4 : Int32) &&& 31) = 9 := ti_ext (by rw [e4]; have : (9 : Int32).toInt = 9 := rfl; omega)
  unfold wX3_execute
  rw [hn2, e]
  exact (sk (by decide) (sk (by decide) (sk (by decide) (sk (by decide) (sk (by decide) (sk (by decide) (sk (by decide) (sk (by decide) (sk (by decide) (tk rfl (hc P h)))))))))))
theorem ex10 {q : SQ} {k : SC} (hI : Inv q) (hg : q_gave q = 0) (D : Dec k q) (h0 : 160 ≤ (q_code q).toInt) (h1 : (q_code q).toInt < 176) : ∃ q1, Inv q1 ∧ Kept q q1 (fGS (q_code q)) ∧ (∀ P : SQ → Prop, P q1 → mDoes (q_code q) q P) ∧ (∀ (P : SP → Prop) (cd : Int32), (∀ c, P (pO q1 c k)) → wX3_execute (pO q cd k) P) := by
  have hn : c_number k = q_code q := D.1
  rcases Sim.exec (simG10 hI hg D h0 h1) with ⟨q1, hi, hk, hm, hc⟩
  refine ⟨q1, hi, hk, fun P h => (tk (ti_le.mpr (by have : (64 : Int32).toInt = 64 := rfl; omega)) (tk (ti_le.mpr (by have : (96 : Int32).toInt = 96 := rfl; omega)) (tk (ti_le.mpr (by have : (128 : Int32).toInt = 128 := rfl; omega)) (tk (ti_le.mpr (by have : (144 : Int32).toInt = 144 := rfl; omega)) (tk (ti_le.mpr (by have : (160 : Int32).toInt = 160 := rfl; omega)) (sk (fun z => by have := ti_le.mp z; have : (192 : Int32).toInt = 192 := rfl; omega) (hm P h))))))), fun P cd h => ?_⟩
  have hn2 : c_number (p_code (pO q cd k)) = q_code q := hn
  have e4 : (q_code q >>> ((4 : Int32) &&& 31)).toInt = (q_code q).toInt / 16 := ti_shr4 _
  have e : q_code q >>> ((4 : Int32) &&& 31) = 10 := ti_ext (by rw [e4]; have : (10 : Int32).toInt = 10 := rfl; omega)
  unfold wX3_execute
  rw [hn2, e]
  exact (sk (by decide) (sk (by decide) (sk (by decide) (sk (by decide) (sk (by decide) (sk (by decide) (sk (by decide) (sk (by decide) (sk (by decide) (sk (by decide) (tk rfl (hc P h))))))))))))
theorem ex12 {q : SQ} {k : SC} (hI : Inv q) (hg : q_gave q = 0) (D : Dec k q) (h0 : 192 ≤ (q_code q).toInt) (h1 : (q_code q).toInt < 208) : ∃ q1, Inv q1 ∧ Kept q q1 (fGS (q_code q)) ∧ (∀ P : SQ → Prop, P q1 → mDoes (q_code q) q P) ∧ (∀ (P : SP → Prop) (cd : Int32), (∀ c, P (pO q1 c k)) → wX3_execute (pO q cd k) P) := by
  have hn : c_number k = q_code q := D.1
  rcases Sim.exec (simG12 hI hg D h0 h1) with ⟨q1, hi, hk, hm, hc⟩
  refine ⟨q1, hi, hk, fun P h => (tk (ti_le.mpr (by have : (64 : Int32).toInt = 64 := rfl; omega)) (tk (ti_le.mpr (by have : (96 : Int32).toInt = 96 := rfl; omega)) (tk (ti_le.mpr (by have : (128 : Int32).toInt = 128 := rfl; omega)) (tk (ti_le.mpr (by have : (144 : Int32).toInt = 144 := rfl; omega)) (tk (ti_le.mpr (by have : (160 : Int32).toInt = 160 := rfl; omega)) (tk (ti_le.mpr (by have : (192 : Int32).toInt = 192 := rfl; omega)) (sk (fun z => by have := ti_le.mp z; have : (208 : Int32).toInt = 208 := rfl; omega) (hm P h)))))))), fun P cd h => ?_⟩
  have hn2 : c_number (p_code (pO q cd k)) = q_code q := hn
  have e4 : (q_code q >>> ((4 : Int32) &&& 31)).toInt = (q_code q).toInt / 16 := ti_shr4 _
  have e : q_code q >>> ((4 : Int32) &&& 31) = 12 := ti_ext (by rw [e4]; have : (12 : Int32).toInt = 12 := rfl; omega)
  unfold wX3_execute
  rw [hn2, e]
  exact (sk (by decide) (sk (by decide) (sk (by decide) (sk (by decide) (sk (by decide) (sk (by decide) (sk (by decide) (sk (by decide) (sk (by decide) (sk (by decide) (sk (by decide) (sk (by decide) (tk rfl (hc P h))))))))))))))
theorem ex13 {q : SQ} {k : SC} (hI : Inv q) (hg : q_gave q = 0) (D : Dec k q) (h0 : 208 ≤ (q_code q).toInt) (h1 : (q_code q).toInt < 224) : ∃ q1, Inv q1 ∧ Kept q q1 (fGS (q_code q)) ∧ (∀ P : SQ → Prop, P q1 → mDoes (q_code q) q P) ∧ (∀ (P : SP → Prop) (cd : Int32), (∀ c, P (pO q1 c k)) → wX3_execute (pO q cd k) P) := by
  have hn : c_number k = q_code q := D.1
  rcases Sim.exec (simG13 hI hg D h0 h1) with ⟨q1, hi, hk, hm, hc⟩
  refine ⟨q1, hi, hk, fun P h => (tk (ti_le.mpr (by have : (64 : Int32).toInt = 64 := rfl; omega)) (tk (ti_le.mpr (by have : (96 : Int32).toInt = 96 := rfl; omega)) (tk (ti_le.mpr (by have : (128 : Int32).toInt = 128 := rfl; omega)) (tk (ti_le.mpr (by have : (144 : Int32).toInt = 144 := rfl; omega)) (tk (ti_le.mpr (by have : (160 : Int32).toInt = 160 := rfl; omega)) (tk (ti_le.mpr (by have : (192 : Int32).toInt = 192 := rfl; omega)) (tk (ti_le.mpr (by have : (208 : Int32).toInt = 208 := rfl; omega)) (sk (fun z => by have := ti_le.mp z; have : (224 : Int32).toInt = 224 := rfl; omega) (hm P h))))))))), fun P cd h => ?_⟩
  have hn2 : c_number (p_code (pO q cd k)) = q_code q := hn
  have e4 : (q_code q >>> ((4 : Int32) &&& 31)).toInt = (q_code q).toInt / 16 := ti_shr4 _
  have e : q_code q >>> ((4 : Int32) &&& 31) = 13 := ti_ext (by rw [e4]; have : (13 : Int32).toInt = 13 := rfl; omega)
  unfold wX3_execute
  rw [hn2, e]
  exact (sk (by decide) (sk (by decide) (sk (by decide) (sk (by decide) (sk (by decide) (sk (by decide) (sk (by decide) (sk (by decide) (sk (by decide) (sk (by decide) (sk (by decide) (sk (by decide) (sk (by decide) (tk rfl (hc P h)))))))))))))))
theorem ex14 {q : SQ} {k : SC} (hI : Inv q) (hg : q_gave q = 0) (D : Dec k q) (h0 : 224 ≤ (q_code q).toInt) (h1 : (q_code q).toInt < 240) : ∃ q1, Inv q1 ∧ Kept q q1 (fGS (q_code q)) ∧ (∀ P : SQ → Prop, P q1 → mDoes (q_code q) q P) ∧ (∀ (P : SP → Prop) (cd : Int32), (∀ c, P (pO q1 c k)) → wX3_execute (pO q cd k) P) := by
  have hn : c_number k = q_code q := D.1
  rcases Sim.exec (simG14 hI hg D h0 h1) with ⟨q1, hi, hk, hm, hc⟩
  refine ⟨q1, hi, hk, fun P h => (tk (ti_le.mpr (by have : (64 : Int32).toInt = 64 := rfl; omega)) (tk (ti_le.mpr (by have : (96 : Int32).toInt = 96 := rfl; omega)) (tk (ti_le.mpr (by have : (128 : Int32).toInt = 128 := rfl; omega)) (tk (ti_le.mpr (by have : (144 : Int32).toInt = 144 := rfl; omega)) (tk (ti_le.mpr (by have : (160 : Int32).toInt = 160 := rfl; omega)) (tk (ti_le.mpr (by have : (192 : Int32).toInt = 192 := rfl; omega)) (tk (ti_le.mpr (by have : (208 : Int32).toInt = 208 := rfl; omega)) (tk (ti_le.mpr (by have : (224 : Int32).toInt = 224 := rfl; omega)) (sk (fun z => by have := ti_le.mp z; have : (240 : Int32).toInt = 240 := rfl; omega) (hm P h)))))))))), fun P cd h => ?_⟩
  have hn2 : c_number (p_code (pO q cd k)) = q_code q := hn
  have e4 : (q_code q >>> ((4 : Int32) &&& 31)).toInt = (q_code q).toInt / 16 := ti_shr4 _
  have e : q_code q >>> ((4 : Int32) &&& 31) = 14 := ti_ext (by rw [e4]; have : (14 : Int32).toInt = 14 := rfl; omega)
  unfold wX3_execute
  rw [hn2, e]
  exact (sk (by decide) (sk (by decide) (sk (by decide) (sk (by decide) (sk (by decide) (sk (by decide) (sk (by decide) (sk (by decide) (sk (by decide) (sk (by decide) (sk (by decide) (sk (by decide) (sk (by decide) (sk (by decide) (tk rfl (hc P h))))))))))))))))
theorem ex15 {q : SQ} {k : SC} (hI : Inv q) (hg : q_gave q = 0) (D : Dec k q) (h0 : 240 ≤ (q_code q).toInt) (h1 : (q_code q).toInt < 256) : ∃ q1, Inv q1 ∧ Kept q q1 (fGS (q_code q)) ∧ (∀ P : SQ → Prop, P q1 → mDoes (q_code q) q P) ∧ (∀ (P : SP → Prop) (cd : Int32), (∀ c, P (pO q1 c k)) → wX3_execute (pO q cd k) P) := by
  have hn : c_number k = q_code q := D.1
  rcases Sim.exec (simG15 hI hg D h0 h1) with ⟨q1, hi, hk, hm, hc⟩
  refine ⟨q1, hi, hk, fun P h => (tk (ti_le.mpr (by have : (64 : Int32).toInt = 64 := rfl; omega)) (tk (ti_le.mpr (by have : (96 : Int32).toInt = 96 := rfl; omega)) (tk (ti_le.mpr (by have : (128 : Int32).toInt = 128 := rfl; omega)) (tk (ti_le.mpr (by have : (144 : Int32).toInt = 144 := rfl; omega)) (tk (ti_le.mpr (by have : (160 : Int32).toInt = 160 := rfl; omega)) (tk (ti_le.mpr (by have : (192 : Int32).toInt = 192 := rfl; omega)) (tk (ti_le.mpr (by have : (208 : Int32).toInt = 208 := rfl; omega)) (tk (ti_le.mpr (by have : (224 : Int32).toInt = 224 := rfl; omega)) (tk (ti_le.mpr (by have : (240 : Int32).toInt = 240 := rfl; omega)) (hm P h)))))))))), fun P cd h => ?_⟩
  have hn2 : c_number (p_code (pO q cd k)) = q_code q := hn
  have e4 : (q_code q >>> ((4 : Int32) &&& 31)).toInt = (q_code q).toInt / 16 := ti_shr4 _
  have e : q_code q >>> ((4 : Int32) &&& 31) = 15 := ti_ext (by rw [e4]; have : (15 : Int32).toInt = 15 := rfl; omega)
  unfold wX3_execute
  rw [hn2, e]
  exact (sk (by decide) (sk (by decide) (sk (by decide) (sk (by decide) (sk (by decide) (sk (by decide) (sk (by decide) (sk (by decide) (sk (by decide) (sk (by decide) (sk (by decide) (sk (by decide) (sk (by decide) (sk (by decide) (sk (by decide) (hc P h))))))))))))))))
theorem ex11 {q : SQ} {k : SC} (hI : Inv q) (hg : q_gave q = 0) (D : Dec k q) (h0 : 176 ≤ (q_code q).toInt) (h1 : (q_code q).toInt < 192) : ∃ q1, Inv q1 ∧ Kept q q1 (fGS (q_code q)) ∧ (∀ P : SQ → Prop, P q1 → mDoes (q_code q) q P) ∧ (∀ (P : SP → Prop) (cd : Int32), (∀ c, P (pO q1 c k)) → wX3_execute (pO q cd k) P) := by
  have hn : c_number k = q_code q := D.1
  have e184 : (184 : Int32).toInt = 184 := rfl
  have e176 : (176 : Int32).toInt = 176 := rfl
  have e8 := ti_and8 (n := q_code q) (by omega)
  have gv : (0 : Int32) = fGS (q_code q) := by unfold fGS; rw [if_neg (by omega)]
  have e : q_code q >>> ((4 : Int32) &&& 31) = 11 := ti_ext (by rw [ti_shr4]; have : (11 : Int32).toInt = 11 := rfl; omega)
  have hi : q_i q = c_first k := by
    by_cases c : (q_code q).toInt < 184
    · exact (D.2.2.2.2.1.2.2.1 (by unfold iByte; omega)).1
    · exact (D.2.2.2.2.1.2.2.2.1 (by unfold iWord; omega)).1
  by_cases c : (q_code q).toInt < 184
  · rcases Sim.exec ((simNum 0 hI hg hn hi).gv gv) with ⟨q1, hi, hk, hm, hc⟩
    refine ⟨q1, hi, hk, fun P h => (tk (ti_le.mpr (by have : (64 : Int32).toInt = 64 := rfl; omega)) (tk (ti_le.mpr (by have : (96 : Int32).toInt = 96 := rfl; omega)) (tk (ti_le.mpr (by have : (128 : Int32).toInt = 128 := rfl; omega)) (tk (ti_le.mpr (by have : (144 : Int32).toInt = 144 := rfl; omega)) (tk (ti_le.mpr (by have : (160 : Int32).toInt = 160 := rfl; omega)) (sk (fun z => by have := ti_le.mp z; have : (192 : Int32).toInt = 192 := rfl; omega) (iX6_isWide (by omega) (sk (fun z => by have := ti_lt.mp z; omega) (tk (ti_lt.mpr (by omega)) (hm P h)))))))))), fun P cd h => ?_⟩
    unfold wX3_execute
    rw [show c_number (p_code (pO q cd k)) = q_code q from hn, e]
    have := hc P h
    rw [hn] at this
    exact (sk (by decide) (sk (by decide) (sk (by decide) (sk (by decide) (sk (by decide) (sk (by decide) (sk (by decide) (sk (by decide) (sk (by decide) (sk (by decide) (sk (by decide) (tk rfl (tk (e8.mpr (by omega)) this)))))))))))))
  · rcases Sim.exec ((simNum 1 hI hg hn hi).gv gv) with ⟨q1, hi, hk, hm, hc⟩
    refine ⟨q1, hi, hk, fun P h => (tk (ti_le.mpr (by have : (64 : Int32).toInt = 64 := rfl; omega)) (tk (ti_le.mpr (by have : (96 : Int32).toInt = 96 := rfl; omega)) (tk (ti_le.mpr (by have : (128 : Int32).toInt = 128 := rfl; omega)) (tk (ti_le.mpr (by have : (144 : Int32).toInt = 144 := rfl; omega)) (tk (ti_le.mpr (by have : (160 : Int32).toInt = 160 := rfl; omega)) (sk (fun z => by have := ti_le.mp z; have : (192 : Int32).toInt = 192 := rfl; omega) (iX6_isWide (by omega) (sk (fun z => by have := ti_lt.mp z; omega) (sk (fun z => by have := ti_lt.mp z; omega) (hm P h)))))))))), fun P cd h => ?_⟩
    unfold wX3_execute
    rw [show c_number (p_code (pO q cd k)) = q_code q from hn, e]
    have := hc P h
    rw [hn] at this
    exact (sk (by decide) (sk (by decide) (sk (by decide) (sk (by decide) (sk (by decide) (sk (by decide) (sk (by decide) (sk (by decide) (sk (by decide) (sk (by decide) (sk (by decide) (tk rfl (sk (fun z => by have := e8.mp z; omega) this)))))))))))))
theorem simExec {q : SQ} {k : SC} (hI : Inv q) (hg : q_gave q = 0) (D : Dec k q) : ∃ q1, Inv q1 ∧ Kept q q1 (fGS (q_code q)) ∧ (∀ P : SQ → Prop, P q1 → mDoes (q_code q) q P) ∧ (∀ (P : SP → Prop) (cd : Int32), (∀ c, P (pO q1 c k)) → wX3_execute (pO q cd k) P) := by
  have a0 := D.2.1.1
  have a1 := D.2.1.2.1
  by_cases c4 : (q_code q).toInt < 64
  · exact ex0 hI hg D a0 c4
  by_cases c80 : (q_code q).toInt < 80
  · exact ex4 hI hg D (by omega) c80
  by_cases c96 : (q_code q).toInt < 96
  · exact ex5 hI hg D (by omega) c96
  by_cases c128 : (q_code q).toInt < 128
  · exact ex6 hI hg D (by omega) c128
  by_cases c144 : (q_code q).toInt < 144
  · exact ex8 hI hg D (by omega) c144
  by_cases c160 : (q_code q).toInt < 160
  · exact ex9 hI hg D (by omega) c160
  by_cases c176 : (q_code q).toInt < 176
  · exact ex10 hI hg D (by omega) c176
  by_cases c192 : (q_code q).toInt < 192
  · exact ex11 hI hg D (by omega) c192
  by_cases c208 : (q_code q).toInt < 208
  · exact ex12 hI hg D (by omega) c208
  by_cases c224 : (q_code q).toInt < 224
  · exact ex13 hI hg D (by omega) c224
  by_cases c240 : (q_code q).toInt < 240
  · exact ex14 hI hg D (by omega) c240
  exact ex15 hI hg D (by omega) (by omega)
