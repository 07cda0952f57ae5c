-- X4_moveTo
def wX4_moveTo (a1 : Int32) (u : SR) (P : SR → Prop) : Prop := (P (rs_ip u (a1 &&& (65535 : Int32))))
set_option maxHeartbeats 4000000 in
set_option maxRecDepth 100000 in
theorem kcX4_moveTo (l : Launch) (D : va_G) (cB cI : ClassId) (q4 q5 q6 : Nat) (sz : Nat) (a1 : Int32) (u : SR) (P : SR → Prop) (hw : wX4_moveTo a1 u P) : Met l yX4_moveTo wsX4_moveTo ({ frames := 0, cells := 0, slots := 0, locals := 0 } : Room) (va_Pc [.ref q4, .int a1] (Pcw D (tyA cB cI) (WR cI q4 q5 q6 u) sz Tru)) (va_Qv P (fun u t => va_P D vwCl (WR cI q4 q5 q6 u) t.heap) (va_A (WR cI q4 q5 q6 u) sz)) 0 0 (va_A (WR cI q4 q5 q6 u) sz) := by
  refine en_ (cc := cX4_moveTo) (maxL := 2) (ret := none) (own := RX4) (lv := [(0, .ref q4), (1, .int a1)]) (Qf := fun A => va_Qv P (fun u t => va_P D vwCl (WR cI q4 q5 q6 u) t.heap) A) (by decide) rfl rfl (Nat.le_of_ble_eq_true rfl) rfl ?_
  intro p e s m below meth c A ls S hr hlk hname hsz hP hK hD hA hSub hS hE hl
  have hx := S.1
  have hb := S.2.1
  have hown := S.2.2.2.1
  have hts := S.2.2.2.2
  have i_X4 : ∀ w ∈ u_ws RX4 TX4 3, w ∈ wsX4_moveTo := by decide +kernel
  have f_17 := hts (.fieldLink RX4 17 "MachineCore$Registers" "ip" "I") (by decide +kernel)
  have k_16 := hts (.constant RX4 16 (65535)) (by decide +kernel)
  unfold wX4_moveTo at hw
  obtain ⟨H, eH⟩ : ∃ H, H = s.heap := ⟨_, rfl⟩
  obtain ⟨locs, eL⟩ : ∃ locs : List Loc, locs = [] := ⟨_, rfl⟩
  replace hP : va_P D vwCl (WR cI q4 q5 q6 u) H := by rw [eH]; exact hP
  replace hS : va_S A s.heap H locs := by rw [eH, eL]; exact hS
  suffices hgo : W p l e ({ frames := 0, cells := 0, slots := 0, locals := 0 } : Room) s m ([.ref q4, .int a1] : List Value).toArray below meth c H locs 0 0 (MQ below (va_Qv P (fun u t => va_P D vwCl (WR cI q4 q5 q6 u) t.heap) A) ([.ref q4, .int a1] : List Value).toArray s 0 0 A) (F0 m 0 ls []) by rw [eH, eL] at hgo; exact hgo
  clear eH eL
  refine lv_aload_n hx hb dX4_moveTo_0 rfl (lv_at hl 0 rfl) ?_
  refine lv_iload_n hx hb dX4_moveTo_1 rfl (lv_at hl 1 rfl) ?_
  refine lv_ldc (v := (65535 : Int32)) hx hb hown k_16 dX4_moveTo_2 ?_
  refine lv_iand hx hb dX4_moveTo_4 ?_
  refine va_put (D := D) (ci := 4) (v := .int (a1 &&& (65535 : Int32))) (ty := .int) (C := RX4) (T := TX4) (N := 3) hx hb hts i_X4 tyX4 tyX4_ok nmX4 hown hK hP hD hS 0 rfl rfl 2 (by decide) f_17 (fun _ h9 => h9) rfl (by decide +kernel) rfl rfl (Nat.le_of_ble_eq_true rfl) dX4_moveTo_5 (fun H locs hP hD hS => ?_)
  replace hP : va_P D vwCl (WR cI q4 q5 q6 (rs_ip u (a1 &&& (65535 : Int32)))) H := hP
  replace hD : va_D A (WR cI q4 q5 q6 (rs_ip u (a1 &&& (65535 : Int32)))) := hD
  exact rt_v (wo := (fun v => WR cI q4 q5 q6 v)) S hr hlk (rs_ip u (a1 &&& (65535 : Int32))) hP hS hw dX4_moveTo_8
-- X4_segment
def wX4_segment (a1 : Int32) (u : SR) (P : Int32 → SR → Prop) : Prop := (vp_in (a1 &&& (3 : Int32)) 4 ∧ (P ((r_segments u) (a1 &&& (3 : Int32)).toNatClampNeg) u))
set_option maxHeartbeats 4000000 in
set_option maxRecDepth 100000 in
theorem kcX4_segment (l : Launch) (D : va_G) (cB cI : ClassId) (q4 q5 q6 : Nat) (sz : Nat) (a1 : Int32) (u : SR) (P : Int32 → SR → Prop) (hw : wX4_segment a1 u P) : Met l yX4_segment wsX4_segment ({ frames := 0, cells := 0, slots := 0, locals := 0 } : Room) (va_Pc [.ref q4, .int a1] (Pcw D (tyA cB cI) (WR cI q4 q5 q6 u) sz Tru)) (va_Qi P (fun u t => va_P D vwCl (WR cI q4 q5 q6 u) t.heap) (va_A (WR cI q4 q5 q6 u) sz)) 0 0 (va_A (WR cI q4 q5 q6 u) sz) := by
  refine en_ (cc := cX4_segment) (maxL := 2) (ret := (some .int)) (own := RX4) (lv := [(0, .ref q4), (1, .int a1)]) (Qf := fun A => va_Qi P (fun u t => va_P D vwCl (WR cI q4 q5 q6 u) t.heap) A) (by decide) rfl rfl (Nat.le_of_ble_eq_true rfl) rfl ?_
  intro p e s m below meth c A ls S hr hlk hname hsz hP hK hD hA hSub hS hE hl
  have hx := S.1
  have hb := S.2.1
  have hown := S.2.2.2.1
  have hts := S.2.2.2.2
  have i_X4 : ∀ w ∈ u_ws RX4 TX4 3, w ∈ wsX4_segment := by decide +kernel
  have f_13 := hts (.fieldLink RX4 13 "MachineCore$Registers" "segments" "[I") (by decide +kernel)
  unfold wX4_segment at hw
  obtain ⟨H, eH⟩ : ∃ H, H = s.heap := ⟨_, rfl⟩
  obtain ⟨locs, eL⟩ : ∃ locs : List Loc, locs = [] := ⟨_, rfl⟩
  replace hP : va_P D vwCl (WR cI q4 q5 q6 u) H := by rw [eH]; exact hP
  replace hS : va_S A s.heap H locs := by rw [eH, eL]; exact hS
  suffices hgo : W p l e ({ frames := 0, cells := 0, slots := 0, locals := 0 } : Room) s m ([.ref q4, .int a1] : List Value).toArray below meth c H locs 0 0 (MQ below (va_Qi P (fun u t => va_P D vwCl (WR cI q4 q5 q6 u) t.heap) A) ([.ref q4, .int a1] : List Value).toArray s 0 0 A) (F0 m 0 ls []) by rw [eH, eL] at hgo; exact hgo
  clear eH eL
  refine lv_aload_n hx hb dX4_segment_0 rfl (lv_at hl 0 rfl) ?_
  refine va_get (D := D) (ci := 4) (v := .ref q6) (C := RX4) (T := TX4) (N := 3) hx hb hts i_X4 hown hK hP 0 rfl rfl 1 (by decide) f_13 (fun _ h9 => h9) rfl dX4_segment_1 ?_
  refine lv_iload_n hx hb dX4_segment_4 rfl (lv_at hl 1 rfl) ?_
  refine lv_iconst (v := (3 : Int32)) hx hb dX4_segment_5 (by decide) ?_
  refine lv_iand hx hb dX4_segment_6 ?_
  refine va_iald hx hb hK hP 2 1 (f := (r_segments u)) rfl rfl hw.1 dX4_segment_7 ?_
  replace hw := hw.2
  exact rt_i (wo := (fun v => WR cI q4 q5 q6 v)) S hr hlk u hP hS hw dX4_segment_8
-- X4_word
def wX4_word (a1 : Int32) (u : SR) (P : Int32 → SR → Prop) : Prop := (vp_in (a1 &&& (7 : Int32)) 8 ∧ (P ((r_words u) (a1 &&& (7 : Int32)).toNatClampNeg) u))
set_option maxHeartbeats 4000000 in
set_option maxRecDepth 100000 in
theorem kcX4_word (l : Launch) (D : va_G) (cB cI : ClassId) (q4 q5 q6 : Nat) (sz : Nat) (a1 : Int32) (u : SR) (P : Int32 → SR → Prop) (hw : wX4_word a1 u P) : Met l yX4_word wsX4_word ({ frames := 0, cells := 0, slots := 0, locals := 0 } : Room) (va_Pc [.ref q4, .int a1] (Pcw D (tyA cB cI) (WR cI q4 q5 q6 u) sz Tru)) (va_Qi P (fun u t => va_P D vwCl (WR cI q4 q5 q6 u) t.heap) (va_A (WR cI q4 q5 q6 u) sz)) 0 0 (va_A (WR cI q4 q5 q6 u) sz) := by
  refine en_ (cc := cX4_word) (maxL := 2) (ret := (some .int)) (own := RX4) (lv := [(0, .ref q4), (1, .int a1)]) (Qf := fun A => va_Qi P (fun u t => va_P D vwCl (WR cI q4 q5 q6 u) t.heap) A) (by decide) rfl rfl (Nat.le_of_ble_eq_true rfl) rfl ?_
  intro p e s m below meth c A ls S hr hlk hname hsz hP hK hD hA hSub hS hE hl
  have hx := S.1
  have hb := S.2.1
  have hown := S.2.2.2.1
  have hts := S.2.2.2.2
  have i_X4 : ∀ w ∈ u_ws RX4 TX4 3, w ∈ wsX4_word := by decide +kernel
  have f_7 := hts (.fieldLink RX4 7 "MachineCore$Registers" "words" "[I") (by decide +kernel)
  unfold wX4_word at hw
  obtain ⟨H, eH⟩ : ∃ H, H = s.heap := ⟨_, rfl⟩
  obtain ⟨locs, eL⟩ : ∃ locs : List Loc, locs = [] := ⟨_, rfl⟩
  replace hP : va_P D vwCl (WR cI q4 q5 q6 u) H := by rw [eH]; exact hP
  replace hS : va_S A s.heap H locs := by rw [eH, eL]; exact hS
  suffices hgo : W p l e ({ frames := 0, cells := 0, slots := 0, locals := 0 } : Room) s m ([.ref q4, .int a1] : List Value).toArray below meth c H locs 0 0 (MQ below (va_Qi P (fun u t => va_P D vwCl (WR cI q4 q5 q6 u) t.heap) A) ([.ref q4, .int a1] : List Value).toArray s 0 0 A) (F0 m 0 ls []) by rw [eH, eL] at hgo; exact hgo
  clear eH eL
  refine lv_aload_n hx hb dX4_word_0 rfl (lv_at hl 0 rfl) ?_
  refine va_get (D := D) (ci := 4) (v := .ref q5) (C := RX4) (T := TX4) (N := 3) hx hb hts i_X4 hown hK hP 0 rfl rfl 0 (by decide) f_7 (fun _ h9 => h9) rfl dX4_word_1 ?_
  refine lv_iload_n hx hb dX4_word_4 rfl (lv_at hl 1 rfl) ?_
  refine lv_bipush (v := (7 : Int32)) hx hb dX4_word_5 (by decide) ?_
  refine lv_iand hx hb dX4_word_7 ?_
  refine va_iald hx hb hK hP 1 1 (f := (r_words u)) rfl rfl hw.1 dX4_word_8 ?_
  replace hw := hw.2
  exact rt_i (wo := (fun v => WR cI q4 q5 q6 v)) S hr hlk u hP hS hw dX4_word_9
-- X4_value
def wX4_value (a1 : Int32) (a2 : Int32) (u : SR) (P : Int32 → SR → Prop) : Prop := ((a2 = (0 : Int32) → (vp_in (a1 &&& (3 : Int32)) 8 ∧ (((a1 &&& (4 : Int32)) = (0 : Int32) → (P ((((r_words u) (a1 &&& (3 : Int32)).toNatClampNeg) >>> ((0 : Int32) &&& 31)) &&& (255 : Int32)) u)) ∧ (¬ (a1 &&& (4 : Int32)) = (0 : Int32) → (P ((((r_words u) (a1 &&& (3 : Int32)).toNatClampNeg) >>> ((8 : Int32) &&& 31)) &&& (255 : Int32)) u))))) ∧ (¬ a2 = (0 : Int32) → (vp_in (a1 &&& (7 : Int32)) 8 ∧ (P ((r_words u) (a1 &&& (7 : Int32)).toNatClampNeg) u))))
set_option maxHeartbeats 4000000 in
set_option maxRecDepth 100000 in
theorem kcX4_value (l : Launch) (D : va_G) (cB cI : ClassId) (q4 q5 q6 : Nat) (sz : Nat) (a1 : Int32) (a2 : Int32) (u : SR) (P : Int32 → SR → Prop) (hw : wX4_value a1 a2 u P) : Met l yX4_value wsX4_value ({ frames := 0, cells := 0, slots := 0, locals := 0 } : Room) (va_Pc [.ref q4, .int a1, .int a2] (Pcw D (tyA cB cI) (WR cI q4 q5 q6 u) sz Tru)) (va_Qi P (fun u t => va_P D vwCl (WR cI q4 q5 q6 u) t.heap) (va_A (WR cI q4 q5 q6 u) sz)) 0 0 (va_A (WR cI q4 q5 q6 u) sz) := by
  refine en_ (cc := cX4_value) (maxL := 3) (ret := (some .int)) (own := RX4) (lv := [(0, .ref q4), (1, .int a1), (2, .int a2)]) (Qf := fun A => va_Qi P (fun u t => va_P D vwCl (WR cI q4 q5 q6 u) t.heap) A) (by decide) rfl rfl (Nat.le_of_ble_eq_true rfl) rfl ?_
  intro p e s m below meth c A ls S hr hlk hname hsz hP hK hD hA hSub hS hE hl
  have hx := S.1
  have hb := S.2.1
  have hown := S.2.2.2.1
  have hts := S.2.2.2.2
  have i_X4 : ∀ w ∈ u_ws RX4 TX4 3, w ∈ wsX4_value := by decide +kernel
  have f_7 := hts (.fieldLink RX4 7 "MachineCore$Registers" "words" "[I") (by decide +kernel)
  unfold wX4_value at hw
  obtain ⟨H, eH⟩ : ∃ H, H = s.heap := ⟨_, rfl⟩
  obtain ⟨locs, eL⟩ : ∃ locs : List Loc, locs = [] := ⟨_, rfl⟩
  replace hP : va_P D vwCl (WR cI q4 q5 q6 u) H := by rw [eH]; exact hP
  replace hS : va_S A s.heap H locs := by rw [eH, eL]; exact hS
  suffices hgo : W p l e ({ frames := 0, cells := 0, slots := 0, locals := 0 } : Room) s m ([.ref q4, .int a1, .int a2] : List Value).toArray below meth c H locs 0 0 (MQ below (va_Qi P (fun u t => va_P D vwCl (WR cI q4 q5 q6 u) t.heap) A) ([.ref q4, .int a1, .int a2] : List Value).toArray s 0 0 A) (F0 m 0 ls []) by rw [eH, eL] at hgo; exact hgo
  clear eH eL
  refine lv_iload_n hx hb dX4_value_0 rfl (lv_at hl 2 rfl) ?_
  refine lv_if_eq (tgt := 14) hx hb dX4_value_1 (by decide) (fun c1 => ?_) (fun c1 => ?_)
  · replace hw := hw.1 c1
    refine lv_aload_n hx hb dX4_value_14 rfl (lv_at hl 0 rfl) ?_
    refine va_get (D := D) (ci := 4) (v := .ref q5) (C := RX4) (T := TX4) (N := 3) hx hb hts i_X4 hown hK hP 0 rfl rfl 0 (by decide) f_7 (fun _ h9 => h9) rfl dX4_value_15 ?_
    refine lv_iload_n hx hb dX4_value_18 rfl (lv_at hl 1 rfl) ?_
    refine lv_iconst (v := (3 : Int32)) hx hb dX4_value_19 (by decide) ?_
    refine lv_iand hx hb dX4_value_20 ?_
    refine va_iald hx hb hK hP 1 1 (f := (r_words u)) rfl rfl hw.1 dX4_value_21 ?_
    replace hw := hw.2
    refine lv_iload_n hx hb dX4_value_22 rfl (lv_at hl 1 rfl) ?_
    refine lv_iconst (v := (4 : Int32)) hx hb dX4_value_23 (by decide) ?_
    refine lv_iand hx hb dX4_value_24 ?_
    refine lv_if_ne (tgt := 32) hx hb dX4_value_25 (by decide) (fun c2 => ?_) (fun c2 => ?_)
    · replace hw := hw.2 c2
      refine lv_bipush (v := (8 : Int32)) hx hb dX4_value_32 (by decide) ?_
      refine lv_ishr hx hb dX4_value_34 ?_
      refine lv_sipush (v := (255 : Int32)) hx hb dX4_value_35 (by decide) ?_
      refine lv_iand hx hb dX4_value_38 ?_
      exact rt_i (wo := (fun v => WR cI q4 q5 q6 v)) S hr hlk u hP hS hw dX4_value_39
    · replace hw := hw.1 c2
      refine lv_iconst (v := (0 : Int32)) hx hb dX4_value_28 (by decide) ?_
      refine lv_goto (tgt := 34) hx hb dX4_value_29 (by decide) ?_
      refine lv_ishr hx hb dX4_value_34 ?_
      refine lv_sipush (v := (255 : Int32)) hx hb dX4_value_35 (by decide) ?_
      refine lv_iand hx hb dX4_value_38 ?_
      exact rt_i (wo := (fun v => WR cI q4 q5 q6 v)) S hr hlk u hP hS hw dX4_value_39
  · replace hw := hw.2 c1
    refine lv_aload_n hx hb dX4_value_4 rfl (lv_at hl 0 rfl) ?_
    refine va_get (D := D) (ci := 4) (v := .ref q5) (C := RX4) (T := TX4) (N := 3) hx hb hts i_X4 hown hK hP 0 rfl rfl 0 (by decide) f_7 (fun _ h9 => h9) rfl dX4_value_5 ?_
    refine lv_iload_n hx hb dX4_value_8 rfl (lv_at hl 1 rfl) ?_
    refine lv_bipush (v := (7 : Int32)) hx hb dX4_value_9 (by decide) ?_
    refine lv_iand hx hb dX4_value_11 ?_
    refine va_iald hx hb hK hP 1 1 (f := (r_words u)) rfl rfl hw.1 dX4_value_12 ?_
    replace hw := hw.2
    exact rt_i (wo := (fun v => WR cI q4 q5 q6 v)) S hr hlk u hP hS hw dX4_value_13
-- X4_setSegment
def wX4_setSegment (a1 : Int32) (a2 : Int32) (u : SR) (P : SR → Prop) : Prop := (vp_in (a1 &&& (3 : Int32)) 4 ∧ (P (rs_segments u (upd (r_segments u) (a1 &&& (3 : Int32)).toNatClampNeg (a2 &&& (65535 : Int32))))))
set_option maxHeartbeats 4000000 in
set_option maxRecDepth 100000 in
theorem kcX4_setSegment (l : Launch) (D : va_G) (cB cI : ClassId) (q4 q5 q6 : Nat) (sz : Nat) (a1 : Int32) (a2 : Int32) (u : SR) (P : SR → Prop) (hw : wX4_setSegment a1 a2 u P) : Met l yX4_setSegment wsX4_setSegment ({ frames := 0, cells := 0, slots := 0, locals := 0 } : Room) (va_Pc [.ref q4, .int a1, .int a2] (Pcw D (tyA cB cI) (WR cI q4 q5 q6 u) sz Tru)) (va_Qv P (fun u t => va_P D vwCl (WR cI q4 q5 q6 u) t.heap) (va_A (WR cI q4 q5 q6 u) sz)) 0 0 (va_A (WR cI q4 q5 q6 u) sz) := by
  refine en_ (cc := cX4_setSegment) (maxL := 3) (ret := none) (own := RX4) (lv := [(0, .ref q4), (1, .int a1), (2, .int a2)]) (Qf := fun A => va_Qv P (fun u t => va_P D vwCl (WR cI q4 q5 q6 u) t.heap) A) (by decide) rfl rfl (Nat.le_of_ble_eq_true rfl) rfl ?_
  intro p e s m below meth c A ls S hr hlk hname hsz hP hK hD hA hSub hS hE hl
  have hx := S.1
  have hb := S.2.1
  have hown := S.2.2.2.1
  have hts := S.2.2.2.2
  have i_X4 : ∀ w ∈ u_ws RX4 TX4 3, w ∈ wsX4_setSegment := by decide +kernel
  have f_13 := hts (.fieldLink RX4 13 "MachineCore$Registers" "segments" "[I") (by decide +kernel)
  have k_16 := hts (.constant RX4 16 (65535)) (by decide +kernel)
  unfold wX4_setSegment at hw
  obtain ⟨H, eH⟩ : ∃ H, H = s.heap := ⟨_, rfl⟩
  obtain ⟨locs, eL⟩ : ∃ locs : List Loc, locs = [] := ⟨_, rfl⟩
  replace hP : va_P D vwCl (WR cI q4 q5 q6 u) H := by rw [eH]; exact hP
  replace hS : va_S A s.heap H locs := by rw [eH, eL]; exact hS
  suffices hgo : W p l e ({ frames := 0, cells := 0, slots := 0, locals := 0 } : Room) s m ([.ref q4, .int a1, .int a2] : List Value).toArray below meth c H locs 0 0 (MQ below (va_Qv P (fun u t => va_P D vwCl (WR cI q4 q5 q6 u) t.heap) A) ([.ref q4, .int a1, .int a2] : List Value).toArray s 0 0 A) (F0 m 0 ls []) by rw [eH, eL] at hgo; exact hgo
  clear eH eL
  refine lv_aload_n hx hb dX4_setSegment_0 rfl (lv_at hl 0 rfl) ?_
  refine va_get (D := D) (ci := 4) (v := .ref q6) (C := RX4) (T := TX4) (N := 3) hx hb hts i_X4 hown hK hP 0 rfl rfl 1 (by decide) f_13 (fun _ h9 => h9) rfl dX4_setSegment_1 ?_
  refine lv_iload_n hx hb dX4_setSegment_4 rfl (lv_at hl 1 rfl) ?_
  refine lv_iconst (v := (3 : Int32)) hx hb dX4_setSegment_5 (by decide) ?_
  refine lv_iand hx hb dX4_setSegment_6 ?_
  refine lv_iload_n hx hb dX4_setSegment_7 rfl (lv_at hl 2 rfl) ?_
  refine lv_ldc (v := (65535 : Int32)) hx hb hown k_16 dX4_setSegment_8 ?_
  refine lv_iand hx hb dX4_setSegment_10 ?_
  refine va_iast hx hb hK hP hD hS 2 1 (f := (r_segments u)) rfl rfl hw.1 dX4_setSegment_11 (fun H locs hP hD hS => ?_)
  replace hw := hw.2
  replace hP : va_P D vwCl (WR cI q4 q5 q6 (rs_segments u (upd (r_segments u) (a1 &&& (3 : Int32)).toNatClampNeg (a2 &&& (65535 : Int32))))) H := hP
  replace hD : va_D A (WR cI q4 q5 q6 (rs_segments u (upd (r_segments u) (a1 &&& (3 : Int32)).toNatClampNeg (a2 &&& (65535 : Int32))))) := hD
  exact rt_v (wo := (fun v => WR cI q4 q5 q6 v)) S hr hlk (rs_segments u (upd (r_segments u) (a1 &&& (3 : Int32)).toNatClampNeg (a2 &&& (65535 : Int32)))) hP hS hw dX4_setSegment_12
-- X4_setWord
def wX4_setWord (a1 : Int32) (a2 : Int32) (u : SR) (P : SR → Prop) : Prop := (vp_in (a1 &&& (7 : Int32)) 8 ∧ (P (rs_words u (upd (r_words u) (a1 &&& (7 : Int32)).toNatClampNeg (a2 &&& (65535 : Int32))))))
set_option maxHeartbeats 4000000 in
set_option maxRecDepth 100000 in
theorem kcX4_setWord (l : Launch) (D : va_G) (cB cI : ClassId) (q4 q5 q6 : Nat) (sz : Nat) (a1 : Int32) (a2 : Int32) (u : SR) (P : SR → Prop) (hw : wX4_setWord a1 a2 u P) : Met l yX4_setWord wsX4_setWord ({ frames := 0, cells := 0, slots := 0, locals := 0 } : Room) (va_Pc [.ref q4, .int a1, .int a2] (Pcw D (tyA cB cI) (WR cI q4 q5 q6 u) sz Tru)) (va_Qv P (fun u t => va_P D vwCl (WR cI q4 q5 q6 u) t.heap) (va_A (WR cI q4 q5 q6 u) sz)) 0 0 (va_A (WR cI q4 q5 q6 u) sz) := by
  refine en_ (cc := cX4_setWord) (maxL := 3) (ret := none) (own := RX4) (lv := [(0, .ref q4), (1, .int a1), (2, .int a2)]) (Qf := fun A => va_Qv P (fun u t => va_P D vwCl (WR cI q4 q5 q6 u) t.heap) A) (by decide) rfl rfl (Nat.le_of_ble_eq_true rfl) rfl ?_
  intro p e s m below meth c A ls S hr hlk hname hsz hP hK hD hA hSub hS hE hl
  have hx := S.1
  have hb := S.2.1
  have hown := S.2.2.2.1
  have hts := S.2.2.2.2
  have i_X4 : ∀ w ∈ u_ws RX4 TX4 3, w ∈ wsX4_setWord := by decide +kernel
  have f_7 := hts (.fieldLink RX4 7 "MachineCore$Registers" "words" "[I") (by decide +kernel)
  have k_16 := hts (.constant RX4 16 (65535)) (by decide +kernel)
  unfold wX4_setWord at hw
  obtain ⟨H, eH⟩ : ∃ H, H = s.heap := ⟨_, rfl⟩
  obtain ⟨locs, eL⟩ : ∃ locs : List Loc, locs = [] := ⟨_, rfl⟩
  replace hP : va_P D vwCl (WR cI q4 q5 q6 u) H := by rw [eH]; exact hP
  replace hS : va_S A s.heap H locs := by rw [eH, eL]; exact hS
  suffices hgo : W p l e ({ frames := 0, cells := 0, slots := 0, locals := 0 } : Room) s m ([.ref q4, .int a1, .int a2] : List Value).toArray below meth c H locs 0 0 (MQ below (va_Qv P (fun u t => va_P D vwCl (WR cI q4 q5 q6 u) t.heap) A) ([.ref q4, .int a1, .int a2] : List Value).toArray s 0 0 A) (F0 m 0 ls []) by rw [eH, eL] at hgo; exact hgo
  clear eH eL
  refine lv_aload_n hx hb dX4_setWord_0 rfl (lv_at hl 0 rfl) ?_
  refine va_get (D := D) (ci := 4) (v := .ref q5) (C := RX4) (T := TX4) (N := 3) hx hb hts i_X4 hown hK hP 0 rfl rfl 0 (by decide) f_7 (fun _ h9 => h9) rfl dX4_setWord_1 ?_
  refine lv_iload_n hx hb dX4_setWord_4 rfl (lv_at hl 1 rfl) ?_
  refine lv_bipush (v := (7 : Int32)) hx hb dX4_setWord_5 (by decide) ?_
  refine lv_iand hx hb dX4_setWord_7 ?_
  refine lv_iload_n hx hb dX4_setWord_8 rfl (lv_at hl 2 rfl) ?_
  refine lv_ldc (v := (65535 : Int32)) hx hb hown k_16 dX4_setWord_9 ?_
  refine lv_iand hx hb dX4_setWord_11 ?_
  refine va_iast hx hb hK hP hD hS 1 1 (f := (r_words u)) rfl rfl hw.1 dX4_setWord_12 (fun H locs hP hD hS => ?_)
  replace hw := hw.2
  replace hP : va_P D vwCl (WR cI q4 q5 q6 (rs_words u (upd (r_words u) (a1 &&& (7 : Int32)).toNatClampNeg (a2 &&& (65535 : Int32))))) H := hP
  replace hD : va_D A (WR cI q4 q5 q6 (rs_words u (upd (r_words u) (a1 &&& (7 : Int32)).toNatClampNeg (a2 &&& (65535 : Int32))))) := hD
  exact rt_v (wo := (fun v => WR cI q4 q5 q6 v)) S hr hlk (rs_words u (upd (r_words u) (a1 &&& (7 : Int32)).toNatClampNeg (a2 &&& (65535 : Int32)))) hP hS hw dX4_setWord_13
-- X4_give
def wX4_give (a1 : Int32) (a2 : Int32) (a3 : Int32) (u : SR) (P : SR → Prop) : Prop := ((a3 = (0 : Int32) → (((a1 &&& (4 : Int32)) = (0 : Int32) → (vp_in (a1 &&& (3 : Int32)) 8 ∧ (vp_in (a1 &&& (3 : Int32)) 8 ∧ (P (rs_words u (upd (r_words u) (a1 &&& (3 : Int32)).toNatClampNeg ((((r_words u) (a1 &&& (3 : Int32)).toNatClampNeg) &&& (65280 : Int32)) ||| (a2 &&& (255 : Int32))))))))) ∧ (¬ (a1 &&& (4 : Int32)) = (0 : Int32) → (vp_in (a1 &&& (3 : Int32)) 8 ∧ (vp_in (a1 &&& (3 : Int32)) 8 ∧ (P (rs_words u (upd (r_words u) (a1 &&& (3 : Int32)).toNatClampNeg ((((r_words u) (a1 &&& (3 : Int32)).toNatClampNeg) &&& (255 : Int32)) ||| ((a2 &&& (255 : Int32)) <<< ((8 : Int32) &&& 31))))))))))) ∧ (¬ a3 = (0 : Int32) → (vp_in (a1 &&& (7 : Int32)) 8 ∧ (P (rs_words u (upd (r_words u) (a1 &&& (7 : Int32)).toNatClampNeg (a2 &&& (65535 : Int32))))))))
set_option maxHeartbeats 4000000 in
set_option maxRecDepth 100000 in
theorem kcX4_give (l : Launch) (D : va_G) (cB cI : ClassId) (q4 q5 q6 : Nat) (sz : Nat) (a1 : Int32) (a2 : Int32) (a3 : Int32) (u : SR) (P : SR → Prop) (hw : wX4_give a1 a2 a3 u P) : Met l yX4_give wsX4_give ({ frames := 0, cells := 0, slots := 0, locals := 0 } : Room) (va_Pc [.ref q4, .int a1, .int a2, .int a3] (Pcw D (tyA cB cI) (WR cI q4 q5 q6 u) sz Tru)) (va_Qv P (fun u t => va_P D vwCl (WR cI q4 q5 q6 u) t.heap) (va_A (WR cI q4 q5 q6 u) sz)) 0 0 (va_A (WR cI q4 q5 q6 u) sz) := by
  refine en_ (cc := cX4_give) (maxL := 4) (ret := none) (own := RX4) (lv := [(0, .ref q4), (1, .int a1), (2, .int a2), (3, .int a3)]) (Qf := fun A => va_Qv P (fun u t => va_P D vwCl (WR cI q4 q5 q6 u) t.heap) A) (by decide) rfl rfl (Nat.le_of_ble_eq_true rfl) rfl ?_
  intro p e s m below meth c A ls S hr hlk hname hsz hP hK hD hA hSub hS hE hl
  have hx := S.1
  have hb := S.2.1
  have hown := S.2.2.2.1
  have hts := S.2.2.2.2
  have i_X4 : ∀ w ∈ u_ws RX4 TX4 3, w ∈ wsX4_give := by decide +kernel
  have f_7 := hts (.fieldLink RX4 7 "MachineCore$Registers" "words" "[I") (by decide +kernel)
  have k_16 := hts (.constant RX4 16 (65535)) (by decide +kernel)
  have k_21 := hts (.constant RX4 21 (65280)) (by decide +kernel)
  unfold wX4_give at hw
  obtain ⟨H, eH⟩ : ∃ H, H = s.heap := ⟨_, rfl⟩
  obtain ⟨locs, eL⟩ : ∃ locs : List Loc, locs = [] := ⟨_, rfl⟩
  replace hP : va_P D vwCl (WR cI q4 q5 q6 u) H := by rw [eH]; exact hP
  replace hS : va_S A s.heap H locs := by rw [eH, eL]; exact hS
  suffices hgo : W p l e ({ frames := 0, cells := 0, slots := 0, locals := 0 } : Room) s m ([.ref q4, .int a1, .int a2, .int a3] : List Value).toArray below meth c H locs 0 0 (MQ below (va_Qv P (fun u t => va_P D vwCl (WR cI q4 q5 q6 u) t.heap) A) ([.ref q4, .int a1, .int a2, .int a3] : List Value).toArray s 0 0 A) (F0 m 0 ls []) by rw [eH, eL] at hgo; exact hgo
  clear eH eL
  refine lv_iload_n hx hb dX4_give_0 rfl (lv_at hl 3 rfl) ?_
  refine lv_if_eq (tgt := 20) hx hb dX4_give_1 (by decide) (fun c1 => ?_) (fun c1 => ?_)
  · replace hw := hw.1 c1
    refine lv_iload_n hx hb dX4_give_20 rfl (lv_at hl 1 rfl) ?_
    refine lv_iconst (v := (4 : Int32)) hx hb dX4_give_21 (by decide) ?_
    refine lv_iand hx hb dX4_give_22 ?_
    refine lv_if_ne (tgt := 54) hx hb dX4_give_23 (by decide) (fun c2 => ?_) (fun c2 => ?_)
    · replace hw := hw.2 c2
      refine lv_aload_n hx hb dX4_give_54 rfl (lv_at hl 0 rfl) ?_
      refine va_get (D := D) (ci := 4) (v := .ref q5) (C := RX4) (T := TX4) (N := 3) hx hb hts i_X4 hown hK hP 0 rfl rfl 0 (by decide) f_7 (fun _ h9 => h9) rfl dX4_give_55 ?_
      refine lv_iload_n hx hb dX4_give_58 rfl (lv_at hl 1 rfl) ?_
      refine lv_iconst (v := (3 : Int32)) hx hb dX4_give_59 (by decide) ?_
      refine lv_iand hx hb dX4_give_60 ?_
      refine lv_aload_n hx hb dX4_give_61 rfl (lv_at hl 0 rfl) ?_
      refine va_get (D := D) (ci := 4) (v := .ref q5) (C := RX4) (T := TX4) (N := 3) hx hb hts i_X4 hown hK hP 0 rfl rfl 0 (by decide) f_7 (fun _ h9 => h9) rfl dX4_give_62 ?_
      refine lv_iload_n hx hb dX4_give_65 rfl (lv_at hl 1 rfl) ?_
      refine lv_iconst (v := (3 : Int32)) hx hb dX4_give_66 (by decide) ?_
      refine lv_iand hx hb dX4_give_67 ?_
      refine va_iald hx hb hK hP 1 1 (f := (r_words u)) rfl rfl hw.1 dX4_give_68 ?_
      replace hw := hw.2
      refine lv_sipush (v := (255 : Int32)) hx hb dX4_give_69 (by decide) ?_
      refine lv_iand hx hb dX4_give_72 ?_
      refine lv_iload_n hx hb dX4_give_73 rfl (lv_at hl 2 rfl) ?_
      refine lv_sipush (v := (255 : Int32)) hx hb dX4_give_74 (by decide) ?_
      refine lv_iand hx hb dX4_give_77 ?_
      refine lv_bipush (v := (8 : Int32)) hx hb dX4_give_78 (by decide) ?_
      refine lv_ishl hx hb dX4_give_80 ?_
      refine lv_ior hx hb dX4_give_81 ?_
      refine va_iast hx hb hK hP hD hS 1 1 (f := (r_words u)) rfl rfl hw.1 dX4_give_82 (fun H locs hP hD hS => ?_)
      replace hw := hw.2
      replace hP : va_P D vwCl (WR cI q4 q5 q6 (rs_words u (upd (r_words u) (a1 &&& (3 : Int32)).toNatClampNeg ((((r_words u) (a1 &&& (3 : Int32)).toNatClampNeg) &&& (255 : Int32)) ||| ((a2 &&& (255 : Int32)) <<< ((8 : Int32) &&& 31)))))) H := hP
      replace hD : va_D A (WR cI q4 q5 q6 (rs_words u (upd (r_words u) (a1 &&& (3 : Int32)).toNatClampNeg ((((r_words u) (a1 &&& (3 : Int32)).toNatClampNeg) &&& (255 : Int32)) ||| ((a2 &&& (255 : Int32)) <<< ((8 : Int32) &&& 31)))))) := hD
      exact rt_v (wo := (fun v => WR cI q4 q5 q6 v)) S hr hlk (rs_words u (upd (r_words u) (a1 &&& (3 : Int32)).toNatClampNeg ((((r_words u) (a1 &&& (3 : Int32)).toNatClampNeg) &&& (255 : Int32)) ||| ((a2 &&& (255 : Int32)) <<< ((8 : Int32) &&& 31))))) hP hS hw dX4_give_83
    · replace hw := hw.1 c2
      refine lv_aload_n hx hb dX4_give_26 rfl (lv_at hl 0 rfl) ?_
      refine va_get (D := D) (ci := 4) (v := .ref q5) (C := RX4) (T := TX4) (N := 3) hx hb hts i_X4 hown hK hP 0 rfl rfl 0 (by decide) f_7 (fun _ h9 => h9) rfl dX4_give_27 ?_
      refine lv_iload_n hx hb dX4_give_30 rfl (lv_at hl 1 rfl) ?_
      refine lv_iconst (v := (3 : Int32)) hx hb dX4_give_31 (by decide) ?_
      refine lv_iand hx hb dX4_give_32 ?_
      refine lv_aload_n hx hb dX4_give_33 rfl (lv_at hl 0 rfl) ?_
      refine va_get (D := D) (ci := 4) (v := .ref q5) (C := RX4) (T := TX4) (N := 3) hx hb hts i_X4 hown hK hP 0 rfl rfl 0 (by decide) f_7 (fun _ h9 => h9) rfl dX4_give_34 ?_
      refine lv_iload_n hx hb dX4_give_37 rfl (lv_at hl 1 rfl) ?_
      refine lv_iconst (v := (3 : Int32)) hx hb dX4_give_38 (by decide) ?_
      refine lv_iand hx hb dX4_give_39 ?_
      refine va_iald hx hb hK hP 1 1 (f := (r_words u)) rfl rfl hw.1 dX4_give_40 ?_
      replace hw := hw.2
      refine lv_ldc (v := (65280 : Int32)) hx hb hown k_21 dX4_give_41 ?_
      refine lv_iand hx hb dX4_give_43 ?_
      refine lv_iload_n hx hb dX4_give_44 rfl (lv_at hl 2 rfl) ?_
      refine lv_sipush (v := (255 : Int32)) hx hb dX4_give_45 (by decide) ?_
      refine lv_iand hx hb dX4_give_48 ?_
      refine lv_ior hx hb dX4_give_49 ?_
      refine va_iast hx hb hK hP hD hS 1 1 (f := (r_words u)) rfl rfl hw.1 dX4_give_50 (fun H locs hP hD hS => ?_)
      replace hw := hw.2
      replace hP : va_P D vwCl (WR cI q4 q5 q6 (rs_words u (upd (r_words u) (a1 &&& (3 : Int32)).toNatClampNeg ((((r_words u) (a1 &&& (3 : Int32)).toNatClampNeg) &&& (65280 : Int32)) ||| (a2 &&& (255 : Int32)))))) H := hP
      replace hD : va_D A (WR cI q4 q5 q6 (rs_words u (upd (r_words u) (a1 &&& (3 : Int32)).toNatClampNeg ((((r_words u) (a1 &&& (3 : Int32)).toNatClampNeg) &&& (65280 : Int32)) ||| (a2 &&& (255 : Int32)))))) := hD
      refine lv_goto (tgt := 83) hx hb dX4_give_51 (by decide) ?_
      exact rt_v (wo := (fun v => WR cI q4 q5 q6 v)) S hr hlk (rs_words u (upd (r_words u) (a1 &&& (3 : Int32)).toNatClampNeg ((((r_words u) (a1 &&& (3 : Int32)).toNatClampNeg) &&& (65280 : Int32)) ||| (a2 &&& (255 : Int32))))) hP hS hw dX4_give_83
  · replace hw := hw.2 c1
    refine lv_aload_n hx hb dX4_give_4 rfl (lv_at hl 0 rfl) ?_
    refine va_get (D := D) (ci := 4) (v := .ref q5) (C := RX4) (T := TX4) (N := 3) hx hb hts i_X4 hown hK hP 0 rfl rfl 0 (by decide) f_7 (fun _ h9 => h9) rfl dX4_give_5 ?_
    refine lv_iload_n hx hb dX4_give_8 rfl (lv_at hl 1 rfl) ?_
    refine lv_bipush (v := (7 : Int32)) hx hb dX4_give_9 (by decide) ?_
    refine lv_iand hx hb dX4_give_11 ?_
    refine lv_iload_n hx hb dX4_give_12 rfl (lv_at hl 2 rfl) ?_
    refine lv_ldc (v := (65535 : Int32)) hx hb hown k_16 dX4_give_13 ?_
    refine lv_iand hx hb dX4_give_15 ?_
    refine va_iast hx hb hK hP hD hS 1 1 (f := (r_words u)) rfl rfl hw.1 dX4_give_16 (fun H locs hP hD hS => ?_)
    replace hw := hw.2
    replace hP : va_P D vwCl (WR cI q4 q5 q6 (rs_words u (upd (r_words u) (a1 &&& (7 : Int32)).toNatClampNeg (a2 &&& (65535 : Int32))))) H := hP
    replace hD : va_D A (WR cI q4 q5 q6 (rs_words u (upd (r_words u) (a1 &&& (7 : Int32)).toNatClampNeg (a2 &&& (65535 : Int32))))) := hD
    refine lv_goto (tgt := 83) hx hb dX4_give_17 (by decide) ?_
    exact rt_v (wo := (fun v => WR cI q4 q5 q6 v)) S hr hlk (rs_words u (upd (r_words u) (a1 &&& (7 : Int32)).toNatClampNeg (a2 &&& (65535 : Int32)))) hP hS hw dX4_give_83
