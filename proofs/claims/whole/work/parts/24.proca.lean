-- X3_portByte
def wX3_portByte (a1 : Int32) (u : SP) (P : Int32 → SP → Prop) : Prop := (vp_in (a1 &&& (255 : Int32)) 256 ∧ (P (((p_ports u) (a1 &&& (255 : Int32)).toNatClampNeg) &&& (255 : Int32)) u))
set_option maxHeartbeats 4000000 in
set_option maxRecDepth 100000 in
theorem kcX3_portByte (l : Launch) (D : va_G) (cB cI : ClassId) (q0 q1 q2 q3 q4 q5 q6 q7 q8 q9 : Nat) (sz : Nat) (a1 : Int32) (u : SP) (P : Int32 → SP → Prop) (hw : wX3_portByte a1 u P) : Met l yX3_portByte wsX3_portByte ({ frames := 0, cells := 0, slots := 0, locals := 0 } : Room) (va_Pc [.ref q0, .int a1] (Pcw D (tyA cB cI) (WP cB cI q0 q1 q2 q3 q4 q5 q6 q7 q8 q9 u) sz Tru)) (va_Qi P (fun u t => va_P D vwCl (WP cB cI q0 q1 q2 q3 q4 q5 q6 q7 q8 q9 u) t.heap) (va_A (WP cB cI q0 q1 q2 q3 q4 q5 q6 q7 q8 q9 u) sz)) 0 0 (va_A (WP cB cI q0 q1 q2 q3 q4 q5 q6 q7 q8 q9 u) sz) := by
  refine en_ (cc := cX3_portByte) (maxL := 2) (ret := (some .int)) (own := RX3) (lv := [(0, .ref q0), (1, .int a1)]) (Qf := fun A => va_Qi P (fun u t => va_P D vwCl (WP cB cI q0 q1 q2 q3 q4 q5 q6 q7 q8 q9 u) t.heap) A) (by decide) rfl rfl (Nat.le_of_ble_eq_true rfl) rfl ?_
  intro p e s m below meth c A ls S hr hlk hname hsz hP hK hD hA hSub hS hE hl
  have hx := S.1
  have hb := S.2.1
  have hown := S.2.2.2.1
  have hts := S.2.2.2.2
  have i_X3 : ∀ w ∈ u_ws RX3 TX3 8, w ∈ wsX3_portByte := by decide +kernel
  have f_39 := hts (.fieldLink RX3 39 "MachineCore$Processor" "ports" "[B") (by decide +kernel)
  unfold wX3_portByte at hw
  obtain ⟨H, eH⟩ : ∃ H, H = s.heap := ⟨_, rfl⟩
  obtain ⟨locs, eL⟩ : ∃ locs : List Loc, locs = [] := ⟨_, rfl⟩
  replace hP : va_P D vwCl (WP cB cI q0 q1 q2 q3 q4 q5 q6 q7 q8 q9 u) H := by rw [eH]; exact hP
  replace hS : va_S A s.heap H locs := by rw [eH, eL]; exact hS
  suffices hgo : W p l e ({ frames := 0, cells := 0, slots := 0, locals := 0 } : Room) s m ([.ref q0, .int a1] : List Value).toArray below meth c H locs 0 0 (MQ below (va_Qi P (fun u t => va_P D vwCl (WP cB cI q0 q1 q2 q3 q4 q5 q6 q7 q8 q9 u) t.heap) A) ([.ref q0, .int a1] : List Value).toArray s 0 0 A) (F0 m 0 ls []) by rw [eH, eL] at hgo; exact hgo
  clear eH eL
  refine lv_aload_n hx hb dX3_portByte_0 rfl (lv_at hl 0 rfl) ?_
  refine va_get (D := D) (ci := 3) (v := .ref q9) (C := RX3) (T := TX3) (N := 8) hx hb hts i_X3 hown hK hP 0 rfl rfl 4 (by decide) f_39 (fun _ h9 => h9) rfl dX3_portByte_1 ?_
  refine lv_iload_n hx hb dX3_portByte_4 rfl (lv_at hl 1 rfl) ?_
  refine lv_sipush (v := (255 : Int32)) hx hb dX3_portByte_5 (by decide) ?_
  refine lv_iand hx hb dX3_portByte_8 ?_
  refine va_bald hx hb hK hP 9 0 (f := (p_ports u)) rfl rfl hw.1 dX3_portByte_9 ?_
  replace hw := hw.2
  refine lv_sipush (v := (255 : Int32)) hx hb dX3_portByte_10 (by decide) ?_
  refine lv_iand hx hb dX3_portByte_13 ?_
  exact rt_i (wo := (fun v => WP cB cI q0 q1 q2 q3 q4 q5 q6 q7 q8 q9 v)) S hr hlk u hP hS hw dX3_portByte_14
-- X3_givePort
def wX3_givePort (a1 : Int32) (a2 : Int32) (u : SP) (P : SP → Prop) : Prop := (vp_in (a1 &&& (255 : Int32)) 256 ∧ (P (ps_ports u (upd (p_ports u) (a1 &&& (255 : Int32)).toNatClampNeg (vp_nar .byte (a2.toInt8.toInt32))))))
set_option maxHeartbeats 4000000 in
set_option maxRecDepth 100000 in
theorem kcX3_givePort (l : Launch) (D : va_G) (cB cI : ClassId) (q0 q1 q2 q3 q4 q5 q6 q7 q8 q9 : Nat) (sz : Nat) (a1 : Int32) (a2 : Int32) (u : SP) (P : SP → Prop) (hw : wX3_givePort a1 a2 u P) : Met l yX3_givePort wsX3_givePort ({ frames := 0, cells := 0, slots := 0, locals := 0 } : Room) (va_Pc [.ref q0, .int a1, .int a2] (Pcw D (tyA cB cI) (WP cB cI q0 q1 q2 q3 q4 q5 q6 q7 q8 q9 u) sz Tru)) (va_Qv P (fun u t => va_P D vwCl (WP cB cI q0 q1 q2 q3 q4 q5 q6 q7 q8 q9 u) t.heap) (va_A (WP cB cI q0 q1 q2 q3 q4 q5 q6 q7 q8 q9 u) sz)) 0 0 (va_A (WP cB cI q0 q1 q2 q3 q4 q5 q6 q7 q8 q9 u) sz) := by
  refine en_ (cc := cX3_givePort) (maxL := 3) (ret := none) (own := RX3) (lv := [(0, .ref q0), (1, .int a1), (2, .int a2)]) (Qf := fun A => va_Qv P (fun u t => va_P D vwCl (WP cB cI q0 q1 q2 q3 q4 q5 q6 q7 q8 q9 u) t.heap) A) (by decide) rfl rfl (Nat.le_of_ble_eq_true rfl) rfl ?_
  intro p e s m below meth c A ls S hr hlk hname hsz hP hK hD hA hSub hS hE hl
  have hx := S.1
  have hb := S.2.1
  have hown := S.2.2.2.1
  have hts := S.2.2.2.2
  have i_X3 : ∀ w ∈ u_ws RX3 TX3 8, w ∈ wsX3_givePort := by decide +kernel
  have f_39 := hts (.fieldLink RX3 39 "MachineCore$Processor" "ports" "[B") (by decide +kernel)
  unfold wX3_givePort at hw
  obtain ⟨H, eH⟩ : ∃ H, H = s.heap := ⟨_, rfl⟩
  obtain ⟨locs, eL⟩ : ∃ locs : List Loc, locs = [] := ⟨_, rfl⟩
  replace hP : va_P D vwCl (WP cB cI q0 q1 q2 q3 q4 q5 q6 q7 q8 q9 u) H := by rw [eH]; exact hP
  replace hS : va_S A s.heap H locs := by rw [eH, eL]; exact hS
  suffices hgo : W p l e ({ frames := 0, cells := 0, slots := 0, locals := 0 } : Room) s m ([.ref q0, .int a1, .int a2] : List Value).toArray below meth c H locs 0 0 (MQ below (va_Qv P (fun u t => va_P D vwCl (WP cB cI q0 q1 q2 q3 q4 q5 q6 q7 q8 q9 u) t.heap) A) ([.ref q0, .int a1, .int a2] : List Value).toArray s 0 0 A) (F0 m 0 ls []) by rw [eH, eL] at hgo; exact hgo
  clear eH eL
  refine lv_aload_n hx hb dX3_givePort_0 rfl (lv_at hl 0 rfl) ?_
  refine va_get (D := D) (ci := 3) (v := .ref q9) (C := RX3) (T := TX3) (N := 8) hx hb hts i_X3 hown hK hP 0 rfl rfl 4 (by decide) f_39 (fun _ h9 => h9) rfl dX3_givePort_1 ?_
  refine lv_iload_n hx hb dX3_givePort_4 rfl (lv_at hl 1 rfl) ?_
  refine lv_sipush (v := (255 : Int32)) hx hb dX3_givePort_5 (by decide) ?_
  refine lv_iand hx hb dX3_givePort_8 ?_
  refine lv_iload_n hx hb dX3_givePort_9 rfl (lv_at hl 2 rfl) ?_
  refine lv_i2b (v := (a2.toInt8.toInt32)) hx hb dX3_givePort_10 rfl ?_
  refine va_bast hx hb hK hP hD hS 9 0 (f := (p_ports u)) rfl rfl hw.1 dX3_givePort_11 (fun H locs hP hD hS => ?_)
  replace hw := hw.2
  replace hP : va_P D vwCl (WP cB cI q0 q1 q2 q3 q4 q5 q6 q7 q8 q9 (ps_ports u (upd (p_ports u) (a1 &&& (255 : Int32)).toNatClampNeg (vp_nar .byte (a2.toInt8.toInt32))))) H := hP
  replace hD : va_D A (WP cB cI q0 q1 q2 q3 q4 q5 q6 q7 q8 q9 (ps_ports u (upd (p_ports u) (a1 &&& (255 : Int32)).toNatClampNeg (vp_nar .byte (a2.toInt8.toInt32))))) := hD
  exact rt_v (wo := (fun v => WP cB cI q0 q1 q2 q3 q4 q5 q6 q7 q8 q9 v)) S hr hlk (ps_ports u (upd (p_ports u) (a1 &&& (255 : Int32)).toNatClampNeg (vp_nar .byte (a2.toInt8.toInt32)))) hP hS hw dX3_givePort_12
-- X3_a
def wX3_a (a1 : Int32) (u : SP) (P : Int32 → SP → Prop) : Prop := (wX4_value (0 : Int32) a1 (p_regs u) (fun r2 u1 => (P r2 (ps_regs u u1))))
set_option maxHeartbeats 4000000 in
set_option maxRecDepth 100000 in
theorem kcX3_a (l : Launch) (D : va_G) (cB cI : ClassId) (q0 q1 q2 q3 q4 q5 q6 q7 q8 q9 : Nat) (sz : Nat) (a1 : Int32) (u : SP) (P : Int32 → SP → Prop) (hw : wX3_a a1 u P) : Met l yX3_a wsX3_a ({ frames := 1, cells := 0, slots := 0, locals := 22 } : Room) (va_Pc [.ref q0, .int a1] (Pcw D (tyA cB cI) (WP cB cI q0 q1 q2 q3 q4 q5 q6 q7 q8 q9 u) sz Tru)) (va_Qi P (fun u t => va_P D vwCl (WP cB cI q0 q1 q2 q3 q4 q5 q6 q7 q8 q9 u) t.heap) (va_A (WP cB cI q0 q1 q2 q3 q4 q5 q6 q7 q8 q9 u) sz)) 0 0 (va_A (WP cB cI q0 q1 q2 q3 q4 q5 q6 q7 q8 q9 u) sz) := by
  refine en_ (cc := cX3_a) (maxL := 2) (ret := (some .int)) (own := RX3) (lv := [(0, .ref q0), (1, .int a1)]) (Qf := fun A => va_Qi P (fun u t => va_P D vwCl (WP cB cI q0 q1 q2 q3 q4 q5 q6 q7 q8 q9 u) t.heap) A) (by decide) rfl rfl (Nat.le_of_ble_eq_true rfl) rfl ?_
  intro p e s m below meth c A ls S hr hlk hname hsz hP hK hD hA hSub hS hE hl
  have hx := S.1
  have hb := S.2.1
  have hown := S.2.2.2.1
  have hts := S.2.2.2.2
  have i_X3 : ∀ w ∈ u_ws RX3 TX3 8, w ∈ wsX3_a := by decide +kernel
  have f_21 := hts (.fieldLink RX3 21 "MachineCore$Processor" "registers" "LMachineCore$Registers;") (by decide +kernel)
  unfold wX3_a at hw
  obtain ⟨H, eH⟩ : ∃ H, H = s.heap := ⟨_, rfl⟩
  obtain ⟨locs, eL⟩ : ∃ locs : List Loc, locs = [] := ⟨_, rfl⟩
  replace hP : va_P D vwCl (WP cB cI q0 q1 q2 q3 q4 q5 q6 q7 q8 q9 u) H := by rw [eH]; exact hP
  replace hS : va_S A s.heap H locs := by rw [eH, eL]; exact hS
  suffices hgo : W p l e ({ frames := 1, cells := 0, slots := 0, locals := 22 } : Room) s m ([.ref q0, .int a1] : List Value).toArray below meth c H locs 0 0 (MQ below (va_Qi P (fun u t => va_P D vwCl (WP cB cI q0 q1 q2 q3 q4 q5 q6 q7 q8 q9 u) t.heap) A) ([.ref q0, .int a1] : List Value).toArray s 0 0 A) (F0 m 0 ls []) by rw [eH, eL] at hgo; exact hgo
  clear eH eL
  refine lv_aload_n hx hb dX3_a_0 rfl (lv_at hl 0 rfl) ?_
  refine va_get (D := D) (ci := 3) (v := .ref q4) (C := RX3) (T := TX3) (N := 8) hx hb hts i_X3 hown hK hP 0 rfl rfl 1 (by decide) f_21 (fun _ h9 => h9) rfl dX3_a_1 ?_
  refine lv_iconst (v := (0 : Int32)) hx hb dX3_a_4 (by decide) ?_
  refine lv_iload_n hx hb dX3_a_5 rfl (lv_at hl 1 rfl) ?_
  refine cl_Vi (As := [.int (0 : Int32), .int a1]) (rest := []) (st := [.int a1, .int (0 : Int32), .ref q4]) S hK hA hP hD hS (fr_P_R u) (kcX4_value l D cB cI q4 q5 q6 H.size (0 : Int32) a1 (p_regs u) _ hw) (cwV 2 hts gX3_a_X4_value rfl rfl rfl (by decide +kernel) ⟨Nat.le_of_ble_eq_true rfl, Nat.le_of_ble_eq_true rfl⟩) tru_h tru_b 4 rfl rfl rfl rfl rfl hl.1 (Nat.le_of_ble_eq_true rfl) dX3_a_6 ⟨Nat.zero_le _, Nat.zero_le _⟩ (fun r2 u1 H locs hP hD hS hw => ?_)
  replace hP : va_P D vwCl (WP cB cI q0 q1 q2 q3 q4 q5 q6 q7 q8 q9 (ps_regs u u1)) H := hP
  replace hD : va_D A (WP cB cI q0 q1 q2 q3 q4 q5 q6 q7 q8 q9 (ps_regs u u1)) := hD
  exact rt_i (wo := (fun v => WP cB cI q0 q1 q2 q3 q4 q5 q6 q7 q8 q9 v)) S hr hlk (ps_regs u u1) hP hS hw dX3_a_9
-- X3_jumpFar
def wX3_jumpFar (a1 : Int32) (a2 : Int32) (u : SP) (P : SP → Prop) : Prop := (wX4_moveTo a1 (p_regs u) (fun u1 => (wX4_setSegment (1 : Int32) a2 u1 (fun u3 => (P (ps_regs u u3))))))
set_option maxHeartbeats 4000000 in
set_option maxRecDepth 100000 in
theorem kcX3_jumpFar (l : Launch) (D : va_G) (cB cI : ClassId) (q0 q1 q2 q3 q4 q5 q6 q7 q8 q9 : Nat) (sz : Nat) (a1 : Int32) (a2 : Int32) (u : SP) (P : SP → Prop) (hw : wX3_jumpFar a1 a2 u P) : Met l yX3_jumpFar wsX3_jumpFar ({ frames := 1, cells := 0, slots := 0, locals := 22 } : Room) (va_Pc [.ref q0, .int a1, .int a2] (Pcw D (tyA cB cI) (WP cB cI q0 q1 q2 q3 q4 q5 q6 q7 q8 q9 u) sz Tru)) (va_Qv P (fun u t => va_P D vwCl (WP cB cI q0 q1 q2 q3 q4 q5 q6 q7 q8 q9 u) t.heap) (va_A (WP cB cI q0 q1 q2 q3 q4 q5 q6 q7 q8 q9 u) sz)) 0 0 (va_A (WP cB cI q0 q1 q2 q3 q4 q5 q6 q7 q8 q9 u) sz) := by
  refine en_ (cc := cX3_jumpFar) (maxL := 3) (ret := none) (own := RX3) (lv := [(0, .ref q0), (1, .int a1), (2, .int a2)]) (Qf := fun A => va_Qv P (fun u t => va_P D vwCl (WP cB cI q0 q1 q2 q3 q4 q5 q6 q7 q8 q9 u) t.heap) A) (by decide) rfl rfl (Nat.le_of_ble_eq_true rfl) rfl ?_
  intro p e s m below meth c A ls S hr hlk hname hsz hP hK hD hA hSub hS hE hl
  have hx := S.1
  have hb := S.2.1
  have hown := S.2.2.2.1
  have hts := S.2.2.2.2
  have i_X3 : ∀ w ∈ u_ws RX3 TX3 8, w ∈ wsX3_jumpFar := by decide +kernel
  have f_21 := hts (.fieldLink RX3 21 "MachineCore$Processor" "registers" "LMachineCore$Registers;") (by decide +kernel)
  unfold wX3_jumpFar at hw
  obtain ⟨H, eH⟩ : ∃ H, H = s.heap := ⟨_, rfl⟩
  obtain ⟨locs, eL⟩ : ∃ locs : List Loc, locs = [] := ⟨_, rfl⟩
  replace hP : va_P D vwCl (WP cB cI q0 q1 q2 q3 q4 q5 q6 q7 q8 q9 u) H := by rw [eH]; exact hP
  replace hS : va_S A s.heap H locs := by rw [eH, eL]; exact hS
  suffices hgo : W p l e ({ frames := 1, cells := 0, slots := 0, locals := 22 } : Room) s m ([.ref q0, .int a1, .int a2] : List Value).toArray below meth c H locs 0 0 (MQ below (va_Qv P (fun u t => va_P D vwCl (WP cB cI q0 q1 q2 q3 q4 q5 q6 q7 q8 q9 u) t.heap) A) ([.ref q0, .int a1, .int a2] : List Value).toArray s 0 0 A) (F0 m 0 ls []) by rw [eH, eL] at hgo; exact hgo
  clear eH eL
  refine lv_aload_n hx hb dX3_jumpFar_0 rfl (lv_at hl 0 rfl) ?_
  refine va_get (D := D) (ci := 3) (v := .ref q4) (C := RX3) (T := TX3) (N := 8) hx hb hts i_X3 hown hK hP 0 rfl rfl 1 (by decide) f_21 (fun _ h9 => h9) rfl dX3_jumpFar_1 ?_
  refine lv_iload_n hx hb dX3_jumpFar_4 rfl (lv_at hl 1 rfl) ?_
  refine cl_Vv (As := [.int a1]) (rest := []) (st := [.int a1, .ref q4]) S hK hA hP hD hS (fr_P_R u) (kcX4_moveTo l D cB cI q4 q5 q6 H.size a1 (p_regs u) _ hw) (cwV 1 hts gX3_jumpFar_X4_moveTo rfl rfl rfl (by decide +kernel) ⟨Nat.le_of_ble_eq_true rfl, Nat.le_of_ble_eq_true rfl⟩) tru_h tru_b 4 rfl rfl rfl rfl rfl hl.1 (Nat.le_of_ble_eq_true rfl) dX3_jumpFar_5 ⟨Nat.zero_le _, Nat.zero_le _⟩ (fun u1 H locs hP hD hS hw => ?_)
  replace hP : va_P D vwCl (WP cB cI q0 q1 q2 q3 q4 q5 q6 q7 q8 q9 (ps_regs u u1)) H := hP
  replace hD : va_D A (WP cB cI q0 q1 q2 q3 q4 q5 q6 q7 q8 q9 (ps_regs u u1)) := hD
  refine lv_aload_n hx hb dX3_jumpFar_8 rfl (lv_at hl 0 rfl) ?_
  refine va_get (D := D) (ci := 3) (v := .ref q4) (C := RX3) (T := TX3) (N := 8) hx hb hts i_X3 hown hK hP 0 rfl rfl 1 (by decide) f_21 (fun _ h9 => h9) rfl dX3_jumpFar_9 ?_
  refine lv_iconst (v := (1 : Int32)) hx hb dX3_jumpFar_12 (by decide) ?_
  refine lv_iload_n hx hb dX3_jumpFar_13 rfl (lv_at hl 2 rfl) ?_
  refine cl_Vv (As := [.int (1 : Int32), .int a2]) (rest := []) (st := [.int a2, .int (1 : Int32), .ref q4]) S hK hA hP hD hS (fr_P_R (ps_regs u u1)) (kcX4_setSegment l D cB cI q4 q5 q6 H.size (1 : Int32) a2 u1 _ hw) (cwV 2 hts gX3_jumpFar_X4_setSegment rfl rfl rfl (by decide +kernel) ⟨Nat.le_of_ble_eq_true rfl, Nat.le_of_ble_eq_true rfl⟩) tru_h tru_b 4 rfl rfl rfl rfl rfl hl.1 (Nat.le_of_ble_eq_true rfl) dX3_jumpFar_14 ⟨Nat.zero_le _, Nat.zero_le _⟩ (fun u3 H locs hP hD hS hw => ?_)
  replace hP : va_P D vwCl (WP cB cI q0 q1 q2 q3 q4 q5 q6 q7 q8 q9 (ps_regs u u3)) H := hP
  replace hD : va_D A (WP cB cI q0 q1 q2 q3 q4 q5 q6 q7 q8 q9 (ps_regs u u3)) := hD
  exact rt_v (wo := (fun v => WP cB cI q0 q1 q2 q3 q4 q5 q6 q7 q8 q9 v)) S hr hlk (ps_regs u u3) hP hS hw dX3_jumpFar_17
-- X3_push
def wX3_push (a1 : Int32) (u : SP) (P : SP → Prop) : Prop := (wX4_word (4 : Int32) (p_regs u) (fun r2 u1 => (wX4_setWord (4 : Int32) (r2 - (2 : Int32)) u1 (fun u3 => (wX4_segment (2 : Int32) u3 (fun r6 u5 => (wX4_word (4 : Int32) u5 (fun r8 u7 => (wX2_store r6 r8 a1 (1 : Int32) (p_mem u) (fun u9 => (P (ps_regs (ps_mem u u9) u7))))))))))))
set_option maxHeartbeats 4000000 in
set_option maxRecDepth 100000 in
theorem kcX3_push (l : Launch) (D : va_G) (cB cI : ClassId) (q0 q1 q2 q3 q4 q5 q6 q7 q8 q9 : Nat) (sz : Nat) (a1 : Int32) (u : SP) (P : SP → Prop) (hw : wX3_push a1 u P) : Met l yX3_push wsX3_push ({ frames := 2, cells := 0, slots := 0, locals := 47 } : Room) (va_Pc [.ref q0, .int a1] (Pcw D (tyA cB cI) (WP cB cI q0 q1 q2 q3 q4 q5 q6 q7 q8 q9 u) sz Tru)) (va_Qv P (fun u t => va_P D vwCl (WP cB cI q0 q1 q2 q3 q4 q5 q6 q7 q8 q9 u) t.heap) (va_A (WP cB cI q0 q1 q2 q3 q4 q5 q6 q7 q8 q9 u) sz)) 0 0 (va_A (WP cB cI q0 q1 q2 q3 q4 q5 q6 q7 q8 q9 u) sz) := by
  refine en_ (cc := cX3_push) (maxL := 2) (ret := none) (own := RX3) (lv := [(0, .ref q0), (1, .int a1)]) (Qf := fun A => va_Qv P (fun u t => va_P D vwCl (WP cB cI q0 q1 q2 q3 q4 q5 q6 q7 q8 q9 u) t.heap) A) (by decide) rfl rfl (Nat.le_of_ble_eq_true rfl) rfl ?_
  intro p e s m below meth c A ls S hr hlk hname hsz hP hK hD hA hSub hS hE hl
  have hx := S.1
  have hb := S.2.1
  have hown := S.2.2.2.1
  have hts := S.2.2.2.2
  have i_X3 : ∀ w ∈ u_ws RX3 TX3 8, w ∈ wsX3_push := by decide +kernel
  have f_12 := hts (.fieldLink RX3 12 "MachineCore$Processor" "memory" "LMachineCore$Memory;") (by decide +kernel)
  have f_21 := hts (.fieldLink RX3 21 "MachineCore$Processor" "registers" "LMachineCore$Registers;") (by decide +kernel)
  unfold wX3_push at hw
  obtain ⟨H, eH⟩ : ∃ H, H = s.heap := ⟨_, rfl⟩
  obtain ⟨locs, eL⟩ : ∃ locs : List Loc, locs = [] := ⟨_, rfl⟩
  replace hP : va_P D vwCl (WP cB cI q0 q1 q2 q3 q4 q5 q6 q7 q8 q9 u) H := by rw [eH]; exact hP
  replace hS : va_S A s.heap H locs := by rw [eH, eL]; exact hS
  suffices hgo : W p l e ({ frames := 2, cells := 0, slots := 0, locals := 47 } : Room) s m ([.ref q0, .int a1] : List Value).toArray below meth c H locs 0 0 (MQ below (va_Qv P (fun u t => va_P D vwCl (WP cB cI q0 q1 q2 q3 q4 q5 q6 q7 q8 q9 u) t.heap) A) ([.ref q0, .int a1] : List Value).toArray s 0 0 A) (F0 m 0 ls []) by rw [eH, eL] at hgo; exact hgo
  clear eH eL
  refine lv_aload_n hx hb dX3_push_0 rfl (lv_at hl 0 rfl) ?_
  refine va_get (D := D) (ci := 3) (v := .ref q4) (C := RX3) (T := TX3) (N := 8) hx hb hts i_X3 hown hK hP 0 rfl rfl 1 (by decide) f_21 (fun _ h9 => h9) rfl dX3_push_1 ?_
  refine lv_iconst (v := (4 : Int32)) hx hb dX3_push_4 (by decide) ?_
  refine lv_aload_n hx hb dX3_push_5 rfl (lv_at hl 0 rfl) ?_
  refine va_get (D := D) (ci := 3) (v := .ref q4) (C := RX3) (T := TX3) (N := 8) hx hb hts i_X3 hown hK hP 0 rfl rfl 1 (by decide) f_21 (fun _ h9 => h9) rfl dX3_push_6 ?_
  refine lv_iconst (v := (4 : Int32)) hx hb dX3_push_9 (by decide) ?_
  refine cl_Vi (As := [.int (4 : Int32)]) (rest := [.int (4 : Int32), .ref q4]) (st := [.int (4 : Int32), .ref q4, .int (4 : Int32), .ref q4]) S hK hA hP hD hS (fr_P_R u) (kcX4_word l D cB cI q4 q5 q6 H.size (4 : Int32) (p_regs u) _ hw) (cwV 1 hts gX3_push_X4_word rfl rfl rfl (by decide +kernel) ⟨Nat.le_of_ble_eq_true rfl, Nat.le_of_ble_eq_true rfl⟩) tru_h tru_b 4 rfl rfl rfl rfl rfl hl.1 (Nat.le_of_ble_eq_true rfl) dX3_push_10 ⟨Nat.zero_le _, Nat.zero_le _⟩ (fun r2 u1 H locs hP hD hS hw => ?_)
  replace hP : va_P D vwCl (WP cB cI q0 q1 q2 q3 q4 q5 q6 q7 q8 q9 (ps_regs u u1)) H := hP
  replace hD : va_D A (WP cB cI q0 q1 q2 q3 q4 q5 q6 q7 q8 q9 (ps_regs u u1)) := hD
  refine lv_iconst (v := (2 : Int32)) hx hb dX3_push_13 (by decide) ?_
  refine lv_isub hx hb dX3_push_14 ?_
  refine cl_Vv (As := [.int (4 : Int32), .int (r2 - (2 : Int32))]) (rest := []) (st := [.int (r2 - (2 : Int32)), .int (4 : Int32), .ref q4]) S hK hA hP hD hS (fr_P_R (ps_regs u u1)) (kcX4_setWord l D cB cI q4 q5 q6 H.size (4 : Int32) (r2 - (2 : Int32)) u1 _ hw) (cwV 2 hts gX3_push_X4_setWord rfl rfl rfl (by decide +kernel) ⟨Nat.le_of_ble_eq_true rfl, Nat.le_of_ble_eq_true rfl⟩) tru_h tru_b 4 rfl rfl rfl rfl rfl hl.1 (Nat.le_of_ble_eq_true rfl) dX3_push_15 ⟨Nat.zero_le _, Nat.zero_le _⟩ (fun u3 H locs hP hD hS hw => ?_)
  replace hP : va_P D vwCl (WP cB cI q0 q1 q2 q3 q4 q5 q6 q7 q8 q9 (ps_regs u u3)) H := hP
  replace hD : va_D A (WP cB cI q0 q1 q2 q3 q4 q5 q6 q7 q8 q9 (ps_regs u u3)) := hD
  refine lv_aload_n hx hb dX3_push_18 rfl (lv_at hl 0 rfl) ?_
  refine va_get (D := D) (ci := 3) (v := .ref q1) (C := RX3) (T := TX3) (N := 8) hx hb hts i_X3 hown hK hP 0 rfl rfl 0 (by decide) f_12 (fun _ h9 => h9) rfl dX3_push_19 ?_
  refine lv_aload_n hx hb dX3_push_22 rfl (lv_at hl 0 rfl) ?_
  refine va_get (D := D) (ci := 3) (v := .ref q4) (C := RX3) (T := TX3) (N := 8) hx hb hts i_X3 hown hK hP 0 rfl rfl 1 (by decide) f_21 (fun _ h9 => h9) rfl dX3_push_23 ?_
  refine lv_iconst (v := (2 : Int32)) hx hb dX3_push_26 (by decide) ?_
  refine cl_Vi (As := [.int (2 : Int32)]) (rest := [.ref q1]) (st := [.int (2 : Int32), .ref q4, .ref q1]) S hK hA hP hD hS (fr_P_R (ps_regs u u3)) (kcX4_segment l D cB cI q4 q5 q6 H.size (2 : Int32) u3 _ hw) (cwV 1 hts gX3_push_X4_segment rfl rfl rfl (by decide +kernel) ⟨Nat.le_of_ble_eq_true rfl, Nat.le_of_ble_eq_true rfl⟩) tru_h tru_b 4 rfl rfl rfl rfl rfl hl.1 (Nat.le_of_ble_eq_true rfl) dX3_push_27 ⟨Nat.zero_le _, Nat.zero_le _⟩ (fun r6 u5 H locs hP hD hS hw => ?_)
  replace hP : va_P D vwCl (WP cB cI q0 q1 q2 q3 q4 q5 q6 q7 q8 q9 (ps_regs u u5)) H := hP
  replace hD : va_D A (WP cB cI q0 q1 q2 q3 q4 q5 q6 q7 q8 q9 (ps_regs u u5)) := hD
  refine lv_aload_n hx hb dX3_push_30 rfl (lv_at hl 0 rfl) ?_
  refine va_get (D := D) (ci := 3) (v := .ref q4) (C := RX3) (T := TX3) (N := 8) hx hb hts i_X3 hown hK hP 0 rfl rfl 1 (by decide) f_21 (fun _ h9 => h9) rfl dX3_push_31 ?_
  refine lv_iconst (v := (4 : Int32)) hx hb dX3_push_34 (by decide) ?_
  refine cl_Vi (As := [.int (4 : Int32)]) (rest := [.int r6, .ref q1]) (st := [.int (4 : Int32), .ref q4, .int r6, .ref q1]) S hK hA hP hD hS (fr_P_R (ps_regs u u5)) (kcX4_word l D cB cI q4 q5 q6 H.size (4 : Int32) u5 _ hw) (cwV 1 hts gX3_push_X4_word rfl rfl rfl (by decide +kernel) ⟨Nat.le_of_ble_eq_true rfl, Nat.le_of_ble_eq_true rfl⟩) tru_h tru_b 4 rfl rfl rfl rfl rfl hl.1 (Nat.le_of_ble_eq_true rfl) dX3_push_35 ⟨Nat.zero_le _, Nat.zero_le _⟩ (fun r8 u7 H locs hP hD hS hw => ?_)
  replace hP : va_P D vwCl (WP cB cI q0 q1 q2 q3 q4 q5 q6 q7 q8 q9 (ps_regs u u7)) H := hP
  replace hD : va_D A (WP cB cI q0 q1 q2 q3 q4 q5 q6 q7 q8 q9 (ps_regs u u7)) := hD
  refine lv_iload_n hx hb dX3_push_38 rfl (lv_at hl 1 rfl) ?_
  refine lv_iconst (v := (1 : Int32)) hx hb dX3_push_39 (by decide) ?_
  refine cl_Vv (As := [.int r6, .int r8, .int a1, .int (1 : Int32)]) (rest := []) (st := [.int (1 : Int32), .int a1, .int r8, .int r6, .ref q1]) S hK hA hP hD hS (fr_P_M (ps_regs u u7)) (kcX2_store l D cB cI q1 q2 q3 H.size r6 r8 a1 (1 : Int32) (p_mem u) _ hw) (cwV 4 hts gX3_push_X2_store rfl rfl rfl (by decide +kernel) ⟨Nat.le_of_ble_eq_true rfl, Nat.le_of_ble_eq_true rfl⟩) tru_h tru_b 1 rfl rfl rfl rfl rfl hl.1 (Nat.le_of_ble_eq_true rfl) dX3_push_40 ⟨Nat.zero_le _, Nat.zero_le _⟩ (fun u9 H locs hP hD hS hw => ?_)
  replace hP : va_P D vwCl (WP cB cI q0 q1 q2 q3 q4 q5 q6 q7 q8 q9 (ps_regs (ps_mem u u9) u7)) H := hP
  replace hD : va_D A (WP cB cI q0 q1 q2 q3 q4 q5 q6 q7 q8 q9 (ps_regs (ps_mem u u9) u7)) := hD
  exact rt_v (wo := (fun v => WP cB cI q0 q1 q2 q3 q4 q5 q6 q7 q8 q9 v)) S hr hlk (ps_regs (ps_mem u u9) u7) hP hS hw dX3_push_43
-- X3_callFar
def wX3_callFar (a1 : Int32) (a2 : Int32) (u : SP) (P : SP → Prop) : Prop := (wX4_segment (1 : Int32) (p_regs u) (fun r2 u1 => (wX3_push r2 (ps_regs u u1) (fun u3 => (wX3_push (r_ip (p_regs u3)) u3 (fun u5 => (wX3_jumpFar a1 a2 u5 (fun u7 => (P u7)))))))))
set_option maxHeartbeats 4000000 in
set_option maxRecDepth 100000 in
theorem kcX3_callFar (l : Launch) (D : va_G) (cB cI : ClassId) (q0 q1 q2 q3 q4 q5 q6 q7 q8 q9 : Nat) (sz : Nat) (a1 : Int32) (a2 : Int32) (u : SP) (P : SP → Prop) (hw : wX3_callFar a1 a2 u P) : Met l yX3_callFar wsX3_callFar ({ frames := 3, cells := 0, slots := 0, locals := 68 } : Room) (va_Pc [.ref q0, .int a1, .int a2] (Pcw D (tyA cB cI) (WP cB cI q0 q1 q2 q3 q4 q5 q6 q7 q8 q9 u) sz Tru)) (va_Qv P (fun u t => va_P D vwCl (WP cB cI q0 q1 q2 q3 q4 q5 q6 q7 q8 q9 u) t.heap) (va_A (WP cB cI q0 q1 q2 q3 q4 q5 q6 q7 q8 q9 u) sz)) 0 0 (va_A (WP cB cI q0 q1 q2 q3 q4 q5 q6 q7 q8 q9 u) sz) := by
  refine en_ (cc := cX3_callFar) (maxL := 3) (ret := none) (own := RX3) (lv := [(0, .ref q0), (1, .int a1), (2, .int a2)]) (Qf := fun A => va_Qv P (fun u t => va_P D vwCl (WP cB cI q0 q1 q2 q3 q4 q5 q6 q7 q8 q9 u) t.heap) A) (by decide) rfl rfl (Nat.le_of_ble_eq_true rfl) rfl ?_
  intro p e s m below meth c A ls S hr hlk hname hsz hP hK hD hA hSub hS hE hl
  have hx := S.1
  have hb := S.2.1
  have hown := S.2.2.2.1
  have hts := S.2.2.2.2
  have i_X3 : ∀ w ∈ u_ws RX3 TX3 8, w ∈ wsX3_callFar := by decide +kernel
  have i_X4 : ∀ w ∈ u_ws RX4 TX4 3, w ∈ wsX3_callFar := by decide +kernel
  have f_21 := hts (.fieldLink RX3 21 "MachineCore$Processor" "registers" "LMachineCore$Registers;") (by decide +kernel)
  have f_121 := hts (.fieldLink RX3 121 "MachineCore$Registers" "ip" "I") (by decide +kernel)
  unfold wX3_callFar at hw
  obtain ⟨H, eH⟩ : ∃ H, H = s.heap := ⟨_, rfl⟩
  obtain ⟨locs, eL⟩ : ∃ locs : List Loc, locs = [] := ⟨_, rfl⟩
  replace hP : va_P D vwCl (WP cB cI q0 q1 q2 q3 q4 q5 q6 q7 q8 q9 u) H := by rw [eH]; exact hP
  replace hS : va_S A s.heap H locs := by rw [eH, eL]; exact hS
  suffices hgo : W p l e ({ frames := 3, cells := 0, slots := 0, locals := 68 } : Room) s m ([.ref q0, .int a1, .int a2] : List Value).toArray below meth c H locs 0 0 (MQ below (va_Qv P (fun u t => va_P D vwCl (WP cB cI q0 q1 q2 q3 q4 q5 q6 q7 q8 q9 u) t.heap) A) ([.ref q0, .int a1, .int a2] : List Value).toArray s 0 0 A) (F0 m 0 ls []) by rw [eH, eL] at hgo; exact hgo
  clear eH eL
  refine lv_aload_n hx hb dX3_callFar_0 rfl (lv_at hl 0 rfl) ?_
  refine lv_aload_n hx hb dX3_callFar_1 rfl (lv_at hl 0 rfl) ?_
  refine va_get (D := D) (ci := 3) (v := .ref q4) (C := RX3) (T := TX3) (N := 8) hx hb hts i_X3 hown hK hP 0 rfl rfl 1 (by decide) f_21 (fun _ h9 => h9) rfl dX3_callFar_2 ?_
  refine lv_iconst (v := (1 : Int32)) hx hb dX3_callFar_5 (by decide) ?_
  refine cl_Vi (As := [.int (1 : Int32)]) (rest := [.ref q0]) (st := [.int (1 : Int32), .ref q4, .ref q0]) S hK hA hP hD hS (fr_P_R u) (kcX4_segment l D cB cI q4 q5 q6 H.size (1 : Int32) (p_regs u) _ hw) (cwV 1 hts gX3_callFar_X4_segment rfl rfl rfl (by decide +kernel) ⟨Nat.le_of_ble_eq_true rfl, Nat.le_of_ble_eq_true rfl⟩) tru_h tru_b 4 rfl rfl rfl rfl rfl hl.1 (Nat.le_of_ble_eq_true rfl) dX3_callFar_6 ⟨Nat.zero_le _, Nat.zero_le _⟩ (fun r2 u1 H locs hP hD hS hw => ?_)
  replace hP : va_P D vwCl (WP cB cI q0 q1 q2 q3 q4 q5 q6 q7 q8 q9 (ps_regs u u1)) H := hP
  replace hD : va_D A (WP cB cI q0 q1 q2 q3 q4 q5 q6 q7 q8 q9 (ps_regs u u1)) := hD
  refine cl_Vv (As := [.int r2]) (rest := []) (st := [.int r2, .ref q0]) S hK hA hP hD hS (fr_P (ps_regs u u1)) (kcX3_push l D cB cI q0 q1 q2 q3 q4 q5 q6 q7 q8 q9 H.size r2 (ps_regs u u1) _ hw) (cwV 1 hts gX3_callFar_X3_push rfl rfl rfl (by decide +kernel) ⟨Nat.le_of_ble_eq_true rfl, Nat.le_of_ble_eq_true rfl⟩) tru_h tru_b 0 rfl rfl rfl rfl rfl hl.1 (Nat.le_of_ble_eq_true rfl) dX3_callFar_9 ⟨Nat.zero_le _, Nat.zero_le _⟩ (fun u3 H locs hP hD hS hw => ?_)
  replace hP : va_P D vwCl (WP cB cI q0 q1 q2 q3 q4 q5 q6 q7 q8 q9 u3) H := hP
  replace hD : va_D A (WP cB cI q0 q1 q2 q3 q4 q5 q6 q7 q8 q9 u3) := hD
  refine lv_aload_n hx hb dX3_callFar_12 rfl (lv_at hl 0 rfl) ?_
  refine lv_aload_n hx hb dX3_callFar_13 rfl (lv_at hl 0 rfl) ?_
  refine va_get (D := D) (ci := 3) (v := .ref q4) (C := RX3) (T := TX3) (N := 8) hx hb hts i_X3 hown hK hP 0 rfl rfl 1 (by decide) f_21 (fun _ h9 => h9) rfl dX3_callFar_14 ?_
  refine va_get (D := D) (ci := 4) (v := .int (r_ip (p_regs u3))) (C := RX4) (T := TX4) (N := 3) hx hb hts i_X4 hown hK hP 4 rfl rfl 2 (by decide) f_121 (fun _ h9 => h9) rfl dX3_callFar_17 ?_
  refine cl_Vv (As := [.int (r_ip (p_regs u3))]) (rest := []) (st := [.int (r_ip (p_regs u3)), .ref q0]) S hK hA hP hD hS (fr_P u3) (kcX3_push l D cB cI q0 q1 q2 q3 q4 q5 q6 q7 q8 q9 H.size (r_ip (p_regs u3)) u3 _ hw) (cwV 1 hts gX3_callFar_X3_push rfl rfl rfl (by decide +kernel) ⟨Nat.le_of_ble_eq_true rfl, Nat.le_of_ble_eq_true rfl⟩) tru_h tru_b 0 rfl rfl rfl rfl rfl hl.1 (Nat.le_of_ble_eq_true rfl) dX3_callFar_20 ⟨Nat.zero_le _, Nat.zero_le _⟩ (fun u5 H locs hP hD hS hw => ?_)
  replace hP : va_P D vwCl (WP cB cI q0 q1 q2 q3 q4 q5 q6 q7 q8 q9 u5) H := hP
  replace hD : va_D A (WP cB cI q0 q1 q2 q3 q4 q5 q6 q7 q8 q9 u5) := hD
  refine lv_aload_n hx hb dX3_callFar_23 rfl (lv_at hl 0 rfl) ?_
  refine lv_iload_n hx hb dX3_callFar_24 rfl (lv_at hl 1 rfl) ?_
  refine lv_iload_n hx hb dX3_callFar_25 rfl (lv_at hl 2 rfl) ?_
  refine cl_Vv (As := [.int a1, .int a2]) (rest := []) (st := [.int a2, .int a1, .ref q0]) S hK hA hP hD hS (fr_P u5) (kcX3_jumpFar l D cB cI q0 q1 q2 q3 q4 q5 q6 q7 q8 q9 H.size a1 a2 u5 _ hw) (cwV 2 hts gX3_callFar_X3_jumpFar rfl rfl rfl (by decide +kernel) ⟨Nat.le_of_ble_eq_true rfl, Nat.le_of_ble_eq_true rfl⟩) tru_h tru_b 0 rfl rfl rfl rfl rfl hl.1 (Nat.le_of_ble_eq_true rfl) dX3_callFar_26 ⟨Nat.zero_le _, Nat.zero_le _⟩ (fun u7 H locs hP hD hS hw => ?_)
  replace hP : va_P D vwCl (WP cB cI q0 q1 q2 q3 q4 q5 q6 q7 q8 q9 u7) H := hP
  replace hD : va_D A (WP cB cI q0 q1 q2 q3 q4 q5 q6 q7 q8 q9 u7) := hD
  exact rt_v (wo := (fun v => WP cB cI q0 q1 q2 q3 q4 q5 q6 q7 q8 q9 v)) S hr hlk u7 hP hS hw dX3_callFar_29
-- X3_giveA
def wX3_giveA (a1 : Int32) (a2 : Int32) (u : SP) (P : SP → Prop) : Prop := (wX4_give (0 : Int32) a1 a2 (p_regs u) (fun u1 => (P (ps_regs u u1))))
set_option maxHeartbeats 4000000 in
set_option maxRecDepth 100000 in
theorem kcX3_giveA (l : Launch) (D : va_G) (cB cI : ClassId) (q0 q1 q2 q3 q4 q5 q6 q7 q8 q9 : Nat) (sz : Nat) (a1 : Int32) (a2 : Int32) (u : SP) (P : SP → Prop) (hw : wX3_giveA a1 a2 u P) : Met l yX3_giveA wsX3_giveA ({ frames := 1, cells := 0, slots := 0, locals := 23 } : Room) (va_Pc [.ref q0, .int a1, .int a2] (Pcw D (tyA cB cI) (WP cB cI q0 q1 q2 q3 q4 q5 q6 q7 q8 q9 u) sz Tru)) (va_Qv P (fun u t => va_P D vwCl (WP cB cI q0 q1 q2 q3 q4 q5 q6 q7 q8 q9 u) t.heap) (va_A (WP cB cI q0 q1 q2 q3 q4 q5 q6 q7 q8 q9 u) sz)) 0 0 (va_A (WP cB cI q0 q1 q2 q3 q4 q5 q6 q7 q8 q9 u) sz) := by
  refine en_ (cc := cX3_giveA) (maxL := 3) (ret := none) (own := RX3) (lv := [(0, .ref q0), (1, .int a1), (2, .int a2)]) (Qf := fun A => va_Qv P (fun u t => va_P D vwCl (WP cB cI q0 q1 q2 q3 q4 q5 q6 q7 q8 q9 u) t.heap) A) (by decide) rfl rfl (Nat.le_of_ble_eq_true rfl) rfl ?_
  intro p e s m below meth c A ls S hr hlk hname hsz hP hK hD hA hSub hS hE hl
  have hx := S.1
  have hb := S.2.1
  have hown := S.2.2.2.1
  have hts := S.2.2.2.2
  have i_X3 : ∀ w ∈ u_ws RX3 TX3 8, w ∈ wsX3_giveA := by decide +kernel
  have f_21 := hts (.fieldLink RX3 21 "MachineCore$Processor" "registers" "LMachineCore$Registers;") (by decide +kernel)
  unfold wX3_giveA at hw
  obtain ⟨H, eH⟩ : ∃ H, H = s.heap := ⟨_, rfl⟩
  obtain ⟨locs, eL⟩ : ∃ locs : List Loc, locs = [] := ⟨_, rfl⟩
  replace hP : va_P D vwCl (WP cB cI q0 q1 q2 q3 q4 q5 q6 q7 q8 q9 u) H := by rw [eH]; exact hP
  replace hS : va_S A s.heap H locs := by rw [eH, eL]; exact hS
  suffices hgo : W p l e ({ frames := 1, cells := 0, slots := 0, locals := 23 } : Room) s m ([.ref q0, .int a1, .int a2] : List Value).toArray below meth c H locs 0 0 (MQ below (va_Qv P (fun u t => va_P D vwCl (WP cB cI q0 q1 q2 q3 q4 q5 q6 q7 q8 q9 u) t.heap) A) ([.ref q0, .int a1, .int a2] : List Value).toArray s 0 0 A) (F0 m 0 ls []) by rw [eH, eL] at hgo; exact hgo
  clear eH eL
  refine lv_aload_n hx hb dX3_giveA_0 rfl (lv_at hl 0 rfl) ?_
  refine va_get (D := D) (ci := 3) (v := .ref q4) (C := RX3) (T := TX3) (N := 8) hx hb hts i_X3 hown hK hP 0 rfl rfl 1 (by decide) f_21 (fun _ h9 => h9) rfl dX3_giveA_1 ?_
  refine lv_iconst (v := (0 : Int32)) hx hb dX3_giveA_4 (by decide) ?_
  refine lv_iload_n hx hb dX3_giveA_5 rfl (lv_at hl 1 rfl) ?_
  refine lv_iload_n hx hb dX3_giveA_6 rfl (lv_at hl 2 rfl) ?_
  refine cl_Vv (As := [.int (0 : Int32), .int a1, .int a2]) (rest := []) (st := [.int a2, .int a1, .int (0 : Int32), .ref q4]) S hK hA hP hD hS (fr_P_R u) (kcX4_give l D cB cI q4 q5 q6 H.size (0 : Int32) a1 a2 (p_regs u) _ hw) (cwV 3 hts gX3_giveA_X4_give rfl rfl rfl (by decide +kernel) ⟨Nat.le_of_ble_eq_true rfl, Nat.le_of_ble_eq_true rfl⟩) tru_h tru_b 4 rfl rfl rfl rfl rfl hl.1 (Nat.le_of_ble_eq_true rfl) dX3_giveA_7 ⟨Nat.zero_le _, Nat.zero_le _⟩ (fun u1 H locs hP hD hS hw => ?_)
  replace hP : va_P D vwCl (WP cB cI q0 q1 q2 q3 q4 q5 q6 q7 q8 q9 (ps_regs u u1)) H := hP
  replace hD : va_D A (WP cB cI q0 q1 q2 q3 q4 q5 q6 q7 q8 q9 (ps_regs u u1)) := hD
  exact rt_v (wo := (fun v => WP cB cI q0 q1 q2 q3 q4 q5 q6 q7 q8 q9 v)) S hr hlk (ps_regs u u1) hP hS hw dX3_giveA_10
-- X3_exchangeA
def wX3_exchangeA (a1 : Int32) (u : SP) (P : SP → Prop) : Prop := (wX3_a (1 : Int32) u (fun r2 u1 => (wX4_word a1 (p_regs u1) (fun r4 u3 => (wX3_giveA r4 (1 : Int32) (ps_regs u1 u3) (fun u5 => (wX4_setWord a1 r2 (p_regs u5) (fun u7 => (P (ps_regs u5 u7))))))))))
set_option maxHeartbeats 4000000 in
set_option maxRecDepth 100000 in
theorem kcX3_exchangeA (l : Launch) (D : va_G) (cB cI : ClassId) (q0 q1 q2 q3 q4 q5 q6 q7 q8 q9 : Nat) (sz : Nat) (a1 : Int32) (u : SP) (P : SP → Prop) (hw : wX3_exchangeA a1 u P) : Met l yX3_exchangeA wsX3_exchangeA ({ frames := 2, cells := 0, slots := 0, locals := 45 } : Room) (va_Pc [.ref q0, .int a1] (Pcw D (tyA cB cI) (WP cB cI q0 q1 q2 q3 q4 q5 q6 q7 q8 q9 u) sz Tru)) (va_Qv P (fun u t => va_P D vwCl (WP cB cI q0 q1 q2 q3 q4 q5 q6 q7 q8 q9 u) t.heap) (va_A (WP cB cI q0 q1 q2 q3 q4 q5 q6 q7 q8 q9 u) sz)) 0 0 (va_A (WP cB cI q0 q1 q2 q3 q4 q5 q6 q7 q8 q9 u) sz) := by
  refine en_ (cc := cX3_exchangeA) (maxL := 3) (ret := none) (own := RX3) (lv := [(0, .ref q0), (1, .int a1)]) (Qf := fun A => va_Qv P (fun u t => va_P D vwCl (WP cB cI q0 q1 q2 q3 q4 q5 q6 q7 q8 q9 u) t.heap) A) (by decide) rfl rfl (Nat.le_of_ble_eq_true rfl) rfl ?_
  intro p e s m below meth c A ls S hr hlk hname hsz hP hK hD hA hSub hS hE hl
  have hx := S.1
  have hb := S.2.1
  have hown := S.2.2.2.1
  have hts := S.2.2.2.2
  have i_X3 : ∀ w ∈ u_ws RX3 TX3 8, w ∈ wsX3_exchangeA := by decide +kernel
  have f_21 := hts (.fieldLink RX3 21 "MachineCore$Processor" "registers" "LMachineCore$Registers;") (by decide +kernel)
  unfold wX3_exchangeA at hw
  obtain ⟨H, eH⟩ : ∃ H, H = s.heap := ⟨_, rfl⟩
  obtain ⟨locs, eL⟩ : ∃ locs : List Loc, locs = [] := ⟨_, rfl⟩
  replace hP : va_P D vwCl (WP cB cI q0 q1 q2 q3 q4 q5 q6 q7 q8 q9 u) H := by rw [eH]; exact hP
  replace hS : va_S A s.heap H locs := by rw [eH, eL]; exact hS
  suffices hgo : W p l e ({ frames := 2, cells := 0, slots := 0, locals := 45 } : Room) s m ([.ref q0, .int a1] : List Value).toArray below meth c H locs 0 0 (MQ below (va_Qv P (fun u t => va_P D vwCl (WP cB cI q0 q1 q2 q3 q4 q5 q6 q7 q8 q9 u) t.heap) A) ([.ref q0, .int a1] : List Value).toArray s 0 0 A) (F0 m 0 ls []) by rw [eH, eL] at hgo; exact hgo
  clear eH eL
  refine lv_aload_n hx hb dX3_exchangeA_0 rfl (lv_at hl 0 rfl) ?_
  refine lv_iconst (v := (1 : Int32)) hx hb dX3_exchangeA_1 (by decide) ?_
  refine cl_Vi (As := [.int (1 : Int32)]) (rest := []) (st := [.int (1 : Int32), .ref q0]) S hK hA hP hD hS (fr_P u) (kcX3_a l D cB cI q0 q1 q2 q3 q4 q5 q6 q7 q8 q9 H.size (1 : Int32) u _ hw) (cwV 1 hts gX3_exchangeA_X3_a rfl rfl rfl (by decide +kernel) ⟨Nat.le_of_ble_eq_true rfl, Nat.le_of_ble_eq_true rfl⟩) tru_h tru_b 0 rfl rfl rfl rfl rfl hl.1 (Nat.le_of_ble_eq_true rfl) dX3_exchangeA_2 ⟨Nat.zero_le _, Nat.zero_le _⟩ (fun r2 u1 H locs hP hD hS hw => ?_)
  replace hP : va_P D vwCl (WP cB cI q0 q1 q2 q3 q4 q5 q6 q7 q8 q9 u1) H := hP
  replace hD : va_D A (WP cB cI q0 q1 q2 q3 q4 q5 q6 q7 q8 q9 u1) := hD
  refine lv_istore_n (lv' := [(2, .int r2), (0, .ref q0), (1, .int a1)]) hx hb dX3_exchangeA_5 rfl hl (by decide) rfl (fun ls hl => ?_)
  refine lv_aload_n hx hb dX3_exchangeA_6 rfl (lv_at hl 1 rfl) ?_
  refine lv_aload_n hx hb dX3_exchangeA_7 rfl (lv_at hl 1 rfl) ?_
  refine va_get (D := D) (ci := 3) (v := .ref q4) (C := RX3) (T := TX3) (N := 8) hx hb hts i_X3 hown hK hP 0 rfl rfl 1 (by decide) f_21 (fun _ h9 => h9) rfl dX3_exchangeA_8 ?_
  refine lv_iload_n hx hb dX3_exchangeA_11 rfl (lv_at hl 2 rfl) ?_
  refine cl_Vi (As := [.int a1]) (rest := [.ref q0]) (st := [.int a1, .ref q4, .ref q0]) S hK hA hP hD hS (fr_P_R u1) (kcX4_word l D cB cI q4 q5 q6 H.size a1 (p_regs u1) _ hw) (cwV 1 hts gX3_exchangeA_X4_word rfl rfl rfl (by decide +kernel) ⟨Nat.le_of_ble_eq_true rfl, Nat.le_of_ble_eq_true rfl⟩) tru_h tru_b 4 rfl rfl rfl rfl rfl hl.1 (Nat.le_of_ble_eq_true rfl) dX3_exchangeA_12 ⟨Nat.zero_le _, Nat.zero_le _⟩ (fun r4 u3 H locs hP hD hS hw => ?_)
  replace hP : va_P D vwCl (WP cB cI q0 q1 q2 q3 q4 q5 q6 q7 q8 q9 (ps_regs u1 u3)) H := hP
  replace hD : va_D A (WP cB cI q0 q1 q2 q3 q4 q5 q6 q7 q8 q9 (ps_regs u1 u3)) := hD
  refine lv_iconst (v := (1 : Int32)) hx hb dX3_exchangeA_15 (by decide) ?_
  refine cl_Vv (As := [.int r4, .int (1 : Int32)]) (rest := []) (st := [.int (1 : Int32), .int r4, .ref q0]) S hK hA hP hD hS (fr_P (ps_regs u1 u3)) (kcX3_giveA l D cB cI q0 q1 q2 q3 q4 q5 q6 q7 q8 q9 H.size r4 (1 : Int32) (ps_regs u1 u3) _ hw) (cwV 2 hts gX3_exchangeA_X3_giveA rfl rfl rfl (by decide +kernel) ⟨Nat.le_of_ble_eq_true rfl, Nat.le_of_ble_eq_true rfl⟩) tru_h tru_b 0 rfl rfl rfl rfl rfl hl.1 (Nat.le_of_ble_eq_true rfl) dX3_exchangeA_16 ⟨Nat.zero_le _, Nat.zero_le _⟩ (fun u5 H locs hP hD hS hw => ?_)
  replace hP : va_P D vwCl (WP cB cI q0 q1 q2 q3 q4 q5 q6 q7 q8 q9 u5) H := hP
  replace hD : va_D A (WP cB cI q0 q1 q2 q3 q4 q5 q6 q7 q8 q9 u5) := hD
  refine lv_aload_n hx hb dX3_exchangeA_19 rfl (lv_at hl 1 rfl) ?_
  refine va_get (D := D) (ci := 3) (v := .ref q4) (C := RX3) (T := TX3) (N := 8) hx hb hts i_X3 hown hK hP 0 rfl rfl 1 (by decide) f_21 (fun _ h9 => h9) rfl dX3_exchangeA_20 ?_
  refine lv_iload_n hx hb dX3_exchangeA_23 rfl (lv_at hl 2 rfl) ?_
  refine lv_iload_n hx hb dX3_exchangeA_24 rfl (lv_at hl 0 rfl) ?_
  refine cl_Vv (As := [.int a1, .int r2]) (rest := []) (st := [.int r2, .int a1, .ref q4]) S hK hA hP hD hS (fr_P_R u5) (kcX4_setWord l D cB cI q4 q5 q6 H.size a1 r2 (p_regs u5) _ hw) (cwV 2 hts gX3_exchangeA_X4_setWord rfl rfl rfl (by decide +kernel) ⟨Nat.le_of_ble_eq_true rfl, Nat.le_of_ble_eq_true rfl⟩) tru_h tru_b 4 rfl rfl rfl rfl rfl hl.1 (Nat.le_of_ble_eq_true rfl) dX3_exchangeA_25 ⟨Nat.zero_le _, Nat.zero_le _⟩ (fun u7 H locs hP hD hS hw => ?_)
  replace hP : va_P D vwCl (WP cB cI q0 q1 q2 q3 q4 q5 q6 q7 q8 q9 (ps_regs u5 u7)) H := hP
  replace hD : va_D A (WP cB cI q0 q1 q2 q3 q4 q5 q6 q7 q8 q9 (ps_regs u5 u7)) := hD
  exact rt_v (wo := (fun v => WP cB cI q0 q1 q2 q3 q4 q5 q6 q7 q8 q9 v)) S hr hlk (ps_regs u5 u7) hP hS hw dX3_exchangeA_28
-- X3_pop
def wX3_pop  (u : SP) (P : Int32 → SP → Prop) : Prop := (wX4_word (4 : Int32) (p_regs u) (fun r2 u1 => (wX4_setWord (4 : Int32) (r2 + (2 : Int32)) u1 (fun u3 => (wX4_segment (2 : Int32) u3 (fun r6 u5 => (wX2_load r6 r2 (1 : Int32) (p_mem u) (fun r8 u7 => (P r8 (ps_regs (ps_mem u u7) u5))))))))))
set_option maxHeartbeats 4000000 in
set_option maxRecDepth 100000 in
theorem kcX3_pop (l : Launch) (D : va_G) (cB cI : ClassId) (q0 q1 q2 q3 q4 q5 q6 q7 q8 q9 : Nat) (sz : Nat)  (u : SP) (P : Int32 → SP → Prop) (hw : wX3_pop  u P) : Met l yX3_pop wsX3_pop ({ frames := 2, cells := 0, slots := 0, locals := 46 } : Room) (va_Pc [.ref q0] (Pcw D (tyA cB cI) (WP cB cI q0 q1 q2 q3 q4 q5 q6 q7 q8 q9 u) sz Tru)) (va_Qi P (fun u t => va_P D vwCl (WP cB cI q0 q1 q2 q3 q4 q5 q6 q7 q8 q9 u) t.heap) (va_A (WP cB cI q0 q1 q2 q3 q4 q5 q6 q7 q8 q9 u) sz)) 0 0 (va_A (WP cB cI q0 q1 q2 q3 q4 q5 q6 q7 q8 q9 u) sz) := by
  refine en_ (cc := cX3_pop) (maxL := 2) (ret := (some .int)) (own := RX3) (lv := [(0, .ref q0)]) (Qf := fun A => va_Qi P (fun u t => va_P D vwCl (WP cB cI q0 q1 q2 q3 q4 q5 q6 q7 q8 q9 u) t.heap) A) (by decide) rfl rfl (Nat.le_of_ble_eq_true rfl) rfl ?_
  intro p e s m below meth c A ls S hr hlk hname hsz hP hK hD hA hSub hS hE hl
  have hx := S.1
  have hb := S.2.1
  have hown := S.2.2.2.1
  have hts := S.2.2.2.2
  have i_X3 : ∀ w ∈ u_ws RX3 TX3 8, w ∈ wsX3_pop := by decide +kernel
  have f_12 := hts (.fieldLink RX3 12 "MachineCore$Processor" "memory" "LMachineCore$Memory;") (by decide +kernel)
  have f_21 := hts (.fieldLink RX3 21 "MachineCore$Processor" "registers" "LMachineCore$Registers;") (by decide +kernel)
  unfold wX3_pop at hw
  obtain ⟨H, eH⟩ : ∃ H, H = s.heap := ⟨_, rfl⟩
  obtain ⟨locs, eL⟩ : ∃ locs : List Loc, locs = [] := ⟨_, rfl⟩
  replace hP : va_P D vwCl (WP cB cI q0 q1 q2 q3 q4 q5 q6 q7 q8 q9 u) H := by rw [eH]; exact hP
  replace hS : va_S A s.heap H locs := by rw [eH, eL]; exact hS
  suffices hgo : W p l e ({ frames := 2, cells := 0, slots := 0, locals := 46 } : Room) s m ([.ref q0] : List Value).toArray below meth c H locs 0 0 (MQ below (va_Qi P (fun u t => va_P D vwCl (WP cB cI q0 q1 q2 q3 q4 q5 q6 q7 q8 q9 u) t.heap) A) ([.ref q0] : List Value).toArray s 0 0 A) (F0 m 0 ls []) by rw [eH, eL] at hgo; exact hgo
  clear eH eL
  refine lv_aload_n hx hb dX3_pop_0 rfl (lv_at hl 0 rfl) ?_
  refine va_get (D := D) (ci := 3) (v := .ref q4) (C := RX3) (T := TX3) (N := 8) hx hb hts i_X3 hown hK hP 0 rfl rfl 1 (by decide) f_21 (fun _ h9 => h9) rfl dX3_pop_1 ?_
  refine lv_iconst (v := (4 : Int32)) hx hb dX3_pop_4 (by decide) ?_
  refine cl_Vi (As := [.int (4 : Int32)]) (rest := []) (st := [.int (4 : Int32), .ref q4]) S hK hA hP hD hS (fr_P_R u) (kcX4_word l D cB cI q4 q5 q6 H.size (4 : Int32) (p_regs u) _ hw) (cwV 1 hts gX3_pop_X4_word rfl rfl rfl (by decide +kernel) ⟨Nat.le_of_ble_eq_true rfl, Nat.le_of_ble_eq_true rfl⟩) tru_h tru_b 4 rfl rfl rfl rfl rfl hl.1 (Nat.le_of_ble_eq_true rfl) dX3_pop_5 ⟨Nat.zero_le _, Nat.zero_le _⟩ (fun r2 u1 H locs hP hD hS hw => ?_)
  replace hP : va_P D vwCl (WP cB cI q0 q1 q2 q3 q4 q5 q6 q7 q8 q9 (ps_regs u u1)) H := hP
  replace hD : va_D A (WP cB cI q0 q1 q2 q3 q4 q5 q6 q7 q8 q9 (ps_regs u u1)) := hD
  refine lv_istore_n (lv' := [(1, .int r2), (0, .ref q0)]) hx hb dX3_pop_8 rfl hl (by decide) rfl (fun ls hl => ?_)
  refine lv_aload_n hx hb dX3_pop_9 rfl (lv_at hl 1 rfl) ?_
  refine va_get (D := D) (ci := 3) (v := .ref q4) (C := RX3) (T := TX3) (N := 8) hx hb hts i_X3 hown hK hP 0 rfl rfl 1 (by decide) f_21 (fun _ h9 => h9) rfl dX3_pop_10 ?_
  refine lv_iconst (v := (4 : Int32)) hx hb dX3_pop_13 (by decide) ?_
  refine lv_iload_n hx hb dX3_pop_14 rfl (lv_at hl 0 rfl) ?_
  refine lv_iconst (v := (2 : Int32)) hx hb dX3_pop_15 (by decide) ?_
  refine lv_iadd hx hb dX3_pop_16 ?_
  refine cl_Vv (As := [.int (4 : Int32), .int (r2 + (2 : Int32))]) (rest := []) (st := [.int (r2 + (2 : Int32)), .int (4 : Int32), .ref q4]) S hK hA hP hD hS (fr_P_R (ps_regs u u1)) (kcX4_setWord l D cB cI q4 q5 q6 H.size (4 : Int32) (r2 + (2 : Int32)) u1 _ hw) (cwV 2 hts gX3_pop_X4_setWord rfl rfl rfl (by decide +kernel) ⟨Nat.le_of_ble_eq_true rfl, Nat.le_of_ble_eq_true rfl⟩) tru_h tru_b 4 rfl rfl rfl rfl rfl hl.1 (Nat.le_of_ble_eq_true rfl) dX3_pop_17 ⟨Nat.zero_le _, Nat.zero_le _⟩ (fun u3 H locs hP hD hS hw => ?_)
  replace hP : va_P D vwCl (WP cB cI q0 q1 q2 q3 q4 q5 q6 q7 q8 q9 (ps_regs u u3)) H := hP
  replace hD : va_D A (WP cB cI q0 q1 q2 q3 q4 q5 q6 q7 q8 q9 (ps_regs u u3)) := hD
  refine lv_aload_n hx hb dX3_pop_20 rfl (lv_at hl 1 rfl) ?_
  refine va_get (D := D) (ci := 3) (v := .ref q1) (C := RX3) (T := TX3) (N := 8) hx hb hts i_X3 hown hK hP 0 rfl rfl 0 (by decide) f_12 (fun _ h9 => h9) rfl dX3_pop_21 ?_
  refine lv_aload_n hx hb dX3_pop_24 rfl (lv_at hl 1 rfl) ?_
  refine va_get (D := D) (ci := 3) (v := .ref q4) (C := RX3) (T := TX3) (N := 8) hx hb hts i_X3 hown hK hP 0 rfl rfl 1 (by decide) f_21 (fun _ h9 => h9) rfl dX3_pop_25 ?_
  refine lv_iconst (v := (2 : Int32)) hx hb dX3_pop_28 (by decide) ?_
  refine cl_Vi (As := [.int (2 : Int32)]) (rest := [.ref q1]) (st := [.int (2 : Int32), .ref q4, .ref q1]) S hK hA hP hD hS (fr_P_R (ps_regs u u3)) (kcX4_segment l D cB cI q4 q5 q6 H.size (2 : Int32) u3 _ hw) (cwV 1 hts gX3_pop_X4_segment rfl rfl rfl (by decide +kernel) ⟨Nat.le_of_ble_eq_true rfl, Nat.le_of_ble_eq_true rfl⟩) tru_h tru_b 4 rfl rfl rfl rfl rfl hl.1 (Nat.le_of_ble_eq_true rfl) dX3_pop_29 ⟨Nat.zero_le _, Nat.zero_le _⟩ (fun r6 u5 H locs hP hD hS hw => ?_)
  replace hP : va_P D vwCl (WP cB cI q0 q1 q2 q3 q4 q5 q6 q7 q8 q9 (ps_regs u u5)) H := hP
  replace hD : va_D A (WP cB cI q0 q1 q2 q3 q4 q5 q6 q7 q8 q9 (ps_regs u u5)) := hD
  refine lv_iload_n hx hb dX3_pop_32 rfl (lv_at hl 0 rfl) ?_
  refine lv_iconst (v := (1 : Int32)) hx hb dX3_pop_33 (by decide) ?_
  refine cl_Vi (As := [.int r6, .int r2, .int (1 : Int32)]) (rest := []) (st := [.int (1 : Int32), .int r2, .int r6, .ref q1]) S hK hA hP hD hS (fr_P_M (ps_regs u u5)) (kcX2_load l D cB cI q1 q2 q3 H.size r6 r2 (1 : Int32) (p_mem u) _ hw) (cwV 3 hts gX3_pop_X2_load rfl rfl rfl (by decide +kernel) ⟨Nat.le_of_ble_eq_true rfl, Nat.le_of_ble_eq_true rfl⟩) tru_h tru_b 1 rfl rfl rfl rfl rfl hl.1 (Nat.le_of_ble_eq_true rfl) dX3_pop_34 ⟨Nat.zero_le _, Nat.zero_le _⟩ (fun r8 u7 H locs hP hD hS hw => ?_)
  replace hP : va_P D vwCl (WP cB cI q0 q1 q2 q3 q4 q5 q6 q7 q8 q9 (ps_regs (ps_mem u u7) u5)) H := hP
  replace hD : va_D A (WP cB cI q0 q1 q2 q3 q4 q5 q6 q7 q8 q9 (ps_regs (ps_mem u u7) u5)) := hD
  exact rt_i (wo := (fun v => WP cB cI q0 q1 q2 q3 q4 q5 q6 q7 q8 q9 v)) S hr hlk (ps_regs (ps_mem u u7) u5) hP hS hw dX3_pop_37
-- X3_pushedFlags
def wX3_pushedFlags  (u : SP) (P : Int32 → SP → Prop) : Prop := (P ((p_flags u) ||| (61442 : Int32)) u)
set_option maxHeartbeats 4000000 in
set_option maxRecDepth 100000 in
theorem kcX3_pushedFlags (l : Launch) (D : va_G) (cB cI : ClassId) (q0 q1 q2 q3 q4 q5 q6 q7 q8 q9 : Nat) (sz : Nat)  (u : SP) (P : Int32 → SP → Prop) (hw : wX3_pushedFlags  u P) : Met l yX3_pushedFlags wsX3_pushedFlags ({ frames := 0, cells := 0, slots := 0, locals := 0 } : Room) (va_Pc [.ref q0] (Pcw D (tyA cB cI) (WP cB cI q0 q1 q2 q3 q4 q5 q6 q7 q8 q9 u) sz Tru)) (va_Qi P (fun u t => va_P D vwCl (WP cB cI q0 q1 q2 q3 q4 q5 q6 q7 q8 q9 u) t.heap) (va_A (WP cB cI q0 q1 q2 q3 q4 q5 q6 q7 q8 q9 u) sz)) 0 0 (va_A (WP cB cI q0 q1 q2 q3 q4 q5 q6 q7 q8 q9 u) sz) := by
  refine en_ (cc := cX3_pushedFlags) (maxL := 1) (ret := (some .int)) (own := RX3) (lv := [(0, .ref q0)]) (Qf := fun A => va_Qi P (fun u t => va_P D vwCl (WP cB cI q0 q1 q2 q3 q4 q5 q6 q7 q8 q9 u) t.heap) A) (by decide) rfl rfl (Nat.le_of_ble_eq_true rfl) rfl ?_
  intro p e s m below meth c A ls S hr hlk hname hsz hP hK hD hA hSub hS hE hl
  have hx := S.1
  have hb := S.2.1
  have hown := S.2.2.2.1
  have hts := S.2.2.2.2
  have i_X0 : ∀ w ∈ u_ws RX0 TX0 1, w ∈ wsX3_pushedFlags := by decide +kernel
  have i_X3 : ∀ w ∈ u_ws RX3 TX3 8, w ∈ wsX3_pushedFlags := by decide +kernel
  have f_28 := hts (.fieldLink RX3 28 "MachineCore$Processor" "arithmetic" "LMachineCore$Arithmetic;") (by decide +kernel)
  have f_135 := hts (.fieldLink RX3 135 "MachineCore$Arithmetic" "flags" "I") (by decide +kernel)
  have k_138 := hts (.constant RX3 138 (61442)) (by decide +kernel)
  unfold wX3_pushedFlags at hw
  obtain ⟨H, eH⟩ : ∃ H, H = s.heap := ⟨_, rfl⟩
  obtain ⟨locs, eL⟩ : ∃ locs : List Loc, locs = [] := ⟨_, rfl⟩
  replace hP : va_P D vwCl (WP cB cI q0 q1 q2 q3 q4 q5 q6 q7 q8 q9 u) H := by rw [eH]; exact hP
  replace hS : va_S A s.heap H locs := by rw [eH, eL]; exact hS
  suffices hgo : W p l e ({ frames := 0, cells := 0, slots := 0, locals := 0 } : Room) s m ([.ref q0] : List Value).toArray below meth c H locs 0 0 (MQ below (va_Qi P (fun u t => va_P D vwCl (WP cB cI q0 q1 q2 q3 q4 q5 q6 q7 q8 q9 u) t.heap) A) ([.ref q0] : List Value).toArray s 0 0 A) (F0 m 0 ls []) by rw [eH, eL] at hgo; exact hgo
  clear eH eL
  refine lv_aload_n hx hb dX3_pushedFlags_0 rfl (lv_at hl 0 rfl) ?_
  refine va_get (D := D) (ci := 3) (v := .ref q7) (C := RX3) (T := TX3) (N := 8) hx hb hts i_X3 hown hK hP 0 rfl rfl 2 (by decide) f_28 (fun _ h9 => h9) rfl dX3_pushedFlags_1 ?_
  refine va_get (D := D) (ci := 0) (v := .int (p_flags u)) (C := RX0) (T := TX0) (N := 1) hx hb hts i_X0 hown hK hP 7 rfl rfl 0 (by decide) f_135 (fun _ h9 => h9) rfl dX3_pushedFlags_4 ?_
  refine lv_ldc (v := (61442 : Int32)) hx hb hown k_138 dX3_pushedFlags_7 ?_
  refine lv_ior hx hb dX3_pushedFlags_9 ?_
  exact rt_i (wo := (fun v => WP cB cI q0 q1 q2 q3 q4 q5 q6 q7 q8 q9 v)) S hr hlk u hP hS hw dX3_pushedFlags_10
-- X3_exchangeAndFlagCodes
def wX3_exchangeAndFlagCodes  (u : SP) (P : SP → Prop) : Prop := (((c_number (p_code u)) = (152 : Int32) → (wX3_a (0 : Int32) u (fun r3 u2 => (wX0_signed r3 (0 : Int32) () (fun r5 u4 => (wX3_giveA r5 (1 : Int32) u2 (fun u6 => (P u6)))))))) ∧ (¬ (c_number (p_code u)) = (152 : Int32) → (((c_number (p_code u)) = (153 : Int32) → (wX3_a (1 : Int32) u (fun r10 u9 => (wX0_signed r10 (1 : Int32) () (fun r12 u11 => (wX4_setWord (2 : Int32) (r12 >>> ((16 : Int32) &&& 31)) (p_regs u9) (fun u13 => (P (ps_regs u9 u13))))))))) ∧ (¬ (c_number (p_code u)) = (153 : Int32) → (((c_number (p_code u)) = (154 : Int32) → (wX3_callFar (c_first (p_code u)) (c_second (p_code u)) u (fun u16 => (P u16)))) ∧ (¬ (c_number (p_code u)) = (154 : Int32) → (((c_number (p_code u)) = (155 : Int32) → (P u)) ∧ (¬ (c_number (p_code u)) = (155 : Int32) → (((c_number (p_code u)) = (156 : Int32) → (wX3_pushedFlags  u (fun r21 u20 => (wX3_push r21 u20 (fun u22 => (P u22)))))) ∧ (¬ (c_number (p_code u)) = (156 : Int32) → (((c_number (p_code u)) = (157 : Int32) → (wX3_pop  u (fun r26 u25 => (wX0_keep r26 (p_flags u25) (fun u27 => (P (ps_flags u25 u27))))))) ∧ (¬ (c_number (p_code u)) = (157 : Int32) → (((c_number (p_code u)) = (158 : Int32) → (wX4_value (4 : Int32) (0 : Int32) (p_regs u) (fun r31 u30 => (wX0_keep (((p_flags u) &&& (65280 : Int32)) ||| r31) (p_flags u) (fun u32 => (P (ps_flags (ps_regs u u30) u32))))))) ∧ (¬ (c_number (p_code u)) = (158 : Int32) → (((c_number (p_code u)) = (159 : Int32) → (wX4_give (4 : Int32) ((p_flags u) ||| (2 : Int32)) (0 : Int32) (p_regs u) (fun u35 => (P (ps_regs u u35))))) ∧ (¬ (c_number (p_code u)) = (159 : Int32) → (wX3_exchangeA ((c_number (p_code u)) &&& (7 : Int32)) u (fun u37 => (P u37)))))))))))))))))))
set_option maxHeartbeats 4000000 in
set_option maxRecDepth 100000 in
theorem kcX3_exchangeAndFlagCodes (l : Launch) (D : va_G) (cB cI : ClassId) (q0 q1 q2 q3 q4 q5 q6 q7 q8 q9 : Nat) (sz : Nat)  (u : SP) (P : SP → Prop) (hw : wX3_exchangeAndFlagCodes  u P) : Met l yX3_exchangeAndFlagCodes wsX3_exchangeAndFlagCodes ({ frames := 4, cells := 0, slots := 0, locals := 90 } : Room) (va_Pc [.ref q0] (Pcw D (tyA cB cI) (WP cB cI q0 q1 q2 q3 q4 q5 q6 q7 q8 q9 u) sz Tru)) (va_Qv P (fun u t => va_P D vwCl (WP cB cI q0 q1 q2 q3 q4 q5 q6 q7 q8 q9 u) t.heap) (va_A (WP cB cI q0 q1 q2 q3 q4 q5 q6 q7 q8 q9 u) sz)) 0 0 (va_A (WP cB cI q0 q1 q2 q3 q4 q5 q6 q7 q8 q9 u) sz) := by
  refine en_ (cc := cX3_exchangeAndFlagCodes) (maxL := 1) (ret := none) (own := RX3) (lv := [(0, .ref q0)]) (Qf := fun A => va_Qv P (fun u t => va_P D vwCl (WP cB cI q0 q1 q2 q3 q4 q5 q6 q7 q8 q9 u) t.heap) A) (by decide) rfl rfl (Nat.le_of_ble_eq_true rfl) rfl ?_
  intro p e s m below meth c A ls S hr hlk hname hsz hP hK hD hA hSub hS hE hl
  have hx := S.1
  have hb := S.2.1
  have hown := S.2.2.2.1
  have hts := S.2.2.2.2
  have i_X0 : ∀ w ∈ u_ws RX0 TX0 1, w ∈ wsX3_exchangeAndFlagCodes := by decide +kernel
  have i_X1 : ∀ w ∈ u_ws RX1 TX1 12, w ∈ wsX3_exchangeAndFlagCodes := by decide +kernel
  have i_X3 : ∀ w ∈ u_ws RX3 TX3 8, w ∈ wsX3_exchangeAndFlagCodes := by decide +kernel
  have f_21 := hts (.fieldLink RX3 21 "MachineCore$Processor" "registers" "LMachineCore$Registers;") (by decide +kernel)
  have f_28 := hts (.fieldLink RX3 28 "MachineCore$Processor" "arithmetic" "LMachineCore$Arithmetic;") (by decide +kernel)
  have f_35 := hts (.fieldLink RX3 35 "MachineCore$Processor" "code" "LMachineCore$Code;") (by decide +kernel)
  have f_47 := hts (.fieldLink RX3 47 "MachineCore$Code" "number" "I") (by decide +kernel)
  have f_83 := hts (.fieldLink RX3 83 "MachineCore$Code" "first" "I") (by decide +kernel)
  have f_135 := hts (.fieldLink RX3 135 "MachineCore$Arithmetic" "flags" "I") (by decide +kernel)
  have f_221 := hts (.fieldLink RX3 221 "MachineCore$Code" "second" "I") (by decide +kernel)
  have k_230 := hts (.constant RX3 230 (65280)) (by decide +kernel)
  unfold wX3_exchangeAndFlagCodes at hw
  obtain ⟨H, eH⟩ : ∃ H, H = s.heap := ⟨_, rfl⟩
  obtain ⟨locs, eL⟩ : ∃ locs : List Loc, locs = [] := ⟨_, rfl⟩
  replace hP : va_P D vwCl (WP cB cI q0 q1 q2 q3 q4 q5 q6 q7 q8 q9 u) H := by rw [eH]; exact hP
  replace hS : va_S A s.heap H locs := by rw [eH, eL]; exact hS
  suffices hgo : W p l e ({ frames := 4, cells := 0, slots := 0, locals := 90 } : Room) s m ([.ref q0] : List Value).toArray below meth c H locs 0 0 (MQ below (va_Qv P (fun u t => va_P D vwCl (WP cB cI q0 q1 q2 q3 q4 q5 q6 q7 q8 q9 u) t.heap) A) ([.ref q0] : List Value).toArray s 0 0 A) (F0 m 0 ls []) by rw [eH, eL] at hgo; exact hgo
  clear eH eL
  refine lv_aload_n hx hb dX3_exchangeAndFlagCodes_0 rfl (lv_at hl 0 rfl) ?_
  refine va_get (D := D) (ci := 3) (v := .ref q8) (C := RX3) (T := TX3) (N := 8) hx hb hts i_X3 hown hK hP 0 rfl rfl 3 (by decide) f_35 (fun _ h9 => h9) rfl dX3_exchangeAndFlagCodes_1 ?_
  refine va_get (D := D) (ci := 1) (v := .int (c_number (p_code u))) (C := RX1) (T := TX1) (N := 12) hx hb hts i_X1 hown hK hP 8 rfl rfl 1 (by decide) f_47 (fun _ h9 => h9) rfl dX3_exchangeAndFlagCodes_4 ?_
  by_cases c1 : (c_number (p_code u)) = (152 : Int32)
  · replace hw := hw.1 c1
    refine lv_tableIn (off := 45) (tgt := 52) hx hb dX3_exchangeAndFlagCodes_7 (by rw [c1]; decide) (by rw [c1]; decide) (by rw [c1]; rfl) (by decide) ?_
    refine lv_aload_n hx hb dX3_exchangeAndFlagCodes_52 rfl (lv_at hl 0 rfl) ?_
    refine lv_aload_n hx hb dX3_exchangeAndFlagCodes_53 rfl (lv_at hl 0 rfl) ?_
    refine lv_iconst (v := (0 : Int32)) hx hb dX3_exchangeAndFlagCodes_54 (by decide) ?_
    refine cl_Vi (As := [.int (0 : Int32)]) (rest := [.ref q0]) (st := [.int (0 : Int32), .ref q0, .ref q0]) S hK hA hP hD hS (fr_P u) (kcX3_a l D cB cI q0 q1 q2 q3 q4 q5 q6 q7 q8 q9 H.size (0 : Int32) u _ hw) (cwV 1 hts gX3_exchangeAndFlagCodes_X3_a rfl rfl rfl (by decide +kernel) ⟨Nat.le_of_ble_eq_true rfl, Nat.le_of_ble_eq_true rfl⟩) tru_h tru_b 0 rfl rfl rfl rfl rfl hl.1 (Nat.le_of_ble_eq_true rfl) dX3_exchangeAndFlagCodes_55 ⟨Nat.zero_le _, Nat.zero_le _⟩ (fun r3 u2 H locs hP hD hS hw => ?_)
    replace hP : va_P D vwCl (WP cB cI q0 q1 q2 q3 q4 q5 q6 q7 q8 q9 u2) H := hP
    replace hD : va_D A (WP cB cI q0 q1 q2 q3 q4 q5 q6 q7 q8 q9 u2) := hD
    refine lv_iconst (v := (0 : Int32)) hx hb dX3_exchangeAndFlagCodes_58 (by decide) ?_
    refine cl_Si (As := [.int r3, .int (0 : Int32)]) (rest := [.ref q0]) (st := [.int (0 : Int32), .int r3, .ref q0]) S hK hA hP hD hS Fr_nil (kcX0_signed l D cB cI  H.size r3 (0 : Int32) () _ hw) (va_cwS 2 hts gX3_exchangeAndFlagCodes_X0_signed rfl rfl rfl (by decide +kernel) ⟨Nat.le_of_ble_eq_true rfl, Nat.le_of_ble_eq_true rfl⟩) tru_h tru_b rfl rfl hl.1 (Nat.le_of_ble_eq_true rfl) dX3_exchangeAndFlagCodes_59 ⟨Nat.zero_le _, Nat.zero_le _⟩ (fun r5 u4 H locs hP hD hS hw => ?_)
    replace hP : va_P D vwCl (WP cB cI q0 q1 q2 q3 q4 q5 q6 q7 q8 q9 u2) H := hP
    replace hD : va_D A (WP cB cI q0 q1 q2 q3 q4 q5 q6 q7 q8 q9 u2) := hD
    refine lv_iconst (v := (1 : Int32)) hx hb dX3_exchangeAndFlagCodes_62 (by decide) ?_
    refine cl_Vv (As := [.int r5, .int (1 : Int32)]) (rest := []) (st := [.int (1 : Int32), .int r5, .ref q0]) S hK hA hP hD hS (fr_P u2) (kcX3_giveA l D cB cI q0 q1 q2 q3 q4 q5 q6 q7 q8 q9 H.size r5 (1 : Int32) u2 _ hw) (cwV 2 hts gX3_exchangeAndFlagCodes_X3_giveA rfl rfl rfl (by decide +kernel) ⟨Nat.le_of_ble_eq_true rfl, Nat.le_of_ble_eq_true rfl⟩) tru_h tru_b 0 rfl rfl rfl rfl rfl hl.1 (Nat.le_of_ble_eq_true rfl) dX3_exchangeAndFlagCodes_63 ⟨Nat.zero_le _, Nat.zero_le _⟩ (fun u6 H locs hP hD hS hw => ?_)
    replace hP : va_P D vwCl (WP cB cI q0 q1 q2 q3 q4 q5 q6 q7 q8 q9 u6) H := hP
    replace hD : va_D A (WP cB cI q0 q1 q2 q3 q4 q5 q6 q7 q8 q9 u6) := hD
    refine lv_goto (tgt := 206) hx hb dX3_exchangeAndFlagCodes_66 (by decide) ?_
    exact rt_v (wo := (fun v => WP cB cI q0 q1 q2 q3 q4 q5 q6 q7 q8 q9 v)) S hr hlk u6 hP hS hw dX3_exchangeAndFlagCodes_206
  replace hw := hw.2 c1
  by_cases c8 : (c_number (p_code u)) = (153 : Int32)
  · replace hw := hw.1 c8
    refine lv_tableIn (off := 62) (tgt := 69) hx hb dX3_exchangeAndFlagCodes_7 (by rw [c8]; decide) (by rw [c8]; decide) (by rw [c8]; rfl) (by decide) ?_
    refine lv_aload_n hx hb dX3_exchangeAndFlagCodes_69 rfl (lv_at hl 0 rfl) ?_
    refine va_get (D := D) (ci := 3) (v := .ref q4) (C := RX3) (T := TX3) (N := 8) hx hb hts i_X3 hown hK hP 0 rfl rfl 1 (by decide) f_21 (fun _ h9 => h9) rfl dX3_exchangeAndFlagCodes_70 ?_
    refine lv_iconst (v := (2 : Int32)) hx hb dX3_exchangeAndFlagCodes_73 (by decide) ?_
    refine lv_aload_n hx hb dX3_exchangeAndFlagCodes_74 rfl (lv_at hl 0 rfl) ?_
    refine lv_iconst (v := (1 : Int32)) hx hb dX3_exchangeAndFlagCodes_75 (by decide) ?_
    refine cl_Vi (As := [.int (1 : Int32)]) (rest := [.int (2 : Int32), .ref q4]) (st := [.int (1 : Int32), .ref q0, .int (2 : Int32), .ref q4]) S hK hA hP hD hS (fr_P u) (kcX3_a l D cB cI q0 q1 q2 q3 q4 q5 q6 q7 q8 q9 H.size (1 : Int32) u _ hw) (cwV 1 hts gX3_exchangeAndFlagCodes_X3_a rfl rfl rfl (by decide +kernel) ⟨Nat.le_of_ble_eq_true rfl, Nat.le_of_ble_eq_true rfl⟩) tru_h tru_b 0 rfl rfl rfl rfl rfl hl.1 (Nat.le_of_ble_eq_true rfl) dX3_exchangeAndFlagCodes_76 ⟨Nat.zero_le _, Nat.zero_le _⟩ (fun r10 u9 H locs hP hD hS hw => ?_)
    replace hP : va_P D vwCl (WP cB cI q0 q1 q2 q3 q4 q5 q6 q7 q8 q9 u9) H := hP
    replace hD : va_D A (WP cB cI q0 q1 q2 q3 q4 q5 q6 q7 q8 q9 u9) := hD
    refine lv_iconst (v := (1 : Int32)) hx hb dX3_exchangeAndFlagCodes_79 (by decide) ?_
    refine cl_Si (As := [.int r10, .int (1 : Int32)]) (rest := [.int (2 : Int32), .ref q4]) (st := [.int (1 : Int32), .int r10, .int (2 : Int32), .ref q4]) S hK hA hP hD hS Fr_nil (kcX0_signed l D cB cI  H.size r10 (1 : Int32) () _ hw) (va_cwS 2 hts gX3_exchangeAndFlagCodes_X0_signed rfl rfl rfl (by decide +kernel) ⟨Nat.le_of_ble_eq_true rfl, Nat.le_of_ble_eq_true rfl⟩) tru_h tru_b rfl rfl hl.1 (Nat.le_of_ble_eq_true rfl) dX3_exchangeAndFlagCodes_80 ⟨Nat.zero_le _, Nat.zero_le _⟩ (fun r12 u11 H locs hP hD hS hw => ?_)
    replace hP : va_P D vwCl (WP cB cI q0 q1 q2 q3 q4 q5 q6 q7 q8 q9 u9) H := hP
    replace hD : va_D A (WP cB cI q0 q1 q2 q3 q4 q5 q6 q7 q8 q9 u9) := hD
    refine lv_bipush (v := (16 : Int32)) hx hb dX3_exchangeAndFlagCodes_83 (by decide) ?_
    refine lv_ishr hx hb dX3_exchangeAndFlagCodes_85 ?_
    refine cl_Vv (As := [.int (2 : Int32), .int (r12 >>> ((16 : Int32) &&& 31))]) (rest := []) (st := [.int (r12 >>> ((16 : Int32) &&& 31)), .int (2 : Int32), .ref q4]) S hK hA hP hD hS (fr_P_R u9) (kcX4_setWord l D cB cI q4 q5 q6 H.size (2 : Int32) (r12 >>> ((16 : Int32) &&& 31)) (p_regs u9) _ hw) (cwV 2 hts gX3_exchangeAndFlagCodes_X4_setWord rfl rfl rfl (by decide +kernel) ⟨Nat.le_of_ble_eq_true rfl, Nat.le_of_ble_eq_true rfl⟩) tru_h tru_b 4 rfl rfl rfl rfl rfl hl.1 (Nat.le_of_ble_eq_true rfl) dX3_exchangeAndFlagCodes_86 ⟨Nat.zero_le _, Nat.zero_le _⟩ (fun u13 H locs hP hD hS hw => ?_)
    replace hP : va_P D vwCl (WP cB cI q0 q1 q2 q3 q4 q5 q6 q7 q8 q9 (ps_regs u9 u13)) H := hP
    replace hD : va_D A (WP cB cI q0 q1 q2 q3 q4 q5 q6 q7 q8 q9 (ps_regs u9 u13)) := hD
    refine lv_goto (tgt := 206) hx hb dX3_exchangeAndFlagCodes_89 (by decide) ?_
    exact rt_v (wo := (fun v => WP cB cI q0 q1 q2 q3 q4 q5 q6 q7 q8 q9 v)) S hr hlk (ps_regs u9 u13) hP hS hw dX3_exchangeAndFlagCodes_206
  replace hw := hw.2 c8
  by_cases c15 : (c_number (p_code u)) = (154 : Int32)
  · replace hw := hw.1 c15
    refine lv_tableIn (off := 85) (tgt := 92) hx hb dX3_exchangeAndFlagCodes_7 (by rw [c15]; decide) (by rw [c15]; decide) (by rw [c15]; rfl) (by decide) ?_
    refine lv_aload_n hx hb dX3_exchangeAndFlagCodes_92 rfl (lv_at hl 0 rfl) ?_
    refine lv_aload_n hx hb dX3_exchangeAndFlagCodes_93 rfl (lv_at hl 0 rfl) ?_
    refine va_get (D := D) (ci := 3) (v := .ref q8) (C := RX3) (T := TX3) (N := 8) hx hb hts i_X3 hown hK hP 0 rfl rfl 3 (by decide) f_35 (fun _ h9 => h9) rfl dX3_exchangeAndFlagCodes_94 ?_
    refine va_get (D := D) (ci := 1) (v := .int (c_first (p_code u))) (C := RX1) (T := TX1) (N := 12) hx hb hts i_X1 hown hK hP 8 rfl rfl 9 (by decide) f_83 (fun _ h9 => h9) rfl dX3_exchangeAndFlagCodes_97 ?_
    refine lv_aload_n hx hb dX3_exchangeAndFlagCodes_100 rfl (lv_at hl 0 rfl) ?_
    refine va_get (D := D) (ci := 3) (v := .ref q8) (C := RX3) (T := TX3) (N := 8) hx hb hts i_X3 hown hK hP 0 rfl rfl 3 (by decide) f_35 (fun _ h9 => h9) rfl dX3_exchangeAndFlagCodes_101 ?_
    refine va_get (D := D) (ci := 1) (v := .int (c_second (p_code u))) (C := RX1) (T := TX1) (N := 12) hx hb hts i_X1 hown hK hP 8 rfl rfl 10 (by decide) f_221 (fun _ h9 => h9) rfl dX3_exchangeAndFlagCodes_104 ?_
    refine cl_Vv (As := [.int (c_first (p_code u)), .int (c_second (p_code u))]) (rest := []) (st := [.int (c_second (p_code u)), .int (c_first (p_code u)), .ref q0]) S hK hA hP hD hS (fr_P u) (kcX3_callFar l D cB cI q0 q1 q2 q3 q4 q5 q6 q7 q8 q9 H.size (c_first (p_code u)) (c_second (p_code u)) u _ hw) (cwV 2 hts gX3_exchangeAndFlagCodes_X3_callFar rfl rfl rfl (by decide +kernel) ⟨Nat.le_of_ble_eq_true rfl, Nat.le_of_ble_eq_true rfl⟩) tru_h tru_b 0 rfl rfl rfl rfl rfl hl.1 (Nat.le_of_ble_eq_true rfl) dX3_exchangeAndFlagCodes_107 ⟨Nat.zero_le _, Nat.zero_le _⟩ (fun u16 H locs hP hD hS hw => ?_)
    replace hP : va_P D vwCl (WP cB cI q0 q1 q2 q3 q4 q5 q6 q7 q8 q9 u16) H := hP
    replace hD : va_D A (WP cB cI q0 q1 q2 q3 q4 q5 q6 q7 q8 q9 u16) := hD
    refine lv_goto (tgt := 206) hx hb dX3_exchangeAndFlagCodes_110 (by decide) ?_
    exact rt_v (wo := (fun v => WP cB cI q0 q1 q2 q3 q4 q5 q6 q7 q8 q9 v)) S hr hlk u16 hP hS hw dX3_exchangeAndFlagCodes_206
  replace hw := hw.2 c15
  by_cases c18 : (c_number (p_code u)) = (155 : Int32)
  · replace hw := hw.1 c18
    refine lv_tableIn (off := 106) (tgt := 113) hx hb dX3_exchangeAndFlagCodes_7 (by rw [c18]; decide) (by rw [c18]; decide) (by rw [c18]; rfl) (by decide) ?_
    refine lv_goto (tgt := 206) hx hb dX3_exchangeAndFlagCodes_113 (by decide) ?_
    exact rt_v (wo := (fun v => WP cB cI q0 q1 q2 q3 q4 q5 q6 q7 q8 q9 v)) S hr hlk u hP hS hw dX3_exchangeAndFlagCodes_206
  replace hw := hw.2 c18
  by_cases c19 : (c_number (p_code u)) = (156 : Int32)
  · replace hw := hw.1 c19
    refine lv_tableIn (off := 109) (tgt := 116) hx hb dX3_exchangeAndFlagCodes_7 (by rw [c19]; decide) (by rw [c19]; decide) (by rw [c19]; rfl) (by decide) ?_
    refine lv_aload_n hx hb dX3_exchangeAndFlagCodes_116 rfl (lv_at hl 0 rfl) ?_
    refine lv_aload_n hx hb dX3_exchangeAndFlagCodes_117 rfl (lv_at hl 0 rfl) ?_
    refine cl_Vi (As := []) (rest := [.ref q0]) (st := [.ref q0, .ref q0]) S hK hA hP hD hS (fr_P u) (kcX3_pushedFlags l D cB cI q0 q1 q2 q3 q4 q5 q6 q7 q8 q9 H.size  u _ hw) (cwV 0 hts gX3_exchangeAndFlagCodes_X3_pushedFlags rfl rfl rfl (by decide +kernel) ⟨Nat.le_of_ble_eq_true rfl, Nat.le_of_ble_eq_true rfl⟩) tru_h tru_b 0 rfl rfl rfl rfl rfl hl.1 (Nat.le_of_ble_eq_true rfl) dX3_exchangeAndFlagCodes_118 ⟨Nat.zero_le _, Nat.zero_le _⟩ (fun r21 u20 H locs hP hD hS hw => ?_)
    replace hP : va_P D vwCl (WP cB cI q0 q1 q2 q3 q4 q5 q6 q7 q8 q9 u20) H := hP
    replace hD : va_D A (WP cB cI q0 q1 q2 q3 q4 q5 q6 q7 q8 q9 u20) := hD
    refine cl_Vv (As := [.int r21]) (rest := []) (st := [.int r21, .ref q0]) S hK hA hP hD hS (fr_P u20) (kcX3_push l D cB cI q0 q1 q2 q3 q4 q5 q6 q7 q8 q9 H.size r21 u20 _ hw) (cwV 1 hts gX3_exchangeAndFlagCodes_X3_push rfl rfl rfl (by decide +kernel) ⟨Nat.le_of_ble_eq_true rfl, Nat.le_of_ble_eq_true rfl⟩) tru_h tru_b 0 rfl rfl rfl rfl rfl hl.1 (Nat.le_of_ble_eq_true rfl) dX3_exchangeAndFlagCodes_121 ⟨Nat.zero_le _, Nat.zero_le _⟩ (fun u22 H locs hP hD hS hw => ?_)
    replace hP : va_P D vwCl (WP cB cI q0 q1 q2 q3 q4 q5 q6 q7 q8 q9 u22) H := hP
    replace hD : va_D A (WP cB cI q0 q1 q2 q3 q4 q5 q6 q7 q8 q9 u22) := hD
    refine lv_goto (tgt := 206) hx hb dX3_exchangeAndFlagCodes_124 (by decide) ?_
    exact rt_v (wo := (fun v => WP cB cI q0 q1 q2 q3 q4 q5 q6 q7 q8 q9 v)) S hr hlk u22 hP hS hw dX3_exchangeAndFlagCodes_206
  replace hw := hw.2 c19
  by_cases c24 : (c_number (p_code u)) = (157 : Int32)
  · replace hw := hw.1 c24
    refine lv_tableIn (off := 120) (tgt := 127) hx hb dX3_exchangeAndFlagCodes_7 (by rw [c24]; decide) (by rw [c24]; decide) (by rw [c24]; rfl) (by decide) ?_
    refine lv_aload_n hx hb dX3_exchangeAndFlagCodes_127 rfl (lv_at hl 0 rfl) ?_
    refine va_get (D := D) (ci := 3) (v := .ref q7) (C := RX3) (T := TX3) (N := 8) hx hb hts i_X3 hown hK hP 0 rfl rfl 2 (by decide) f_28 (fun _ h9 => h9) rfl dX3_exchangeAndFlagCodes_128 ?_
    refine lv_aload_n hx hb dX3_exchangeAndFlagCodes_131 rfl (lv_at hl 0 rfl) ?_
    refine cl_Vi (As := []) (rest := [.ref q7]) (st := [.ref q0, .ref q7]) S hK hA hP hD hS (fr_P u) (kcX3_pop l D cB cI q0 q1 q2 q3 q4 q5 q6 q7 q8 q9 H.size  u _ hw) (cwV 0 hts gX3_exchangeAndFlagCodes_X3_pop rfl rfl rfl (by decide +kernel) ⟨Nat.le_of_ble_eq_true rfl, Nat.le_of_ble_eq_true rfl⟩) tru_h tru_b 0 rfl rfl rfl rfl rfl hl.1 (Nat.le_of_ble_eq_true rfl) dX3_exchangeAndFlagCodes_132 ⟨Nat.zero_le _, Nat.zero_le _⟩ (fun r26 u25 H locs hP hD hS hw => ?_)
    replace hP : va_P D vwCl (WP cB cI q0 q1 q2 q3 q4 q5 q6 q7 q8 q9 u25) H := hP
    replace hD : va_D A (WP cB cI q0 q1 q2 q3 q4 q5 q6 q7 q8 q9 u25) := hD
    refine cl_Vv (As := [.int r26]) (rest := []) (st := [.int r26, .ref q7]) S hK hA hP hD hS (fr_P_A u25) (kcX0_keep l D cB cI q7 H.size r26 (p_flags u25) _ hw) (cwV 1 hts gX3_exchangeAndFlagCodes_X0_keep rfl rfl rfl (by decide +kernel) ⟨Nat.le_of_ble_eq_true rfl, Nat.le_of_ble_eq_true rfl⟩) tru_h tru_b 7 rfl rfl rfl rfl rfl hl.1 (Nat.le_of_ble_eq_true rfl) dX3_exchangeAndFlagCodes_135 ⟨Nat.zero_le _, Nat.zero_le _⟩ (fun u27 H locs hP hD hS hw => ?_)
    replace hP : va_P D vwCl (WP cB cI q0 q1 q2 q3 q4 q5 q6 q7 q8 q9 (ps_flags u25 u27)) H := hP
    replace hD : va_D A (WP cB cI q0 q1 q2 q3 q4 q5 q6 q7 q8 q9 (ps_flags u25 u27)) := hD
    refine lv_goto (tgt := 206) hx hb dX3_exchangeAndFlagCodes_138 (by decide) ?_
    exact rt_v (wo := (fun v => WP cB cI q0 q1 q2 q3 q4 q5 q6 q7 q8 q9 v)) S hr hlk (ps_flags u25 u27) hP hS hw dX3_exchangeAndFlagCodes_206
  replace hw := hw.2 c24
  by_cases c29 : (c_number (p_code u)) = (158 : Int32)
  · replace hw := hw.1 c29
    refine lv_tableIn (off := 134) (tgt := 141) hx hb dX3_exchangeAndFlagCodes_7 (by rw [c29]; decide) (by rw [c29]; decide) (by rw [c29]; rfl) (by decide) ?_
    refine lv_aload_n hx hb dX3_exchangeAndFlagCodes_141 rfl (lv_at hl 0 rfl) ?_
    refine va_get (D := D) (ci := 3) (v := .ref q7) (C := RX3) (T := TX3) (N := 8) hx hb hts i_X3 hown hK hP 0 rfl rfl 2 (by decide) f_28 (fun _ h9 => h9) rfl dX3_exchangeAndFlagCodes_142 ?_
    refine lv_aload_n hx hb dX3_exchangeAndFlagCodes_145 rfl (lv_at hl 0 rfl) ?_
    refine va_get (D := D) (ci := 3) (v := .ref q7) (C := RX3) (T := TX3) (N := 8) hx hb hts i_X3 hown hK hP 0 rfl rfl 2 (by decide) f_28 (fun _ h9 => h9) rfl dX3_exchangeAndFlagCodes_146 ?_
    refine va_get (D := D) (ci := 0) (v := .int (p_flags u)) (C := RX0) (T := TX0) (N := 1) hx hb hts i_X0 hown hK hP 7 rfl rfl 0 (by decide) f_135 (fun _ h9 => h9) rfl dX3_exchangeAndFlagCodes_149 ?_
    refine lv_ldc (v := (65280 : Int32)) hx hb hown k_230 dX3_exchangeAndFlagCodes_152 ?_
    refine lv_iand hx hb dX3_exchangeAndFlagCodes_154 ?_
    refine lv_aload_n hx hb dX3_exchangeAndFlagCodes_155 rfl (lv_at hl 0 rfl) ?_
    refine va_get (D := D) (ci := 3) (v := .ref q4) (C := RX3) (T := TX3) (N := 8) hx hb hts i_X3 hown hK hP 0 rfl rfl 1 (by decide) f_21 (fun _ h9 => h9) rfl dX3_exchangeAndFlagCodes_156 ?_
    refine lv_iconst (v := (4 : Int32)) hx hb dX3_exchangeAndFlagCodes_159 (by decide) ?_
    refine lv_iconst (v := (0 : Int32)) hx hb dX3_exchangeAndFlagCodes_160 (by decide) ?_
    refine cl_Vi (As := [.int (4 : Int32), .int (0 : Int32)]) (rest := [.int ((p_flags u) &&& (65280 : Int32)), .ref q7]) (st := [.int (0 : Int32), .int (4 : Int32), .ref q4, .int ((p_flags u) &&& (65280 : Int32)), .ref q7]) S hK hA hP hD hS (fr_P_R u) (kcX4_value l D cB cI q4 q5 q6 H.size (4 : Int32) (0 : Int32) (p_regs u) _ hw) (cwV 2 hts gX3_exchangeAndFlagCodes_X4_value rfl rfl rfl (by decide +kernel) ⟨Nat.le_of_ble_eq_true rfl, Nat.le_of_ble_eq_true rfl⟩) tru_h tru_b 4 rfl rfl rfl rfl rfl hl.1 (Nat.le_of_ble_eq_true rfl) dX3_exchangeAndFlagCodes_161 ⟨Nat.zero_le _, Nat.zero_le _⟩ (fun r31 u30 H locs hP hD hS hw => ?_)
    replace hP : va_P D vwCl (WP cB cI q0 q1 q2 q3 q4 q5 q6 q7 q8 q9 (ps_regs u u30)) H := hP
    replace hD : va_D A (WP cB cI q0 q1 q2 q3 q4 q5 q6 q7 q8 q9 (ps_regs u u30)) := hD
    refine lv_ior hx hb dX3_exchangeAndFlagCodes_164 ?_
    refine cl_Vv (As := [.int (((p_flags u) &&& (65280 : Int32)) ||| r31)]) (rest := []) (st := [.int (((p_flags u) &&& (65280 : Int32)) ||| r31), .ref q7]) S hK hA hP hD hS (fr_P_A (ps_regs u u30)) (kcX0_keep l D cB cI q7 H.size (((p_flags u) &&& (65280 : Int32)) ||| r31) (p_flags u) _ hw) (cwV 1 hts gX3_exchangeAndFlagCodes_X0_keep rfl rfl rfl (by decide +kernel) ⟨Nat.le_of_ble_eq_true rfl, Nat.le_of_ble_eq_true rfl⟩) tru_h tru_b 7 rfl rfl rfl rfl rfl hl.1 (Nat.le_of_ble_eq_true rfl) dX3_exchangeAndFlagCodes_165 ⟨Nat.zero_le _, Nat.zero_le _⟩ (fun u32 H locs hP hD hS hw => ?_)
    replace hP : va_P D vwCl (WP cB cI q0 q1 q2 q3 q4 q5 q6 q7 q8 q9 (ps_flags (ps_regs u u30) u32)) H := hP
    replace hD : va_D A (WP cB cI q0 q1 q2 q3 q4 q5 q6 q7 q8 q9 (ps_flags (ps_regs u u30) u32)) := hD
    refine lv_goto (tgt := 206) hx hb dX3_exchangeAndFlagCodes_168 (by decide) ?_
    exact rt_v (wo := (fun v => WP cB cI q0 q1 q2 q3 q4 q5 q6 q7 q8 q9 v)) S hr hlk (ps_flags (ps_regs u u30) u32) hP hS hw dX3_exchangeAndFlagCodes_206
  replace hw := hw.2 c29
  by_cases c34 : (c_number (p_code u)) = (159 : Int32)
  · replace hw := hw.1 c34
    refine lv_tableIn (off := 164) (tgt := 171) hx hb dX3_exchangeAndFlagCodes_7 (by rw [c34]; decide) (by rw [c34]; decide) (by rw [c34]; rfl) (by decide) ?_
    refine lv_aload_n hx hb dX3_exchangeAndFlagCodes_171 rfl (lv_at hl 0 rfl) ?_
    refine va_get (D := D) (ci := 3) (v := .ref q4) (C := RX3) (T := TX3) (N := 8) hx hb hts i_X3 hown hK hP 0 rfl rfl 1 (by decide) f_21 (fun _ h9 => h9) rfl dX3_exchangeAndFlagCodes_172 ?_
    refine lv_iconst (v := (4 : Int32)) hx hb dX3_exchangeAndFlagCodes_175 (by decide) ?_
    refine lv_aload_n hx hb dX3_exchangeAndFlagCodes_176 rfl (lv_at hl 0 rfl) ?_
    refine va_get (D := D) (ci := 3) (v := .ref q7) (C := RX3) (T := TX3) (N := 8) hx hb hts i_X3 hown hK hP 0 rfl rfl 2 (by decide) f_28 (fun _ h9 => h9) rfl dX3_exchangeAndFlagCodes_177 ?_
    refine va_get (D := D) (ci := 0) (v := .int (p_flags u)) (C := RX0) (T := TX0) (N := 1) hx hb hts i_X0 hown hK hP 7 rfl rfl 0 (by decide) f_135 (fun _ h9 => h9) rfl dX3_exchangeAndFlagCodes_180 ?_
    refine lv_iconst (v := (2 : Int32)) hx hb dX3_exchangeAndFlagCodes_183 (by decide) ?_
    refine lv_ior hx hb dX3_exchangeAndFlagCodes_184 ?_
    refine lv_iconst (v := (0 : Int32)) hx hb dX3_exchangeAndFlagCodes_185 (by decide) ?_
    refine cl_Vv (As := [.int (4 : Int32), .int ((p_flags u) ||| (2 : Int32)), .int (0 : Int32)]) (rest := []) (st := [.int (0 : Int32), .int ((p_flags u) ||| (2 : Int32)), .int (4 : Int32), .ref q4]) S hK hA hP hD hS (fr_P_R u) (kcX4_give l D cB cI q4 q5 q6 H.size (4 : Int32) ((p_flags u) ||| (2 : Int32)) (0 : Int32) (p_regs u) _ hw) (cwV 3 hts gX3_exchangeAndFlagCodes_X4_give rfl rfl rfl (by decide +kernel) ⟨Nat.le_of_ble_eq_true rfl, Nat.le_of_ble_eq_true rfl⟩) tru_h tru_b 4 rfl rfl rfl rfl rfl hl.1 (Nat.le_of_ble_eq_true rfl) dX3_exchangeAndFlagCodes_186 ⟨Nat.zero_le _, Nat.zero_le _⟩ (fun u35 H locs hP hD hS hw => ?_)
    replace hP : va_P D vwCl (WP cB cI q0 q1 q2 q3 q4 q5 q6 q7 q8 q9 (ps_regs u u35)) H := hP
    replace hD : va_D A (WP cB cI q0 q1 q2 q3 q4 q5 q6 q7 q8 q9 (ps_regs u u35)) := hD
    refine lv_goto (tgt := 206) hx hb dX3_exchangeAndFlagCodes_189 (by decide) ?_
    exact rt_v (wo := (fun v => WP cB cI q0 q1 q2 q3 q4 q5 q6 q7 q8 q9 v)) S hr hlk (ps_regs u u35) hP hS hw dX3_exchangeAndFlagCodes_206
  replace hw := hw.2 c34
  refine lv_tableOut (tgt := 192) hx hb dX3_exchangeAndFlagCodes_7 (by have e_c1 : ¬ ((c_number (p_code u)) : Int32).toInt = 152 := sw_ne c1; have e_c8 : ¬ ((c_number (p_code u)) : Int32).toInt = 153 := sw_ne c8; have e_c15 : ¬ ((c_number (p_code u)) : Int32).toInt = 154 := sw_ne c15; have e_c18 : ¬ ((c_number (p_code u)) : Int32).toInt = 155 := sw_ne c18; have e_c19 : ¬ ((c_number (p_code u)) : Int32).toInt = 156 := sw_ne c19; have e_c24 : ¬ ((c_number (p_code u)) : Int32).toInt = 157 := sw_ne c24; have e_c29 : ¬ ((c_number (p_code u)) : Int32).toInt = 158 := sw_ne c29; have e_c34 : ¬ ((c_number (p_code u)) : Int32).toInt = 159 := sw_ne c34; omega) (by decide) ?_
  refine lv_aload_n hx hb dX3_exchangeAndFlagCodes_192 rfl (lv_at hl 0 rfl) ?_
  refine lv_aload_n hx hb dX3_exchangeAndFlagCodes_193 rfl (lv_at hl 0 rfl) ?_
  refine va_get (D := D) (ci := 3) (v := .ref q8) (C := RX3) (T := TX3) (N := 8) hx hb hts i_X3 hown hK hP 0 rfl rfl 3 (by decide) f_35 (fun _ h9 => h9) rfl dX3_exchangeAndFlagCodes_194 ?_
  refine va_get (D := D) (ci := 1) (v := .int (c_number (p_code u))) (C := RX1) (T := TX1) (N := 12) hx hb hts i_X1 hown hK hP 8 rfl rfl 1 (by decide) f_47 (fun _ h9 => h9) rfl dX3_exchangeAndFlagCodes_197 ?_
  refine lv_bipush (v := (7 : Int32)) hx hb dX3_exchangeAndFlagCodes_200 (by decide) ?_
  refine lv_iand hx hb dX3_exchangeAndFlagCodes_202 ?_
  refine cl_Vv (As := [.int ((c_number (p_code u)) &&& (7 : Int32))]) (rest := []) (st := [.int ((c_number (p_code u)) &&& (7 : Int32)), .ref q0]) S hK hA hP hD hS (fr_P u) (kcX3_exchangeA l D cB cI q0 q1 q2 q3 q4 q5 q6 q7 q8 q9 H.size ((c_number (p_code u)) &&& (7 : Int32)) u _ hw) (cwV 1 hts gX3_exchangeAndFlagCodes_X3_exchangeA rfl rfl rfl (by decide +kernel) ⟨Nat.le_of_ble_eq_true rfl, Nat.le_of_ble_eq_true rfl⟩) tru_h tru_b 0 rfl rfl rfl rfl rfl hl.1 (Nat.le_of_ble_eq_true rfl) dX3_exchangeAndFlagCodes_203 ⟨Nat.zero_le _, Nat.zero_le _⟩ (fun u37 H locs hP hD hS hw => ?_)
  replace hP : va_P D vwCl (WP cB cI q0 q1 q2 q3 q4 q5 q6 q7 q8 q9 u37) H := hP
  replace hD : va_D A (WP cB cI q0 q1 q2 q3 q4 q5 q6 q7 q8 q9 u37) := hD
  exact rt_v (wo := (fun v => WP cB cI q0 q1 q2 q3 q4 q5 q6 q7 q8 q9 v)) S hr hlk u37 hP hS hw dX3_exchangeAndFlagCodes_206
-- X3_interrupt
def wX3_interrupt (a1 : Int32) (u : SP) (P : SP → Prop) : Prop := (wX3_pushedFlags  u (fun r2 u1 => (wX3_push r2 u1 (fun u3 => (wX0_mark (512 : Int32) (0 : Int32) (p_flags u3) (fun u5 => (wX0_mark (256 : Int32) (0 : Int32) u5 (fun u7 => (wX4_segment (1 : Int32) (p_regs u3) (fun r10 u9 => (wX3_push r10 (ps_flags (ps_regs u3 u9) u7) (fun u11 => (wX3_push (r_ip (p_regs u11)) u11 (fun u13 => (wX2_load (0 : Int32) ((4 : Int32) * a1) (1 : Int32) (p_mem u13) (fun r16 u15 => (wX4_moveTo r16 (p_regs u13) (fun u17 => (wX2_load (0 : Int32) (((4 : Int32) * a1) + (2 : Int32)) (1 : Int32) u15 (fun r20 u19 => (wX4_setSegment (1 : Int32) r20 u17 (fun u21 => (P (ps_regs (ps_mem u13 u19) u21))))))))))))))))))))))))
set_option maxHeartbeats 4000000 in
set_option maxRecDepth 100000 in
theorem kcX3_interrupt (l : Launch) (D : va_G) (cB cI : ClassId) (q0 q1 q2 q3 q4 q5 q6 q7 q8 q9 : Nat) (sz : Nat) (a1 : Int32) (u : SP) (P : SP → Prop) (hw : wX3_interrupt a1 u P) : Met l yX3_interrupt wsX3_interrupt ({ frames := 3, cells := 0, slots := 0, locals := 68 } : Room) (va_Pc [.ref q0, .int a1] (Pcw D (tyA cB cI) (WP cB cI q0 q1 q2 q3 q4 q5 q6 q7 q8 q9 u) sz Tru)) (va_Qv P (fun u t => va_P D vwCl (WP cB cI q0 q1 q2 q3 q4 q5 q6 q7 q8 q9 u) t.heap) (va_A (WP cB cI q0 q1 q2 q3 q4 q5 q6 q7 q8 q9 u) sz)) 0 0 (va_A (WP cB cI q0 q1 q2 q3 q4 q5 q6 q7 q8 q9 u) sz) := by
  refine en_ (cc := cX3_interrupt) (maxL := 2) (ret := none) (own := RX3) (lv := [(0, .ref q0), (1, .int a1)]) (Qf := fun A => va_Qv P (fun u t => va_P D vwCl (WP cB cI q0 q1 q2 q3 q4 q5 q6 q7 q8 q9 u) t.heap) A) (by decide) rfl rfl (Nat.le_of_ble_eq_true rfl) rfl ?_
  intro p e s m below meth c A ls S hr hlk hname hsz hP hK hD hA hSub hS hE hl
  have hx := S.1
  have hb := S.2.1
  have hown := S.2.2.2.1
  have hts := S.2.2.2.2
  have i_X3 : ∀ w ∈ u_ws RX3 TX3 8, w ∈ wsX3_interrupt := by decide +kernel
  have i_X4 : ∀ w ∈ u_ws RX4 TX4 3, w ∈ wsX3_interrupt := by decide +kernel
  have f_12 := hts (.fieldLink RX3 12 "MachineCore$Processor" "memory" "LMachineCore$Memory;") (by decide +kernel)
  have f_21 := hts (.fieldLink RX3 21 "MachineCore$Processor" "registers" "LMachineCore$Registers;") (by decide +kernel)
  have f_28 := hts (.fieldLink RX3 28 "MachineCore$Processor" "arithmetic" "LMachineCore$Arithmetic;") (by decide +kernel)
  have f_121 := hts (.fieldLink RX3 121 "MachineCore$Registers" "ip" "I") (by decide +kernel)
  unfold wX3_interrupt at hw
  obtain ⟨H, eH⟩ : ∃ H, H = s.heap := ⟨_, rfl⟩
  obtain ⟨locs, eL⟩ : ∃ locs : List Loc, locs = [] := ⟨_, rfl⟩
  replace hP : va_P D vwCl (WP cB cI q0 q1 q2 q3 q4 q5 q6 q7 q8 q9 u) H := by rw [eH]; exact hP
  replace hS : va_S A s.heap H locs := by rw [eH, eL]; exact hS
  suffices hgo : W p l e ({ frames := 3, cells := 0, slots := 0, locals := 68 } : Room) s m ([.ref q0, .int a1] : List Value).toArray below meth c H locs 0 0 (MQ below (va_Qv P (fun u t => va_P D vwCl (WP cB cI q0 q1 q2 q3 q4 q5 q6 q7 q8 q9 u) t.heap) A) ([.ref q0, .int a1] : List Value).toArray s 0 0 A) (F0 m 0 ls []) by rw [eH, eL] at hgo; exact hgo
  clear eH eL
  refine lv_aload_n hx hb dX3_interrupt_0 rfl (lv_at hl 0 rfl) ?_
  refine lv_aload_n hx hb dX3_interrupt_1 rfl (lv_at hl 0 rfl) ?_
  refine cl_Vi (As := []) (rest := [.ref q0]) (st := [.ref q0, .ref q0]) S hK hA hP hD hS (fr_P u) (kcX3_pushedFlags l D cB cI q0 q1 q2 q3 q4 q5 q6 q7 q8 q9 H.size  u _ hw) (cwV 0 hts gX3_interrupt_X3_pushedFlags rfl rfl rfl (by decide +kernel) ⟨Nat.le_of_ble_eq_true rfl, Nat.le_of_ble_eq_true rfl⟩) tru_h tru_b 0 rfl rfl rfl rfl rfl hl.1 (Nat.le_of_ble_eq_true rfl) dX3_interrupt_2 ⟨Nat.zero_le _, Nat.zero_le _⟩ (fun r2 u1 H locs hP hD hS hw => ?_)
  replace hP : va_P D vwCl (WP cB cI q0 q1 q2 q3 q4 q5 q6 q7 q8 q9 u1) H := hP
  replace hD : va_D A (WP cB cI q0 q1 q2 q3 q4 q5 q6 q7 q8 q9 u1) := hD
  refine cl_Vv (As := [.int r2]) (rest := []) (st := [.int r2, .ref q0]) S hK hA hP hD hS (fr_P u1) (kcX3_push l D cB cI q0 q1 q2 q3 q4 q5 q6 q7 q8 q9 H.size r2 u1 _ hw) (cwV 1 hts gX3_interrupt_X3_push rfl rfl rfl (by decide +kernel) ⟨Nat.le_of_ble_eq_true rfl, Nat.le_of_ble_eq_true rfl⟩) tru_h tru_b 0 rfl rfl rfl rfl rfl hl.1 (Nat.le_of_ble_eq_true rfl) dX3_interrupt_5 ⟨Nat.zero_le _, Nat.zero_le _⟩ (fun u3 H locs hP hD hS hw => ?_)
  replace hP : va_P D vwCl (WP cB cI q0 q1 q2 q3 q4 q5 q6 q7 q8 q9 u3) H := hP
  replace hD : va_D A (WP cB cI q0 q1 q2 q3 q4 q5 q6 q7 q8 q9 u3) := hD
  refine lv_aload_n hx hb dX3_interrupt_8 rfl (lv_at hl 0 rfl) ?_
  refine va_get (D := D) (ci := 3) (v := .ref q7) (C := RX3) (T := TX3) (N := 8) hx hb hts i_X3 hown hK hP 0 rfl rfl 2 (by decide) f_28 (fun _ h9 => h9) rfl dX3_interrupt_9 ?_
  refine lv_sipush (v := (512 : Int32)) hx hb dX3_interrupt_12 (by decide) ?_
  refine lv_iconst (v := (0 : Int32)) hx hb dX3_interrupt_15 (by decide) ?_
  refine cl_Vv (As := [.int (512 : Int32), .int (0 : Int32)]) (rest := []) (st := [.int (0 : Int32), .int (512 : Int32), .ref q7]) S hK hA hP hD hS (fr_P_A u3) (kcX0_mark l D cB cI q7 H.size (512 : Int32) (0 : Int32) (p_flags u3) _ hw) (cwV 2 hts gX3_interrupt_X0_mark rfl rfl rfl (by decide +kernel) ⟨Nat.le_of_ble_eq_true rfl, Nat.le_of_ble_eq_true rfl⟩) tru_h tru_b 7 rfl rfl rfl rfl rfl hl.1 (Nat.le_of_ble_eq_true rfl) dX3_interrupt_16 ⟨Nat.zero_le _, Nat.zero_le _⟩ (fun u5 H locs hP hD hS hw => ?_)
  replace hP : va_P D vwCl (WP cB cI q0 q1 q2 q3 q4 q5 q6 q7 q8 q9 (ps_flags u3 u5)) H := hP
  replace hD : va_D A (WP cB cI q0 q1 q2 q3 q4 q5 q6 q7 q8 q9 (ps_flags u3 u5)) := hD
  refine lv_aload_n hx hb dX3_interrupt_19 rfl (lv_at hl 0 rfl) ?_
  refine va_get (D := D) (ci := 3) (v := .ref q7) (C := RX3) (T := TX3) (N := 8) hx hb hts i_X3 hown hK hP 0 rfl rfl 2 (by decide) f_28 (fun _ h9 => h9) rfl dX3_interrupt_20 ?_
  refine lv_sipush (v := (256 : Int32)) hx hb dX3_interrupt_23 (by decide) ?_
  refine lv_iconst (v := (0 : Int32)) hx hb dX3_interrupt_26 (by decide) ?_
  refine cl_Vv (As := [.int (256 : Int32), .int (0 : Int32)]) (rest := []) (st := [.int (0 : Int32), .int (256 : Int32), .ref q7]) S hK hA hP hD hS (fr_P_A (ps_flags u3 u5)) (kcX0_mark l D cB cI q7 H.size (256 : Int32) (0 : Int32) u5 _ hw) (cwV 2 hts gX3_interrupt_X0_mark rfl rfl rfl (by decide +kernel) ⟨Nat.le_of_ble_eq_true rfl, Nat.le_of_ble_eq_true rfl⟩) tru_h tru_b 7 rfl rfl rfl rfl rfl hl.1 (Nat.le_of_ble_eq_true rfl) dX3_interrupt_27 ⟨Nat.zero_le _, Nat.zero_le _⟩ (fun u7 H locs hP hD hS hw => ?_)
  replace hP : va_P D vwCl (WP cB cI q0 q1 q2 q3 q4 q5 q6 q7 q8 q9 (ps_flags u3 u7)) H := hP
  replace hD : va_D A (WP cB cI q0 q1 q2 q3 q4 q5 q6 q7 q8 q9 (ps_flags u3 u7)) := hD
  refine lv_aload_n hx hb dX3_interrupt_30 rfl (lv_at hl 0 rfl) ?_
  refine lv_aload_n hx hb dX3_interrupt_31 rfl (lv_at hl 0 rfl) ?_
  refine va_get (D := D) (ci := 3) (v := .ref q4) (C := RX3) (T := TX3) (N := 8) hx hb hts i_X3 hown hK hP 0 rfl rfl 1 (by decide) f_21 (fun _ h9 => h9) rfl dX3_interrupt_32 ?_
  refine lv_iconst (v := (1 : Int32)) hx hb dX3_interrupt_35 (by decide) ?_
  refine cl_Vi (As := [.int (1 : Int32)]) (rest := [.ref q0]) (st := [.int (1 : Int32), .ref q4, .ref q0]) S hK hA hP hD hS (fr_P_R (ps_flags u3 u7)) (kcX4_segment l D cB cI q4 q5 q6 H.size (1 : Int32) (p_regs u3) _ hw) (cwV 1 hts gX3_interrupt_X4_segment rfl rfl rfl (by decide +kernel) ⟨Nat.le_of_ble_eq_true rfl, Nat.le_of_ble_eq_true rfl⟩) tru_h tru_b 4 rfl rfl rfl rfl rfl hl.1 (Nat.le_of_ble_eq_true rfl) dX3_interrupt_36 ⟨Nat.zero_le _, Nat.zero_le _⟩ (fun r10 u9 H locs hP hD hS hw => ?_)
  replace hP : va_P D vwCl (WP cB cI q0 q1 q2 q3 q4 q5 q6 q7 q8 q9 (ps_flags (ps_regs u3 u9) u7)) H := hP
  replace hD : va_D A (WP cB cI q0 q1 q2 q3 q4 q5 q6 q7 q8 q9 (ps_flags (ps_regs u3 u9) u7)) := hD
  refine cl_Vv (As := [.int r10]) (rest := []) (st := [.int r10, .ref q0]) S hK hA hP hD hS (fr_P (ps_flags (ps_regs u3 u9) u7)) (kcX3_push l D cB cI q0 q1 q2 q3 q4 q5 q6 q7 q8 q9 H.size r10 (ps_flags (ps_regs u3 u9) u7) _ hw) (cwV 1 hts gX3_interrupt_X3_push rfl rfl rfl (by decide +kernel) ⟨Nat.le_of_ble_eq_true rfl, Nat.le_of_ble_eq_true rfl⟩) tru_h tru_b 0 rfl rfl rfl rfl rfl hl.1 (Nat.le_of_ble_eq_true rfl) dX3_interrupt_39 ⟨Nat.zero_le _, Nat.zero_le _⟩ (fun u11 H locs hP hD hS hw => ?_)
  replace hP : va_P D vwCl (WP cB cI q0 q1 q2 q3 q4 q5 q6 q7 q8 q9 u11) H := hP
  replace hD : va_D A (WP cB cI q0 q1 q2 q3 q4 q5 q6 q7 q8 q9 u11) := hD
  refine lv_aload_n hx hb dX3_interrupt_42 rfl (lv_at hl 0 rfl) ?_
  refine lv_aload_n hx hb dX3_interrupt_43 rfl (lv_at hl 0 rfl) ?_
  refine va_get (D := D) (ci := 3) (v := .ref q4) (C := RX3) (T := TX3) (N := 8) hx hb hts i_X3 hown hK hP 0 rfl rfl 1 (by decide) f_21 (fun _ h9 => h9) rfl dX3_interrupt_44 ?_
  refine va_get (D := D) (ci := 4) (v := .int (r_ip (p_regs u11))) (C := RX4) (T := TX4) (N := 3) hx hb hts i_X4 hown hK hP 4 rfl rfl 2 (by decide) f_121 (fun _ h9 => h9) rfl dX3_interrupt_47 ?_
  refine cl_Vv (As := [.int (r_ip (p_regs u11))]) (rest := []) (st := [.int (r_ip (p_regs u11)), .ref q0]) S hK hA hP hD hS (fr_P u11) (kcX3_push l D cB cI q0 q1 q2 q3 q4 q5 q6 q7 q8 q9 H.size (r_ip (p_regs u11)) u11 _ hw) (cwV 1 hts gX3_interrupt_X3_push rfl rfl rfl (by decide +kernel) ⟨Nat.le_of_ble_eq_true rfl, Nat.le_of_ble_eq_true rfl⟩) tru_h tru_b 0 rfl rfl rfl rfl rfl hl.1 (Nat.le_of_ble_eq_true rfl) dX3_interrupt_50 ⟨Nat.zero_le _, Nat.zero_le _⟩ (fun u13 H locs hP hD hS hw => ?_)
  replace hP : va_P D vwCl (WP cB cI q0 q1 q2 q3 q4 q5 q6 q7 q8 q9 u13) H := hP
  replace hD : va_D A (WP cB cI q0 q1 q2 q3 q4 q5 q6 q7 q8 q9 u13) := hD
  refine lv_aload_n hx hb dX3_interrupt_53 rfl (lv_at hl 0 rfl) ?_
  refine va_get (D := D) (ci := 3) (v := .ref q4) (C := RX3) (T := TX3) (N := 8) hx hb hts i_X3 hown hK hP 0 rfl rfl 1 (by decide) f_21 (fun _ h9 => h9) rfl dX3_interrupt_54 ?_
  refine lv_aload_n hx hb dX3_interrupt_57 rfl (lv_at hl 0 rfl) ?_
  refine va_get (D := D) (ci := 3) (v := .ref q1) (C := RX3) (T := TX3) (N := 8) hx hb hts i_X3 hown hK hP 0 rfl rfl 0 (by decide) f_12 (fun _ h9 => h9) rfl dX3_interrupt_58 ?_
  refine lv_iconst (v := (0 : Int32)) hx hb dX3_interrupt_61 (by decide) ?_
  refine lv_iconst (v := (4 : Int32)) hx hb dX3_interrupt_62 (by decide) ?_
  refine lv_iload_n hx hb dX3_interrupt_63 rfl (lv_at hl 1 rfl) ?_
  refine lv_imul hx hb dX3_interrupt_64 ?_
  refine lv_iconst (v := (1 : Int32)) hx hb dX3_interrupt_65 (by decide) ?_
  refine cl_Vi (As := [.int (0 : Int32), .int ((4 : Int32) * a1), .int (1 : Int32)]) (rest := [.ref q4]) (st := [.int (1 : Int32), .int ((4 : Int32) * a1), .int (0 : Int32), .ref q1, .ref q4]) S hK hA hP hD hS (fr_P_M u13) (kcX2_load l D cB cI q1 q2 q3 H.size (0 : Int32) ((4 : Int32) * a1) (1 : Int32) (p_mem u13) _ hw) (cwV 3 hts gX3_interrupt_X2_load rfl rfl rfl (by decide +kernel) ⟨Nat.le_of_ble_eq_true rfl, Nat.le_of_ble_eq_true rfl⟩) tru_h tru_b 1 rfl rfl rfl rfl rfl hl.1 (Nat.le_of_ble_eq_true rfl) dX3_interrupt_66 ⟨Nat.zero_le _, Nat.zero_le _⟩ (fun r16 u15 H locs hP hD hS hw => ?_)
  replace hP : va_P D vwCl (WP cB cI q0 q1 q2 q3 q4 q5 q6 q7 q8 q9 (ps_mem u13 u15)) H := hP
  replace hD : va_D A (WP cB cI q0 q1 q2 q3 q4 q5 q6 q7 q8 q9 (ps_mem u13 u15)) := hD
  refine cl_Vv (As := [.int r16]) (rest := []) (st := [.int r16, .ref q4]) S hK hA hP hD hS (fr_P_R (ps_mem u13 u15)) (kcX4_moveTo l D cB cI q4 q5 q6 H.size r16 (p_regs u13) _ hw) (cwV 1 hts gX3_interrupt_X4_moveTo rfl rfl rfl (by decide +kernel) ⟨Nat.le_of_ble_eq_true rfl, Nat.le_of_ble_eq_true rfl⟩) tru_h tru_b 4 rfl rfl rfl rfl rfl hl.1 (Nat.le_of_ble_eq_true rfl) dX3_interrupt_69 ⟨Nat.zero_le _, Nat.zero_le _⟩ (fun u17 H locs hP hD hS hw => ?_)
  replace hP : va_P D vwCl (WP cB cI q0 q1 q2 q3 q4 q5 q6 q7 q8 q9 (ps_regs (ps_mem u13 u15) u17)) H := hP
  replace hD : va_D A (WP cB cI q0 q1 q2 q3 q4 q5 q6 q7 q8 q9 (ps_regs (ps_mem u13 u15) u17)) := hD
  refine lv_aload_n hx hb dX3_interrupt_72 rfl (lv_at hl 0 rfl) ?_
  refine va_get (D := D) (ci := 3) (v := .ref q4) (C := RX3) (T := TX3) (N := 8) hx hb hts i_X3 hown hK hP 0 rfl rfl 1 (by decide) f_21 (fun _ h9 => h9) rfl dX3_interrupt_73 ?_
  refine lv_iconst (v := (1 : Int32)) hx hb dX3_interrupt_76 (by decide) ?_
  refine lv_aload_n hx hb dX3_interrupt_77 rfl (lv_at hl 0 rfl) ?_
  refine va_get (D := D) (ci := 3) (v := .ref q1) (C := RX3) (T := TX3) (N := 8) hx hb hts i_X3 hown hK hP 0 rfl rfl 0 (by decide) f_12 (fun _ h9 => h9) rfl dX3_interrupt_78 ?_
  refine lv_iconst (v := (0 : Int32)) hx hb dX3_interrupt_81 (by decide) ?_
  refine lv_iconst (v := (4 : Int32)) hx hb dX3_interrupt_82 (by decide) ?_
  refine lv_iload_n hx hb dX3_interrupt_83 rfl (lv_at hl 1 rfl) ?_
  refine lv_imul hx hb dX3_interrupt_84 ?_
  refine lv_iconst (v := (2 : Int32)) hx hb dX3_interrupt_85 (by decide) ?_
  refine lv_iadd hx hb dX3_interrupt_86 ?_
  refine lv_iconst (v := (1 : Int32)) hx hb dX3_interrupt_87 (by decide) ?_
  refine cl_Vi (As := [.int (0 : Int32), .int (((4 : Int32) * a1) + (2 : Int32)), .int (1 : Int32)]) (rest := [.int (1 : Int32), .ref q4]) (st := [.int (1 : Int32), .int (((4 : Int32) * a1) + (2 : Int32)), .int (0 : Int32), .ref q1, .int (1 : Int32), .ref q4]) S hK hA hP hD hS (fr_P_M (ps_regs (ps_mem u13 u15) u17)) (kcX2_load l D cB cI q1 q2 q3 H.size (0 : Int32) (((4 : Int32) * a1) + (2 : Int32)) (1 : Int32) u15 _ hw) (cwV 3 hts gX3_interrupt_X2_load rfl rfl rfl (by decide +kernel) ⟨Nat.le_of_ble_eq_true rfl, Nat.le_of_ble_eq_true rfl⟩) tru_h tru_b 1 rfl rfl rfl rfl rfl hl.1 (Nat.le_of_ble_eq_true rfl) dX3_interrupt_88 ⟨Nat.zero_le _, Nat.zero_le _⟩ (fun r20 u19 H locs hP hD hS hw => ?_)
  replace hP : va_P D vwCl (WP cB cI q0 q1 q2 q3 q4 q5 q6 q7 q8 q9 (ps_regs (ps_mem u13 u19) u17)) H := hP
  replace hD : va_D A (WP cB cI q0 q1 q2 q3 q4 q5 q6 q7 q8 q9 (ps_regs (ps_mem u13 u19) u17)) := hD
  refine cl_Vv (As := [.int (1 : Int32), .int r20]) (rest := []) (st := [.int r20, .int (1 : Int32), .ref q4]) S hK hA hP hD hS (fr_P_R (ps_regs (ps_mem u13 u19) u17)) (kcX4_setSegment l D cB cI q4 q5 q6 H.size (1 : Int32) r20 u17 _ hw) (cwV 2 hts gX3_interrupt_X4_setSegment rfl rfl rfl (by decide +kernel) ⟨Nat.le_of_ble_eq_true rfl, Nat.le_of_ble_eq_true rfl⟩) tru_h tru_b 4 rfl rfl rfl rfl rfl hl.1 (Nat.le_of_ble_eq_true rfl) dX3_interrupt_91 ⟨Nat.zero_le _, Nat.zero_le _⟩ (fun u21 H locs hP hD hS hw => ?_)
  replace hP : va_P D vwCl (WP cB cI q0 q1 q2 q3 q4 q5 q6 q7 q8 q9 (ps_regs (ps_mem u13 u19) u21)) H := hP
  replace hD : va_D A (WP cB cI q0 q1 q2 q3 q4 q5 q6 q7 q8 q9 (ps_regs (ps_mem u13 u19) u21)) := hD
  exact rt_v (wo := (fun v => WP cB cI q0 q1 q2 q3 q4 q5 q6 q7 q8 q9 v)) S hr hlk (ps_regs (ps_mem u13 u19) u21) hP hS hw dX3_interrupt_94
-- X3_jump
def wX3_jump (a1 : Int32) (u : SP) (P : SP → Prop) : Prop := (wX4_moveTo ((r_ip (p_regs u)) + a1) (p_regs u) (fun u1 => (P (ps_regs u u1))))
set_option maxHeartbeats 4000000 in
set_option maxRecDepth 100000 in
theorem kcX3_jump (l : Launch) (D : va_G) (cB cI : ClassId) (q0 q1 q2 q3 q4 q5 q6 q7 q8 q9 : Nat) (sz : Nat) (a1 : Int32) (u : SP) (P : SP → Prop) (hw : wX3_jump a1 u P) : Met l yX3_jump wsX3_jump ({ frames := 1, cells := 0, slots := 0, locals := 21 } : Room) (va_Pc [.ref q0, .int a1] (Pcw D (tyA cB cI) (WP cB cI q0 q1 q2 q3 q4 q5 q6 q7 q8 q9 u) sz Tru)) (va_Qv P (fun u t => va_P D vwCl (WP cB cI q0 q1 q2 q3 q4 q5 q6 q7 q8 q9 u) t.heap) (va_A (WP cB cI q0 q1 q2 q3 q4 q5 q6 q7 q8 q9 u) sz)) 0 0 (va_A (WP cB cI q0 q1 q2 q3 q4 q5 q6 q7 q8 q9 u) sz) := by
  refine en_ (cc := cX3_jump) (maxL := 2) (ret := none) (own := RX3) (lv := [(0, .ref q0), (1, .int a1)]) (Qf := fun A => va_Qv P (fun u t => va_P D vwCl (WP cB cI q0 q1 q2 q3 q4 q5 q6 q7 q8 q9 u) t.heap) A) (by decide) rfl rfl (Nat.le_of_ble_eq_true rfl) rfl ?_
  intro p e s m below meth c A ls S hr hlk hname hsz hP hK hD hA hSub hS hE hl
  have hx := S.1
  have hb := S.2.1
  have hown := S.2.2.2.1
  have hts := S.2.2.2.2
  have i_X3 : ∀ w ∈ u_ws RX3 TX3 8, w ∈ wsX3_jump := by decide +kernel
  have i_X4 : ∀ w ∈ u_ws RX4 TX4 3, w ∈ wsX3_jump := by decide +kernel
  have f_21 := hts (.fieldLink RX3 21 "MachineCore$Processor" "registers" "LMachineCore$Registers;") (by decide +kernel)
  have f_121 := hts (.fieldLink RX3 121 "MachineCore$Registers" "ip" "I") (by decide +kernel)
  unfold wX3_jump at hw
  obtain ⟨H, eH⟩ : ∃ H, H = s.heap := ⟨_, rfl⟩
  obtain ⟨locs, eL⟩ : ∃ locs : List Loc, locs = [] := ⟨_, rfl⟩
  replace hP : va_P D vwCl (WP cB cI q0 q1 q2 q3 q4 q5 q6 q7 q8 q9 u) H := by rw [eH]; exact hP
  replace hS : va_S A s.heap H locs := by rw [eH, eL]; exact hS
  suffices hgo : W p l e ({ frames := 1, cells := 0, slots := 0, locals := 21 } : Room) s m ([.ref q0, .int a1] : List Value).toArray below meth c H locs 0 0 (MQ below (va_Qv P (fun u t => va_P D vwCl (WP cB cI q0 q1 q2 q3 q4 q5 q6 q7 q8 q9 u) t.heap) A) ([.ref q0, .int a1] : List Value).toArray s 0 0 A) (F0 m 0 ls []) by rw [eH, eL] at hgo; exact hgo
  clear eH eL
  refine lv_aload_n hx hb dX3_jump_0 rfl (lv_at hl 0 rfl) ?_
  refine va_get (D := D) (ci := 3) (v := .ref q4) (C := RX3) (T := TX3) (N := 8) hx hb hts i_X3 hown hK hP 0 rfl rfl 1 (by decide) f_21 (fun _ h9 => h9) rfl dX3_jump_1 ?_
  refine lv_aload_n hx hb dX3_jump_4 rfl (lv_at hl 0 rfl) ?_
  refine va_get (D := D) (ci := 3) (v := .ref q4) (C := RX3) (T := TX3) (N := 8) hx hb hts i_X3 hown hK hP 0 rfl rfl 1 (by decide) f_21 (fun _ h9 => h9) rfl dX3_jump_5 ?_
  refine va_get (D := D) (ci := 4) (v := .int (r_ip (p_regs u))) (C := RX4) (T := TX4) (N := 3) hx hb hts i_X4 hown hK hP 4 rfl rfl 2 (by decide) f_121 (fun _ h9 => h9) rfl dX3_jump_8 ?_
  refine lv_iload_n hx hb dX3_jump_11 rfl (lv_at hl 1 rfl) ?_
  refine lv_iadd hx hb dX3_jump_12 ?_
  refine cl_Vv (As := [.int ((r_ip (p_regs u)) + a1)]) (rest := []) (st := [.int ((r_ip (p_regs u)) + a1), .ref q4]) S hK hA hP hD hS (fr_P_R u) (kcX4_moveTo l D cB cI q4 q5 q6 H.size ((r_ip (p_regs u)) + a1) (p_regs u) _ hw) (cwV 1 hts gX3_jump_X4_moveTo rfl rfl rfl (by decide +kernel) ⟨Nat.le_of_ble_eq_true rfl, Nat.le_of_ble_eq_true rfl⟩) tru_h tru_b 4 rfl rfl rfl rfl rfl hl.1 (Nat.le_of_ble_eq_true rfl) dX3_jump_13 ⟨Nat.zero_le _, Nat.zero_le _⟩ (fun u1 H locs hP hD hS hw => ?_)
  replace hP : va_P D vwCl (WP cB cI q0 q1 q2 q3 q4 q5 q6 q7 q8 q9 (ps_regs u u1)) H := hP
  replace hD : va_D A (WP cB cI q0 q1 q2 q3 q4 q5 q6 q7 q8 q9 (ps_regs u u1)) := hD
  exact rt_v (wo := (fun v => WP cB cI q0 q1 q2 q3 q4 q5 q6 q7 q8 q9 v)) S hr hlk (ps_regs u u1) hP hS hw dX3_jump_16
-- X3_jumpIf
def wX3_jumpIf (a1 : Int32) (u : SP) (P : SP → Prop) : Prop := ((a1 = (0 : Int32) → (P u)) ∧ (¬ a1 = (0 : Int32) → (wX0_signed (c_first (p_code u)) (0 : Int32) () (fun r3 u2 => (wX3_jump r3 u (fun u4 => (P u4)))))))
set_option maxHeartbeats 4000000 in
set_option maxRecDepth 100000 in
theorem kcX3_jumpIf (l : Launch) (D : va_G) (cB cI : ClassId) (q0 q1 q2 q3 q4 q5 q6 q7 q8 q9 : Nat) (sz : Nat) (a1 : Int32) (u : SP) (P : SP → Prop) (hw : wX3_jumpIf a1 u P) : Met l yX3_jumpIf wsX3_jumpIf ({ frames := 2, cells := 0, slots := 0, locals := 42 } : Room) (va_Pc [.ref q0, .int a1] (Pcw D (tyA cB cI) (WP cB cI q0 q1 q2 q3 q4 q5 q6 q7 q8 q9 u) sz Tru)) (va_Qv P (fun u t => va_P D vwCl (WP cB cI q0 q1 q2 q3 q4 q5 q6 q7 q8 q9 u) t.heap) (va_A (WP cB cI q0 q1 q2 q3 q4 q5 q6 q7 q8 q9 u) sz)) 0 0 (va_A (WP cB cI q0 q1 q2 q3 q4 q5 q6 q7 q8 q9 u) sz) := by
  refine en_ (cc := cX3_jumpIf) (maxL := 2) (ret := none) (own := RX3) (lv := [(0, .ref q0), (1, .int a1)]) (Qf := fun A => va_Qv P (fun u t => va_P D vwCl (WP cB cI q0 q1 q2 q3 q4 q5 q6 q7 q8 q9 u) t.heap) A) (by decide) rfl rfl (Nat.le_of_ble_eq_true rfl) rfl ?_
  intro p e s m below meth c A ls S hr hlk hname hsz hP hK hD hA hSub hS hE hl
  have hx := S.1
  have hb := S.2.1
  have hown := S.2.2.2.1
  have hts := S.2.2.2.2
  have i_X1 : ∀ w ∈ u_ws RX1 TX1 12, w ∈ wsX3_jumpIf := by decide +kernel
  have i_X3 : ∀ w ∈ u_ws RX3 TX3 8, w ∈ wsX3_jumpIf := by decide +kernel
  have f_35 := hts (.fieldLink RX3 35 "MachineCore$Processor" "code" "LMachineCore$Code;") (by decide +kernel)
  have f_83 := hts (.fieldLink RX3 83 "MachineCore$Code" "first" "I") (by decide +kernel)
  unfold wX3_jumpIf at hw
  obtain ⟨H, eH⟩ : ∃ H, H = s.heap := ⟨_, rfl⟩
  obtain ⟨locs, eL⟩ : ∃ locs : List Loc, locs = [] := ⟨_, rfl⟩
  replace hP : va_P D vwCl (WP cB cI q0 q1 q2 q3 q4 q5 q6 q7 q8 q9 u) H := by rw [eH]; exact hP
  replace hS : va_S A s.heap H locs := by rw [eH, eL]; exact hS
  suffices hgo : W p l e ({ frames := 2, cells := 0, slots := 0, locals := 42 } : Room) s m ([.ref q0, .int a1] : List Value).toArray below meth c H locs 0 0 (MQ below (va_Qv P (fun u t => va_P D vwCl (WP cB cI q0 q1 q2 q3 q4 q5 q6 q7 q8 q9 u) t.heap) A) ([.ref q0, .int a1] : List Value).toArray s 0 0 A) (F0 m 0 ls []) by rw [eH, eL] at hgo; exact hgo
  clear eH eL
  refine lv_iload_n hx hb dX3_jumpIf_0 rfl (lv_at hl 1 rfl) ?_
  refine lv_if_eq (tgt := 19) hx hb dX3_jumpIf_1 (by decide) (fun c1 => ?_) (fun c1 => ?_)
  · replace hw := hw.1 c1
    exact rt_v (wo := (fun v => WP cB cI q0 q1 q2 q3 q4 q5 q6 q7 q8 q9 v)) S hr hlk u hP hS hw dX3_jumpIf_19
  · replace hw := hw.2 c1
    refine lv_aload_n hx hb dX3_jumpIf_4 rfl (lv_at hl 0 rfl) ?_
    refine lv_aload_n hx hb dX3_jumpIf_5 rfl (lv_at hl 0 rfl) ?_
    refine va_get (D := D) (ci := 3) (v := .ref q8) (C := RX3) (T := TX3) (N := 8) hx hb hts i_X3 hown hK hP 0 rfl rfl 3 (by decide) f_35 (fun _ h9 => h9) rfl dX3_jumpIf_6 ?_
    refine va_get (D := D) (ci := 1) (v := .int (c_first (p_code u))) (C := RX1) (T := TX1) (N := 12) hx hb hts i_X1 hown hK hP 8 rfl rfl 9 (by decide) f_83 (fun _ h9 => h9) rfl dX3_jumpIf_9 ?_
    refine lv_iconst (v := (0 : Int32)) hx hb dX3_jumpIf_12 (by decide) ?_
    refine cl_Si (As := [.int (c_first (p_code u)), .int (0 : Int32)]) (rest := [.ref q0]) (st := [.int (0 : Int32), .int (c_first (p_code u)), .ref q0]) S hK hA hP hD hS Fr_nil (kcX0_signed l D cB cI  H.size (c_first (p_code u)) (0 : Int32) () _ hw) (va_cwS 2 hts gX3_jumpIf_X0_signed rfl rfl rfl (by decide +kernel) ⟨Nat.le_of_ble_eq_true rfl, Nat.le_of_ble_eq_true rfl⟩) tru_h tru_b rfl rfl hl.1 (Nat.le_of_ble_eq_true rfl) dX3_jumpIf_13 ⟨Nat.zero_le _, Nat.zero_le _⟩ (fun r3 u2 H locs hP hD hS hw => ?_)
    replace hP : va_P D vwCl (WP cB cI q0 q1 q2 q3 q4 q5 q6 q7 q8 q9 u) H := hP
    replace hD : va_D A (WP cB cI q0 q1 q2 q3 q4 q5 q6 q7 q8 q9 u) := hD
    refine cl_Vv (As := [.int r3]) (rest := []) (st := [.int r3, .ref q0]) S hK hA hP hD hS (fr_P u) (kcX3_jump l D cB cI q0 q1 q2 q3 q4 q5 q6 q7 q8 q9 H.size r3 u _ hw) (cwV 1 hts gX3_jumpIf_X3_jump rfl rfl rfl (by decide +kernel) ⟨Nat.le_of_ble_eq_true rfl, Nat.le_of_ble_eq_true rfl⟩) tru_h tru_b 0 rfl rfl rfl rfl rfl hl.1 (Nat.le_of_ble_eq_true rfl) dX3_jumpIf_16 ⟨Nat.zero_le _, Nat.zero_le _⟩ (fun u4 H locs hP hD hS hw => ?_)
    replace hP : va_P D vwCl (WP cB cI q0 q1 q2 q3 q4 q5 q6 q7 q8 q9 u4) H := hP
    replace hD : va_D A (WP cB cI q0 q1 q2 q3 q4 q5 q6 q7 q8 q9 u4) := hD
    exact rt_v (wo := (fun v => WP cB cI q0 q1 q2 q3 q4 q5 q6 q7 q8 q9 v)) S hr hlk u4 hP hS hw dX3_jumpIf_19
-- X3_dividend
def wX3_dividend (a1 : Int32) (a2 : Int32) (u : SP) (P : Int64 → SP → Prop) : Prop := ((a1 = (0 : Int32) → ((a2 = (0 : Int32) → (wX3_a (1 : Int32) u (fun r9 u8 => (P (r9.toInt64) u8)))) ∧ (¬ a2 = (0 : Int32) → (wX3_a (1 : Int32) u (fun r11 u10 => (wX0_signed r11 (1 : Int32) () (fun r13 u12 => (P (r13.toInt64) u10)))))))) ∧ (¬ a1 = (0 : Int32) → (wX4_word (2 : Int32) (p_regs u) (fun r3 u2 => (wX3_a (1 : Int32) (ps_regs u u2) (fun r5 u4 => ((a2 = (0 : Int32) → (P ((((r3 <<< ((16 : Int32) &&& 31)) ||| r5).toInt64) &&& (4294967295 : Int64)) u4)) ∧ (¬ a2 = (0 : Int32) → (P (((r3 <<< ((16 : Int32) &&& 31)) ||| r5).toInt64) u4)))))))))
set_option maxHeartbeats 4000000 in
set_option maxRecDepth 100000 in
theorem kcX3_dividend (l : Launch) (D : va_G) (cB cI : ClassId) (q0 q1 q2 q3 q4 q5 q6 q7 q8 q9 : Nat) (sz : Nat) (a1 : Int32) (a2 : Int32) (u : SP) (P : Int64 → SP → Prop) (hw : wX3_dividend a1 a2 u P) : Met l yX3_dividend wsX3_dividend ({ frames := 2, cells := 0, slots := 0, locals := 43 } : Room) (va_Pc [.ref q0, .int a1, .int a2] (Pcw D (tyA cB cI) (WP cB cI q0 q1 q2 q3 q4 q5 q6 q7 q8 q9 u) sz Tru)) (va_Ql P (fun u t => va_P D vwCl (WP cB cI q0 q1 q2 q3 q4 q5 q6 q7 q8 q9 u) t.heap) (va_A (WP cB cI q0 q1 q2 q3 q4 q5 q6 q7 q8 q9 u) sz)) 0 0 (va_A (WP cB cI q0 q1 q2 q3 q4 q5 q6 q7 q8 q9 u) sz) := by
  refine en_ (cc := cX3_dividend) (maxL := 4) (ret := (some .long)) (own := RX3) (lv := [(0, .ref q0), (1, .int a1), (2, .int a2)]) (Qf := fun A => va_Ql P (fun u t => va_P D vwCl (WP cB cI q0 q1 q2 q3 q4 q5 q6 q7 q8 q9 u) t.heap) A) (by decide) rfl rfl (Nat.le_of_ble_eq_true rfl) rfl ?_
  intro p e s m below meth c A ls S hr hlk hname hsz hP hK hD hA hSub hS hE hl
  have hx := S.1
  have hb := S.2.1
  have hown := S.2.2.2.1
  have hts := S.2.2.2.2
  have i_X3 : ∀ w ∈ u_ws RX3 TX3 8, w ∈ wsX3_dividend := by decide +kernel
  have f_21 := hts (.fieldLink RX3 21 "MachineCore$Processor" "registers" "LMachineCore$Registers;") (by decide +kernel)
  have k_322 := hts (.constantLong RX3 322 (4294967295)) (by decide +kernel)
  unfold wX3_dividend at hw
  obtain ⟨H, eH⟩ : ∃ H, H = s.heap := ⟨_, rfl⟩
  obtain ⟨locs, eL⟩ : ∃ locs : List Loc, locs = [] := ⟨_, rfl⟩
  replace hP : va_P D vwCl (WP cB cI q0 q1 q2 q3 q4 q5 q6 q7 q8 q9 u) H := by rw [eH]; exact hP
  replace hS : va_S A s.heap H locs := by rw [eH, eL]; exact hS
  suffices hgo : W p l e ({ frames := 2, cells := 0, slots := 0, locals := 43 } : Room) s m ([.ref q0, .int a1, .int a2] : List Value).toArray below meth c H locs 0 0 (MQ below (va_Ql P (fun u t => va_P D vwCl (WP cB cI q0 q1 q2 q3 q4 q5 q6 q7 q8 q9 u) t.heap) A) ([.ref q0, .int a1, .int a2] : List Value).toArray s 0 0 A) (F0 m 0 ls []) by rw [eH, eL] at hgo; exact hgo
  clear eH eL
  refine lv_iload_n hx hb dX3_dividend_0 rfl (lv_at hl 1 rfl) ?_
  refine lv_if_ne (tgt := 28) hx hb dX3_dividend_1 (by decide) (fun c1 => ?_) (fun c1 => ?_)
  · replace hw := hw.2 c1
    refine lv_aload_n hx hb dX3_dividend_28 rfl (lv_at hl 0 rfl) ?_
    refine va_get (D := D) (ci := 3) (v := .ref q4) (C := RX3) (T := TX3) (N := 8) hx hb hts i_X3 hown hK hP 0 rfl rfl 1 (by decide) f_21 (fun _ h9 => h9) rfl dX3_dividend_29 ?_
    refine lv_iconst (v := (2 : Int32)) hx hb dX3_dividend_32 (by decide) ?_
    refine cl_Vi (As := [.int (2 : Int32)]) (rest := []) (st := [.int (2 : Int32), .ref q4]) S hK hA hP hD hS (fr_P_R u) (kcX4_word l D cB cI q4 q5 q6 H.size (2 : Int32) (p_regs u) _ hw) (cwV 1 hts gX3_dividend_X4_word rfl rfl rfl (by decide +kernel) ⟨Nat.le_of_ble_eq_true rfl, Nat.le_of_ble_eq_true rfl⟩) tru_h tru_b 4 rfl rfl rfl rfl rfl hl.1 (Nat.le_of_ble_eq_true rfl) dX3_dividend_33 ⟨Nat.zero_le _, Nat.zero_le _⟩ (fun r3 u2 H locs hP hD hS hw => ?_)
    replace hP : va_P D vwCl (WP cB cI q0 q1 q2 q3 q4 q5 q6 q7 q8 q9 (ps_regs u u2)) H := hP
    replace hD : va_D A (WP cB cI q0 q1 q2 q3 q4 q5 q6 q7 q8 q9 (ps_regs u u2)) := hD
    refine lv_bipush (v := (16 : Int32)) hx hb dX3_dividend_36 (by decide) ?_
    refine lv_ishl hx hb dX3_dividend_38 ?_
    refine lv_aload_n hx hb dX3_dividend_39 rfl (lv_at hl 0 rfl) ?_
    refine lv_iconst (v := (1 : Int32)) hx hb dX3_dividend_40 (by decide) ?_
    refine cl_Vi (As := [.int (1 : Int32)]) (rest := [.int (r3 <<< ((16 : Int32) &&& 31))]) (st := [.int (1 : Int32), .ref q0, .int (r3 <<< ((16 : Int32) &&& 31))]) S hK hA hP hD hS (fr_P (ps_regs u u2)) (kcX3_a l D cB cI q0 q1 q2 q3 q4 q5 q6 q7 q8 q9 H.size (1 : Int32) (ps_regs u u2) _ hw) (cwV 1 hts gX3_dividend_X3_a rfl rfl rfl (by decide +kernel) ⟨Nat.le_of_ble_eq_true rfl, Nat.le_of_ble_eq_true rfl⟩) tru_h tru_b 0 rfl rfl rfl rfl rfl hl.1 (Nat.le_of_ble_eq_true rfl) dX3_dividend_41 ⟨Nat.zero_le _, Nat.zero_le _⟩ (fun r5 u4 H locs hP hD hS hw => ?_)
    replace hP : va_P D vwCl (WP cB cI q0 q1 q2 q3 q4 q5 q6 q7 q8 q9 u4) H := hP
    replace hD : va_D A (WP cB cI q0 q1 q2 q3 q4 q5 q6 q7 q8 q9 u4) := hD
    refine lv_ior hx hb dX3_dividend_44 ?_
    refine lv_istore_n (lv' := [(3, .int ((r3 <<< ((16 : Int32) &&& 31)) ||| r5)), (0, .ref q0), (1, .int a1), (2, .int a2)]) hx hb dX3_dividend_45 rfl hl (by decide) rfl (fun ls hl => ?_)
    refine lv_iload_n hx hb dX3_dividend_46 rfl (lv_at hl 3 rfl) ?_
    refine lv_if_eq (tgt := 55) hx hb dX3_dividend_47 (by decide) (fun c6 => ?_) (fun c6 => ?_)
    · replace hw := hw.1 c6
      refine lv_iload_n hx hb dX3_dividend_55 rfl (lv_at hl 0 rfl) ?_
      refine lv_i2l (v := (((r3 <<< ((16 : Int32) &&& 31)) ||| r5).toInt64)) hx hb dX3_dividend_56 rfl ?_
      refine lv_ldc2 (v := (4294967295 : Int64)) hx hb hown k_322 dX3_dividend_57 ?_
      refine lv_land hx hb dX3_dividend_60 ?_
      exact rt_l (wo := (fun v => WP cB cI q0 q1 q2 q3 q4 q5 q6 q7 q8 q9 v)) S hr hlk u4 hP hS hw dX3_dividend_61
    · replace hw := hw.2 c6
      refine lv_iload_n hx hb dX3_dividend_50 rfl (lv_at hl 0 rfl) ?_
      refine lv_i2l (v := (((r3 <<< ((16 : Int32) &&& 31)) ||| r5).toInt64)) hx hb dX3_dividend_51 rfl ?_
      refine lv_goto (tgt := 61) hx hb dX3_dividend_52 (by decide) ?_
      exact rt_l (wo := (fun v => WP cB cI q0 q1 q2 q3 q4 q5 q6 q7 q8 q9 v)) S hr hlk u4 hP hS hw dX3_dividend_61
  · replace hw := hw.1 c1
    refine lv_iload_n hx hb dX3_dividend_4 rfl (lv_at hl 2 rfl) ?_
    refine lv_if_eq (tgt := 21) hx hb dX3_dividend_5 (by decide) (fun c7 => ?_) (fun c7 => ?_)
    · replace hw := hw.1 c7
      refine lv_aload_n hx hb dX3_dividend_21 rfl (lv_at hl 0 rfl) ?_
      refine lv_iconst (v := (1 : Int32)) hx hb dX3_dividend_22 (by decide) ?_
      refine cl_Vi (As := [.int (1 : Int32)]) (rest := []) (st := [.int (1 : Int32), .ref q0]) S hK hA hP hD hS (fr_P u) (kcX3_a l D cB cI q0 q1 q2 q3 q4 q5 q6 q7 q8 q9 H.size (1 : Int32) u _ hw) (cwV 1 hts gX3_dividend_X3_a rfl rfl rfl (by decide +kernel) ⟨Nat.le_of_ble_eq_true rfl, Nat.le_of_ble_eq_true rfl⟩) tru_h tru_b 0 rfl rfl rfl rfl rfl hl.1 (Nat.le_of_ble_eq_true rfl) dX3_dividend_23 ⟨Nat.zero_le _, Nat.zero_le _⟩ (fun r9 u8 H locs hP hD hS hw => ?_)
      replace hP : va_P D vwCl (WP cB cI q0 q1 q2 q3 q4 q5 q6 q7 q8 q9 u8) H := hP
      replace hD : va_D A (WP cB cI q0 q1 q2 q3 q4 q5 q6 q7 q8 q9 u8) := hD
      refine lv_i2l (v := (r9.toInt64)) hx hb dX3_dividend_26 rfl ?_
      exact rt_l (wo := (fun v => WP cB cI q0 q1 q2 q3 q4 q5 q6 q7 q8 q9 v)) S hr hlk u8 hP hS hw dX3_dividend_27
    · replace hw := hw.2 c7
      refine lv_aload_n hx hb dX3_dividend_8 rfl (lv_at hl 0 rfl) ?_
      refine lv_iconst (v := (1 : Int32)) hx hb dX3_dividend_9 (by decide) ?_
      refine cl_Vi (As := [.int (1 : Int32)]) (rest := []) (st := [.int (1 : Int32), .ref q0]) S hK hA hP hD hS (fr_P u) (kcX3_a l D cB cI q0 q1 q2 q3 q4 q5 q6 q7 q8 q9 H.size (1 : Int32) u _ hw) (cwV 1 hts gX3_dividend_X3_a rfl rfl rfl (by decide +kernel) ⟨Nat.le_of_ble_eq_true rfl, Nat.le_of_ble_eq_true rfl⟩) tru_h tru_b 0 rfl rfl rfl rfl rfl hl.1 (Nat.le_of_ble_eq_true rfl) dX3_dividend_10 ⟨Nat.zero_le _, Nat.zero_le _⟩ (fun r11 u10 H locs hP hD hS hw => ?_)
      replace hP : va_P D vwCl (WP cB cI q0 q1 q2 q3 q4 q5 q6 q7 q8 q9 u10) H := hP
      replace hD : va_D A (WP cB cI q0 q1 q2 q3 q4 q5 q6 q7 q8 q9 u10) := hD
      refine lv_iconst (v := (1 : Int32)) hx hb dX3_dividend_13 (by decide) ?_
      refine cl_Si (As := [.int r11, .int (1 : Int32)]) (rest := []) (st := [.int (1 : Int32), .int r11]) S hK hA hP hD hS Fr_nil (kcX0_signed l D cB cI  H.size r11 (1 : Int32) () _ hw) (va_cwS 2 hts gX3_dividend_X0_signed rfl rfl rfl (by decide +kernel) ⟨Nat.le_of_ble_eq_true rfl, Nat.le_of_ble_eq_true rfl⟩) tru_h tru_b rfl rfl hl.1 (Nat.le_of_ble_eq_true rfl) dX3_dividend_14 ⟨Nat.zero_le _, Nat.zero_le _⟩ (fun r13 u12 H locs hP hD hS hw => ?_)
      replace hP : va_P D vwCl (WP cB cI q0 q1 q2 q3 q4 q5 q6 q7 q8 q9 u10) H := hP
      replace hD : va_D A (WP cB cI q0 q1 q2 q3 q4 q5 q6 q7 q8 q9 u10) := hD
      refine lv_i2l (v := (r13.toInt64)) hx hb dX3_dividend_17 rfl ?_
      refine lv_goto (tgt := 27) hx hb dX3_dividend_18 (by decide) ?_
      exact rt_l (wo := (fun v => WP cB cI q0 q1 q2 q3 q4 q5 q6 q7 q8 q9 v)) S hr hlk u10 hP hS hw dX3_dividend_27
-- X3_e
def wX3_e (a1 : Int32) (u : SP) (P : Int32 → SP → Prop) : Prop := (wX1_inRegister  (p_code u) (fun r2 u1 => ((r2 = (0 : Int32) → (wX2_load (c_eSegment u1) (c_offset u1) a1 (p_mem u) (fun r5 u4 => (P r5 (ps_code (ps_mem u u4) u1))))) ∧ (¬ r2 = (0 : Int32) → (wX4_value (c_m u1) a1 (p_regs u) (fun r7 u6 => (P r7 (ps_code (ps_regs u u6) u1))))))))
set_option maxHeartbeats 4000000 in
set_option maxRecDepth 100000 in
theorem kcX3_e (l : Launch) (D : va_G) (cB cI : ClassId) (q0 q1 q2 q3 q4 q5 q6 q7 q8 q9 : Nat) (sz : Nat) (a1 : Int32) (u : SP) (P : Int32 → SP → Prop) (hw : wX3_e a1 u P) : Met l yX3_e wsX3_e ({ frames := 2, cells := 0, slots := 0, locals := 46 } : Room) (va_Pc [.ref q0, .int a1] (Pcw D (tyA cB cI) (WP cB cI q0 q1 q2 q3 q4 q5 q6 q7 q8 q9 u) sz Tru)) (va_Qi P (fun u t => va_P D vwCl (WP cB cI q0 q1 q2 q3 q4 q5 q6 q7 q8 q9 u) t.heap) (va_A (WP cB cI q0 q1 q2 q3 q4 q5 q6 q7 q8 q9 u) sz)) 0 0 (va_A (WP cB cI q0 q1 q2 q3 q4 q5 q6 q7 q8 q9 u) sz) := by
  refine en_ (cc := cX3_e) (maxL := 2) (ret := (some .int)) (own := RX3) (lv := [(0, .ref q0), (1, .int a1)]) (Qf := fun A => va_Qi P (fun u t => va_P D vwCl (WP cB cI q0 q1 q2 q3 q4 q5 q6 q7 q8 q9 u) t.heap) A) (by decide) rfl rfl (Nat.le_of_ble_eq_true rfl) rfl ?_
  intro p e s m below meth c A ls S hr hlk hname hsz hP hK hD hA hSub hS hE hl
  have hx := S.1
  have hb := S.2.1
  have hown := S.2.2.2.1
  have hts := S.2.2.2.2
  have i_X1 : ∀ w ∈ u_ws RX1 TX1 12, w ∈ wsX3_e := by decide +kernel
  have i_X3 : ∀ w ∈ u_ws RX3 TX3 8, w ∈ wsX3_e := by decide +kernel
  have f_12 := hts (.fieldLink RX3 12 "MachineCore$Processor" "memory" "LMachineCore$Memory;") (by decide +kernel)
  have f_21 := hts (.fieldLink RX3 21 "MachineCore$Processor" "registers" "LMachineCore$Registers;") (by decide +kernel)
  have f_35 := hts (.fieldLink RX3 35 "MachineCore$Processor" "code" "LMachineCore$Code;") (by decide +kernel)
  have f_155 := hts (.fieldLink RX3 155 "MachineCore$Code" "m" "I") (by decide +kernel)
  have f_162 := hts (.fieldLink RX3 162 "MachineCore$Code" "eSegment" "I") (by decide +kernel)
  have f_165 := hts (.fieldLink RX3 165 "MachineCore$Code" "offset" "I") (by decide +kernel)
  unfold wX3_e at hw
  obtain ⟨H, eH⟩ : ∃ H, H = s.heap := ⟨_, rfl⟩
  obtain ⟨locs, eL⟩ : ∃ locs : List Loc, locs = [] := ⟨_, rfl⟩
  replace hP : va_P D vwCl (WP cB cI q0 q1 q2 q3 q4 q5 q6 q7 q8 q9 u) H := by rw [eH]; exact hP
  replace hS : va_S A s.heap H locs := by rw [eH, eL]; exact hS
  suffices hgo : W p l e ({ frames := 2, cells := 0, slots := 0, locals := 46 } : Room) s m ([.ref q0, .int a1] : List Value).toArray below meth c H locs 0 0 (MQ below (va_Qi P (fun u t => va_P D vwCl (WP cB cI q0 q1 q2 q3 q4 q5 q6 q7 q8 q9 u) t.heap) A) ([.ref q0, .int a1] : List Value).toArray s 0 0 A) (F0 m 0 ls []) by rw [eH, eL] at hgo; exact hgo
  clear eH eL
  refine lv_aload_n hx hb dX3_e_0 rfl (lv_at hl 0 rfl) ?_
  refine va_get (D := D) (ci := 3) (v := .ref q8) (C := RX3) (T := TX3) (N := 8) hx hb hts i_X3 hown hK hP 0 rfl rfl 3 (by decide) f_35 (fun _ h9 => h9) rfl dX3_e_1 ?_
  refine cl_Vi (As := []) (rest := []) (st := [.ref q8]) S hK hA hP hD hS (fr_P_C u) (kcX1_inRegister l D cB cI q8 H.size  (p_code u) _ hw) (cwV 0 hts gX3_e_X1_inRegister rfl rfl rfl (by decide +kernel) ⟨Nat.le_of_ble_eq_true rfl, Nat.le_of_ble_eq_true rfl⟩) tru_h tru_b 8 rfl rfl rfl rfl rfl hl.1 (Nat.le_of_ble_eq_true rfl) dX3_e_4 ⟨Nat.zero_le _, Nat.zero_le _⟩ (fun r2 u1 H locs hP hD hS hw => ?_)
  replace hP : va_P D vwCl (WP cB cI q0 q1 q2 q3 q4 q5 q6 q7 q8 q9 (ps_code u u1)) H := hP
  replace hD : va_D A (WP cB cI q0 q1 q2 q3 q4 q5 q6 q7 q8 q9 (ps_code u u1)) := hD
  refine lv_if_eq (tgt := 28) hx hb dX3_e_7 (by decide) (fun c3 => ?_) (fun c3 => ?_)
  · replace hw := hw.1 c3
    refine lv_aload_n hx hb dX3_e_28 rfl (lv_at hl 0 rfl) ?_
    refine va_get (D := D) (ci := 3) (v := .ref q1) (C := RX3) (T := TX3) (N := 8) hx hb hts i_X3 hown hK hP 0 rfl rfl 0 (by decide) f_12 (fun _ h9 => h9) rfl dX3_e_29 ?_
    refine lv_aload_n hx hb dX3_e_32 rfl (lv_at hl 0 rfl) ?_
    refine va_get (D := D) (ci := 3) (v := .ref q8) (C := RX3) (T := TX3) (N := 8) hx hb hts i_X3 hown hK hP 0 rfl rfl 3 (by decide) f_35 (fun _ h9 => h9) rfl dX3_e_33 ?_
    refine va_get (D := D) (ci := 1) (v := .int (c_eSegment u1)) (C := RX1) (T := TX1) (N := 12) hx hb hts i_X1 hown hK hP 8 rfl rfl 7 (by decide) f_162 (fun _ h9 => h9) rfl dX3_e_36 ?_
    refine lv_aload_n hx hb dX3_e_39 rfl (lv_at hl 0 rfl) ?_
    refine va_get (D := D) (ci := 3) (v := .ref q8) (C := RX3) (T := TX3) (N := 8) hx hb hts i_X3 hown hK hP 0 rfl rfl 3 (by decide) f_35 (fun _ h9 => h9) rfl dX3_e_40 ?_
    refine va_get (D := D) (ci := 1) (v := .int (c_offset u1)) (C := RX1) (T := TX1) (N := 12) hx hb hts i_X1 hown hK hP 8 rfl rfl 8 (by decide) f_165 (fun _ h9 => h9) rfl dX3_e_43 ?_
    refine lv_iload_n hx hb dX3_e_46 rfl (lv_at hl 1 rfl) ?_
    refine cl_Vi (As := [.int (c_eSegment u1), .int (c_offset u1), .int a1]) (rest := []) (st := [.int a1, .int (c_offset u1), .int (c_eSegment u1), .ref q1]) S hK hA hP hD hS (fr_P_M (ps_code u u1)) (kcX2_load l D cB cI q1 q2 q3 H.size (c_eSegment u1) (c_offset u1) a1 (p_mem u) _ hw) (cwV 3 hts gX3_e_X2_load rfl rfl rfl (by decide +kernel) ⟨Nat.le_of_ble_eq_true rfl, Nat.le_of_ble_eq_true rfl⟩) tru_h tru_b 1 rfl rfl rfl rfl rfl hl.1 (Nat.le_of_ble_eq_true rfl) dX3_e_47 ⟨Nat.zero_le _, Nat.zero_le _⟩ (fun r5 u4 H locs hP hD hS hw => ?_)
    replace hP : va_P D vwCl (WP cB cI q0 q1 q2 q3 q4 q5 q6 q7 q8 q9 (ps_code (ps_mem u u4) u1)) H := hP
    replace hD : va_D A (WP cB cI q0 q1 q2 q3 q4 q5 q6 q7 q8 q9 (ps_code (ps_mem u u4) u1)) := hD
    exact rt_i (wo := (fun v => WP cB cI q0 q1 q2 q3 q4 q5 q6 q7 q8 q9 v)) S hr hlk (ps_code (ps_mem u u4) u1) hP hS hw dX3_e_50
  · replace hw := hw.2 c3
    refine lv_aload_n hx hb dX3_e_10 rfl (lv_at hl 0 rfl) ?_
    refine va_get (D := D) (ci := 3) (v := .ref q4) (C := RX3) (T := TX3) (N := 8) hx hb hts i_X3 hown hK hP 0 rfl rfl 1 (by decide) f_21 (fun _ h9 => h9) rfl dX3_e_11 ?_
    refine lv_aload_n hx hb dX3_e_14 rfl (lv_at hl 0 rfl) ?_
    refine va_get (D := D) (ci := 3) (v := .ref q8) (C := RX3) (T := TX3) (N := 8) hx hb hts i_X3 hown hK hP 0 rfl rfl 3 (by decide) f_35 (fun _ h9 => h9) rfl dX3_e_15 ?_
    refine va_get (D := D) (ci := 1) (v := .int (c_m u1)) (C := RX1) (T := TX1) (N := 12) hx hb hts i_X1 hown hK hP 8 rfl rfl 6 (by decide) f_155 (fun _ h9 => h9) rfl dX3_e_18 ?_
    refine lv_iload_n hx hb dX3_e_21 rfl (lv_at hl 1 rfl) ?_
    refine cl_Vi (As := [.int (c_m u1), .int a1]) (rest := []) (st := [.int a1, .int (c_m u1), .ref q4]) S hK hA hP hD hS (fr_P_R (ps_code u u1)) (kcX4_value l D cB cI q4 q5 q6 H.size (c_m u1) a1 (p_regs u) _ hw) (cwV 2 hts gX3_e_X4_value rfl rfl rfl (by decide +kernel) ⟨Nat.le_of_ble_eq_true rfl, Nat.le_of_ble_eq_true rfl⟩) tru_h tru_b 4 rfl rfl rfl rfl rfl hl.1 (Nat.le_of_ble_eq_true rfl) dX3_e_22 ⟨Nat.zero_le _, Nat.zero_le _⟩ (fun r7 u6 H locs hP hD hS hw => ?_)
    replace hP : va_P D vwCl (WP cB cI q0 q1 q2 q3 q4 q5 q6 q7 q8 q9 (ps_code (ps_regs u u6) u1)) H := hP
    replace hD : va_D A (WP cB cI q0 q1 q2 q3 q4 q5 q6 q7 q8 q9 (ps_code (ps_regs u u6) u1)) := hD
    refine lv_goto (tgt := 50) hx hb dX3_e_25 (by decide) ?_
    exact rt_i (wo := (fun v => WP cB cI q0 q1 q2 q3 q4 q5 q6 q7 q8 q9 v)) S hr hlk (ps_code (ps_regs u u6) u1) hP hS hw dX3_e_50
-- X3_divide
def wX3_divide_b95 (a1 : Int32) (P : SP → Prop) (x2 : Int32) (x3 : Int64) (x5 : Int64) (s1 : Int32) (u : SP) : Prop := (¬ x3 = (0 : Int64) ∧ (wX4_give s1 ((x5 - x5 / x3 * x3).toInt32) x2 (p_regs u) (fun u19 => (P (ps_regs u u19)))))
def wX3_divide_b31 (a1 : Int32) (P : SP → Prop) (x2 : Int32) (s0 : Int64) (u : SP) : Prop := (((lg_cmp s0 (0 : Int64)) = (0 : Int32) → (P (ps_called u (0 : Int32)))) ∧ (¬ (lg_cmp s0 (0 : Int64)) = (0 : Int32) → (wX3_dividend x2 a1 u (fun r12 u11 => (¬ s0 = (0 : Int64) ∧ (wX0_fits (r12 / s0) x2 a1 () (fun r14 u13 => ((r14 = (0 : Int32) → (P (ps_called u11 (0 : Int32)))) ∧ (¬ r14 = (0 : Int32) → (wX3_giveA ((r12 / s0).toInt32) x2 u11 (fun u16 => ((x2 = (0 : Int32) → (wX3_divide_b95 a1 P x2 s0 r12 (4 : Int32) u16)) ∧ (¬ x2 = (0 : Int32) → (wX3_divide_b95 a1 P x2 s0 r12 (2 : Int32) u16))))))))))))))
def wX3_divide (a1 : Int32) (u : SP) (P : SP → Prop) : Prop := (wX1_wide  (p_code u) (fun r2 u1 => ((a1 = (0 : Int32) → (wX3_e r2 (ps_code u u1) (fun r5 u4 => (wX3_divide_b31 a1 P r2 (r5.toInt64) u4)))) ∧ (¬ a1 = (0 : Int32) → (wX3_e r2 (ps_code u u1) (fun r7 u6 => (wX0_signed r7 r2 () (fun r9 u8 => (wX3_divide_b31 a1 P r2 (r9.toInt64) u6)))))))))
set_option maxHeartbeats 4000000 in
set_option maxRecDepth 100000 in
theorem kcX3_divide (l : Launch) (D : va_G) (cB cI : ClassId) (q0 q1 q2 q3 q4 q5 q6 q7 q8 q9 : Nat) (sz : Nat) (a1 : Int32) (u : SP) (P : SP → Prop) (hw : wX3_divide a1 u P) : Met l yX3_divide wsX3_divide ({ frames := 3, cells := 0, slots := 0, locals := 67 } : Room) (va_Pc [.ref q0, .int a1] (Pcw D (tyA cB cI) (WP cB cI q0 q1 q2 q3 q4 q5 q6 q7 q8 q9 u) sz Tru)) (va_Qv P (fun u t => va_P D vwCl (WP cB cI q0 q1 q2 q3 q4 q5 q6 q7 q8 q9 u) t.heap) (va_A (WP cB cI q0 q1 q2 q3 q4 q5 q6 q7 q8 q9 u) sz)) 0 0 (va_A (WP cB cI q0 q1 q2 q3 q4 q5 q6 q7 q8 q9 u) sz) := by
  refine en_ (cc := cX3_divide) (maxL := 9) (ret := none) (own := RX3) (lv := [(0, .ref q0), (1, .int a1)]) (Qf := fun A => va_Qv P (fun u t => va_P D vwCl (WP cB cI q0 q1 q2 q3 q4 q5 q6 q7 q8 q9 u) t.heap) A) (by decide) rfl rfl (Nat.le_of_ble_eq_true rfl) rfl ?_
  intro p e s m below meth c A ls S hr hlk hname hsz hP hK hD hA hSub hS hE hl
  have hx := S.1
  have hb := S.2.1
  have hown := S.2.2.2.1
  have hts := S.2.2.2.2
  have i_X3 : ∀ w ∈ u_ws RX3 TX3 8, w ∈ wsX3_divide := by decide +kernel
  have f_21 := hts (.fieldLink RX3 21 "MachineCore$Processor" "registers" "LMachineCore$Registers;") (by decide +kernel)
  have f_35 := hts (.fieldLink RX3 35 "MachineCore$Processor" "code" "LMachineCore$Code;") (by decide +kernel)
  have f_43 := hts (.fieldLink RX3 43 "MachineCore$Processor" "called" "I") (by decide +kernel)
  have b95 : ∀ (x2 : Int32) (x3 : Int64) (x5 : Int64) (s1 : Int32) (u : SP) (H : Heap) (locs : List Loc) (ls : Array Slot), va_P D vwCl (WP cB cI q0 q1 q2 q3 q4 q5 q6 q7 q8 q9 u) H → va_D A (WP cB cI q0 q1 q2 q3 q4 q5 q6 q7 q8 q9 u) → va_S A s.heap H locs → lv_has ls 9 [(2, .int x2), (3, .long x3), (5, .long x5)] → wX3_divide_b95 a1 P x2 x3 x5 s1 u → W p l e ({ frames := 3, cells := 0, slots := 0, locals := 67 } : Room) s m ([.ref q0, .int a1] : List Value).toArray below meth c H locs 0 0 (MQ below (va_Qv P (fun u t => va_P D vwCl (WP cB cI q0 q1 q2 q3 q4 q5 q6 q7 q8 q9 u) t.heap) A) ([.ref q0, .int a1] : List Value).toArray s 0 0 A) (F0 m 95 ls [.int s1, .ref q4]) := by
    intro x2 x3 x5 s1 u H locs ls hP hD hS hl hw
    unfold wX3_divide_b95 at hw
    refine lv_lload hx hb dX3_divide_95 (lv_at hl 2 rfl) ?_
    refine lv_lload_n hx hb dX3_divide_97 rfl (lv_at hl 1 rfl) ?_
    refine lv_lrem hx hb dX3_divide_98 hw.1 ?_
    replace hw := hw.2
    refine lv_l2i (v := ((x5 - x5 / x3 * x3).toInt32)) hx hb dX3_divide_99 rfl ?_
    refine lv_iload_n hx hb dX3_divide_100 rfl (lv_at hl 0 rfl) ?_
    refine cl_Vv (As := [.int s1, .int ((x5 - x5 / x3 * x3).toInt32), .int x2]) (rest := []) (st := [.int x2, .int ((x5 - x5 / x3 * x3).toInt32), .int s1, .ref q4]) S hK hA hP hD hS (fr_P_R u) (kcX4_give l D cB cI q4 q5 q6 H.size s1 ((x5 - x5 / x3 * x3).toInt32) x2 (p_regs u) _ hw) (cwV 3 hts gX3_divide_X4_give rfl rfl rfl (by decide +kernel) ⟨Nat.le_of_ble_eq_true rfl, Nat.le_of_ble_eq_true rfl⟩) tru_h tru_b 4 rfl rfl rfl rfl rfl hl.1 (Nat.le_of_ble_eq_true rfl) dX3_divide_101 ⟨Nat.zero_le _, Nat.zero_le _⟩ (fun u19 H locs hP hD hS hw => ?_)
    replace hP : va_P D vwCl (WP cB cI q0 q1 q2 q3 q4 q5 q6 q7 q8 q9 (ps_regs u u19)) H := hP
    replace hD : va_D A (WP cB cI q0 q1 q2 q3 q4 q5 q6 q7 q8 q9 (ps_regs u u19)) := hD
    exact rt_v (wo := (fun v => WP cB cI q0 q1 q2 q3 q4 q5 q6 q7 q8 q9 v)) S hr hlk (ps_regs u u19) hP hS hw dX3_divide_104
  have b31 : ∀ (x2 : Int32) (s0 : Int64) (u : SP) (H : Heap) (locs : List Loc) (ls : Array Slot), va_P D vwCl (WP cB cI q0 q1 q2 q3 q4 q5 q6 q7 q8 q9 u) H → va_D A (WP cB cI q0 q1 q2 q3 q4 q5 q6 q7 q8 q9 u) → va_S A s.heap H locs → lv_has ls 9 [(0, .ref q0), (1, .int a1), (2, .int x2)] → wX3_divide_b31 a1 P x2 s0 u → W p l e ({ frames := 3, cells := 0, slots := 0, locals := 67 } : Room) s m ([.ref q0, .int a1] : List Value).toArray below meth c H locs 0 0 (MQ below (va_Qv P (fun u t => va_P D vwCl (WP cB cI q0 q1 q2 q3 q4 q5 q6 q7 q8 q9 u) t.heap) A) ([.ref q0, .int a1] : List Value).toArray s 0 0 A) (F0 m 31 ls [.long s0]) := by
    intro x2 s0 u H locs ls hP hD hS hl hw
    unfold wX3_divide_b31 at hw
    refine lv_lstore_n (lv' := [(3, .long s0), (0, .ref q0), (1, .int a1), (2, .int x2)]) hx hb dX3_divide_31 rfl hl (by decide) rfl (fun ls hl => ?_)
    refine lv_lload_n hx hb dX3_divide_32 rfl (lv_at hl 0 rfl) ?_
    refine lv_lconst (v := (0 : Int64)) hx hb dX3_divide_33 (by decide) ?_
    refine W.lcmp hx hb dX3_divide_34 ?_
    refine lv_if_ne (tgt := 44) hx hb dX3_divide_35 (by decide) (fun c10 => ?_) (fun c10 => ?_)
    · replace hw := hw.2 c10
      refine lv_aload_n hx hb dX3_divide_44 rfl (lv_at hl 1 rfl) ?_
      refine lv_iload_n hx hb dX3_divide_45 rfl (lv_at hl 3 rfl) ?_
      refine lv_iload_n hx hb dX3_divide_46 rfl (lv_at hl 2 rfl) ?_
      refine cl_Vl (As := [.int x2, .int a1]) (rest := []) (st := [.int a1, .int x2, .ref q0]) S hK hA hP hD hS (fr_P u) (kcX3_dividend l D cB cI q0 q1 q2 q3 q4 q5 q6 q7 q8 q9 H.size x2 a1 u _ hw) (cwV 2 hts gX3_divide_X3_dividend rfl rfl rfl (by decide +kernel) ⟨Nat.le_of_ble_eq_true rfl, Nat.le_of_ble_eq_true rfl⟩) tru_h tru_b 0 rfl rfl rfl rfl rfl hl.1 (Nat.le_of_ble_eq_true rfl) dX3_divide_47 ⟨Nat.zero_le _, Nat.zero_le _⟩ (fun r12 u11 H locs hP hD hS hw => ?_)
      replace hP : va_P D vwCl (WP cB cI q0 q1 q2 q3 q4 q5 q6 q7 q8 q9 u11) H := hP
      replace hD : va_D A (WP cB cI q0 q1 q2 q3 q4 q5 q6 q7 q8 q9 u11) := hD
      refine lv_lstore (lv' := [(5, .long r12), (3, .long s0), (0, .ref q0), (1, .int a1), (2, .int x2)]) hx hb dX3_divide_50 hl (by decide) rfl (fun ls hl => ?_)
      refine lv_lload hx hb dX3_divide_52 (lv_at hl 0 rfl) ?_
      refine lv_lload_n hx hb dX3_divide_54 rfl (lv_at hl 1 rfl) ?_
      refine lv_ldiv hx hb dX3_divide_55 hw.1 ?_
      replace hw := hw.2
      refine lv_lstore (lv' := [(7, .long (r12 / s0)), (5, .long r12), (3, .long s0), (0, .ref q0), (1, .int a1), (2, .int x2)]) hx hb dX3_divide_56 hl (by decide) rfl (fun ls hl => ?_)
      refine lv_lload hx hb dX3_divide_58 (lv_at hl 0 rfl) ?_
      refine lv_iload_n hx hb dX3_divide_60 rfl (lv_at hl 5 rfl) ?_
      refine lv_iload_n hx hb dX3_divide_61 rfl (lv_at hl 4 rfl) ?_
      refine cl_Si (As := [.long (r12 / s0), .int x2, .int a1]) (rest := []) (st := [.int a1, .int x2, .long (r12 / s0)]) S hK hA hP hD hS Fr_nil (kcX0_fits l D cB cI  H.size (r12 / s0) x2 a1 () _ hw) (va_cwS 3 hts gX3_divide_X0_fits rfl rfl rfl (by decide +kernel) ⟨Nat.le_of_ble_eq_true rfl, Nat.le_of_ble_eq_true rfl⟩) tru_h tru_b rfl rfl hl.1 (Nat.le_of_ble_eq_true rfl) dX3_divide_62 ⟨Nat.zero_le _, Nat.zero_le _⟩ (fun r14 u13 H locs hP hD hS hw => ?_)
      replace hP : va_P D vwCl (WP cB cI q0 q1 q2 q3 q4 q5 q6 q7 q8 q9 u11) H := hP
      replace hD : va_D A (WP cB cI q0 q1 q2 q3 q4 q5 q6 q7 q8 q9 u11) := hD
      refine lv_if_ne (tgt := 74) hx hb dX3_divide_65 (by decide) (fun c15 => ?_) (fun c15 => ?_)
      · replace hw := hw.2 c15
        refine lv_aload_n hx hb dX3_divide_74 rfl (lv_at hl 3 rfl) ?_
        refine lv_lload hx hb dX3_divide_75 (lv_at hl 0 rfl) ?_
        refine lv_l2i (v := ((r12 / s0).toInt32)) hx hb dX3_divide_77 rfl ?_
        refine lv_iload_n hx hb dX3_divide_78 rfl (lv_at hl 5 rfl) ?_
        refine cl_Vv (As := [.int ((r12 / s0).toInt32), .int x2]) (rest := []) (st := [.int x2, .int ((r12 / s0).toInt32), .ref q0]) S hK hA hP hD hS (fr_P u11) (kcX3_giveA l D cB cI q0 q1 q2 q3 q4 q5 q6 q7 q8 q9 H.size ((r12 / s0).toInt32) x2 u11 _ hw) (cwV 2 hts gX3_divide_X3_giveA rfl rfl rfl (by decide +kernel) ⟨Nat.le_of_ble_eq_true rfl, Nat.le_of_ble_eq_true rfl⟩) tru_h tru_b 0 rfl rfl rfl rfl rfl hl.1 (Nat.le_of_ble_eq_true rfl) dX3_divide_79 ⟨Nat.zero_le _, Nat.zero_le _⟩ (fun u16 H locs hP hD hS hw => ?_)
        replace hP : va_P D vwCl (WP cB cI q0 q1 q2 q3 q4 q5 q6 q7 q8 q9 u16) H := hP
        replace hD : va_D A (WP cB cI q0 q1 q2 q3 q4 q5 q6 q7 q8 q9 u16) := hD
        refine lv_aload_n hx hb dX3_divide_82 rfl (lv_at hl 3 rfl) ?_
        refine va_get (D := D) (ci := 3) (v := .ref q4) (C := RX3) (T := TX3) (N := 8) hx hb hts i_X3 hown hK hP 0 rfl rfl 1 (by decide) f_21 (fun _ h9 => h9) rfl dX3_divide_83 ?_
        refine lv_iload_n hx hb dX3_divide_86 rfl (lv_at hl 5 rfl) ?_
        refine lv_if_eq (tgt := 94) hx hb dX3_divide_87 (by decide) (fun c18 => ?_) (fun c18 => ?_)
        · replace hw := hw.1 c18
          refine lv_iconst (v := (4 : Int32)) hx hb dX3_divide_94 (by decide) ?_
          exact b95 x2 s0 r12 (4 : Int32) u16 H locs ls hP hD hS (lv_sub hl [5, 2, 1] rfl) hw
        · replace hw := hw.2 c18
          refine lv_iconst (v := (2 : Int32)) hx hb dX3_divide_90 (by decide) ?_
          refine lv_goto (tgt := 95) hx hb dX3_divide_91 (by decide) ?_
          exact b95 x2 s0 r12 (2 : Int32) u16 H locs ls hP hD hS (lv_sub hl [5, 2, 1] rfl) hw
      · replace hw := hw.1 c15
        refine lv_aload_n hx hb dX3_divide_68 rfl (lv_at hl 3 rfl) ?_
        refine lv_iconst (v := (0 : Int32)) hx hb dX3_divide_69 (by decide) ?_
        refine va_put (D := D) (ci := 3) (v := .int (0 : Int32)) (ty := .int) (C := RX3) (T := TX3) (N := 8) hx hb hts i_X3 tyX3 tyX3_ok nmX3 hown hK hP hD hS 0 rfl rfl 7 (by decide) f_43 (fun _ h9 => h9) rfl (by decide +kernel) rfl rfl (Nat.le_of_ble_eq_true rfl) dX3_divide_70 (fun H locs hP hD hS => ?_)
        replace hP : va_P D vwCl (WP cB cI q0 q1 q2 q3 q4 q5 q6 q7 q8 q9 (ps_called u11 (0 : Int32))) H := hP
        replace hD : va_D A (WP cB cI q0 q1 q2 q3 q4 q5 q6 q7 q8 q9 (ps_called u11 (0 : Int32))) := hD
        exact rt_v (wo := (fun v => WP cB cI q0 q1 q2 q3 q4 q5 q6 q7 q8 q9 v)) S hr hlk (ps_called u11 (0 : Int32)) hP hS hw dX3_divide_73
    · replace hw := hw.1 c10
      refine lv_aload_n hx hb dX3_divide_38 rfl (lv_at hl 1 rfl) ?_
      refine lv_iconst (v := (0 : Int32)) hx hb dX3_divide_39 (by decide) ?_
      refine va_put (D := D) (ci := 3) (v := .int (0 : Int32)) (ty := .int) (C := RX3) (T := TX3) (N := 8) hx hb hts i_X3 tyX3 tyX3_ok nmX3 hown hK hP hD hS 0 rfl rfl 7 (by decide) f_43 (fun _ h9 => h9) rfl (by decide +kernel) rfl rfl (Nat.le_of_ble_eq_true rfl) dX3_divide_40 (fun H locs hP hD hS => ?_)
      replace hP : va_P D vwCl (WP cB cI q0 q1 q2 q3 q4 q5 q6 q7 q8 q9 (ps_called u (0 : Int32))) H := hP
      replace hD : va_D A (WP cB cI q0 q1 q2 q3 q4 q5 q6 q7 q8 q9 (ps_called u (0 : Int32))) := hD
      exact rt_v (wo := (fun v => WP cB cI q0 q1 q2 q3 q4 q5 q6 q7 q8 q9 v)) S hr hlk (ps_called u (0 : Int32)) hP hS hw dX3_divide_43
  unfold wX3_divide at hw
  obtain ⟨H, eH⟩ : ∃ H, H = s.heap := ⟨_, rfl⟩
  obtain ⟨locs, eL⟩ : ∃ locs : List Loc, locs = [] := ⟨_, rfl⟩
  replace hP : va_P D vwCl (WP cB cI q0 q1 q2 q3 q4 q5 q6 q7 q8 q9 u) H := by rw [eH]; exact hP
  replace hS : va_S A s.heap H locs := by rw [eH, eL]; exact hS
  suffices hgo : W p l e ({ frames := 3, cells := 0, slots := 0, locals := 67 } : Room) s m ([.ref q0, .int a1] : List Value).toArray below meth c H locs 0 0 (MQ below (va_Qv P (fun u t => va_P D vwCl (WP cB cI q0 q1 q2 q3 q4 q5 q6 q7 q8 q9 u) t.heap) A) ([.ref q0, .int a1] : List Value).toArray s 0 0 A) (F0 m 0 ls []) by rw [eH, eL] at hgo; exact hgo
  clear eH eL
  refine lv_aload_n hx hb dX3_divide_0 rfl (lv_at hl 0 rfl) ?_
  refine va_get (D := D) (ci := 3) (v := .ref q8) (C := RX3) (T := TX3) (N := 8) hx hb hts i_X3 hown hK hP 0 rfl rfl 3 (by decide) f_35 (fun _ h9 => h9) rfl dX3_divide_1 ?_
  refine cl_Vi (As := []) (rest := []) (st := [.ref q8]) S hK hA hP hD hS (fr_P_C u) (kcX1_wide l D cB cI q8 H.size  (p_code u) _ hw) (cwV 0 hts gX3_divide_X1_wide rfl rfl rfl (by decide +kernel) ⟨Nat.le_of_ble_eq_true rfl, Nat.le_of_ble_eq_true rfl⟩) tru_h tru_b 8 rfl rfl rfl rfl rfl hl.1 (Nat.le_of_ble_eq_true rfl) dX3_divide_4 ⟨Nat.zero_le _, Nat.zero_le _⟩ (fun r2 u1 H locs hP hD hS hw => ?_)
  replace hP : va_P D vwCl (WP cB cI q0 q1 q2 q3 q4 q5 q6 q7 q8 q9 (ps_code u u1)) H := hP
  replace hD : va_D A (WP cB cI q0 q1 q2 q3 q4 q5 q6 q7 q8 q9 (ps_code u u1)) := hD
  refine lv_istore_n (lv' := [(2, .int r2), (0, .ref q0), (1, .int a1)]) hx hb dX3_divide_7 rfl hl (by decide) rfl (fun ls hl => ?_)
  refine lv_iload_n hx hb dX3_divide_8 rfl (lv_at hl 2 rfl) ?_
  refine lv_if_eq (tgt := 25) hx hb dX3_divide_9 (by decide) (fun c3 => ?_) (fun c3 => ?_)
  · replace hw := hw.1 c3
    refine lv_aload_n hx hb dX3_divide_25 rfl (lv_at hl 1 rfl) ?_
    refine lv_iload_n hx hb dX3_divide_26 rfl (lv_at hl 0 rfl) ?_
    refine cl_Vi (As := [.int r2]) (rest := []) (st := [.int r2, .ref q0]) S hK hA hP hD hS (fr_P (ps_code u u1)) (kcX3_e l D cB cI q0 q1 q2 q3 q4 q5 q6 q7 q8 q9 H.size r2 (ps_code u u1) _ hw) (cwV 1 hts gX3_divide_X3_e rfl rfl rfl (by decide +kernel) ⟨Nat.le_of_ble_eq_true rfl, Nat.le_of_ble_eq_true rfl⟩) tru_h tru_b 0 rfl rfl rfl rfl rfl hl.1 (Nat.le_of_ble_eq_true rfl) dX3_divide_27 ⟨Nat.zero_le _, Nat.zero_le _⟩ (fun r5 u4 H locs hP hD hS hw => ?_)
    replace hP : va_P D vwCl (WP cB cI q0 q1 q2 q3 q4 q5 q6 q7 q8 q9 u4) H := hP
    replace hD : va_D A (WP cB cI q0 q1 q2 q3 q4 q5 q6 q7 q8 q9 u4) := hD
    refine lv_i2l (v := (r5.toInt64)) hx hb dX3_divide_30 rfl ?_
    exact b31 r2 (r5.toInt64) u4 H locs ls hP hD hS (lv_sub hl [1, 2, 0] rfl) hw
  · replace hw := hw.2 c3
    refine lv_aload_n hx hb dX3_divide_12 rfl (lv_at hl 1 rfl) ?_
    refine lv_iload_n hx hb dX3_divide_13 rfl (lv_at hl 0 rfl) ?_
    refine cl_Vi (As := [.int r2]) (rest := []) (st := [.int r2, .ref q0]) S hK hA hP hD hS (fr_P (ps_code u u1)) (kcX3_e l D cB cI q0 q1 q2 q3 q4 q5 q6 q7 q8 q9 H.size r2 (ps_code u u1) _ hw) (cwV 1 hts gX3_divide_X3_e rfl rfl rfl (by decide +kernel) ⟨Nat.le_of_ble_eq_true rfl, Nat.le_of_ble_eq_true rfl⟩) tru_h tru_b 0 rfl rfl rfl rfl rfl hl.1 (Nat.le_of_ble_eq_true rfl) dX3_divide_14 ⟨Nat.zero_le _, Nat.zero_le _⟩ (fun r7 u6 H locs hP hD hS hw => ?_)
    replace hP : va_P D vwCl (WP cB cI q0 q1 q2 q3 q4 q5 q6 q7 q8 q9 u6) H := hP
    replace hD : va_D A (WP cB cI q0 q1 q2 q3 q4 q5 q6 q7 q8 q9 u6) := hD
    refine lv_iload_n hx hb dX3_divide_17 rfl (lv_at hl 0 rfl) ?_
    refine cl_Si (As := [.int r7, .int r2]) (rest := []) (st := [.int r2, .int r7]) S hK hA hP hD hS Fr_nil (kcX0_signed l D cB cI  H.size r7 r2 () _ hw) (va_cwS 2 hts gX3_divide_X0_signed rfl rfl rfl (by decide +kernel) ⟨Nat.le_of_ble_eq_true rfl, Nat.le_of_ble_eq_true rfl⟩) tru_h tru_b rfl rfl hl.1 (Nat.le_of_ble_eq_true rfl) dX3_divide_18 ⟨Nat.zero_le _, Nat.zero_le _⟩ (fun r9 u8 H locs hP hD hS hw => ?_)
    replace hP : va_P D vwCl (WP cB cI q0 q1 q2 q3 q4 q5 q6 q7 q8 q9 u6) H := hP
    replace hD : va_D A (WP cB cI q0 q1 q2 q3 q4 q5 q6 q7 q8 q9 u6) := hD
    refine lv_i2l (v := (r9.toInt64)) hx hb dX3_divide_21 rfl ?_
    refine lv_goto (tgt := 31) hx hb dX3_divide_22 (by decide) ?_
    exact b31 r2 (r9.toInt64) u6 H locs ls hP hD hS (lv_sub hl [1, 2, 0] rfl) hw
-- X3_giveE
def wX3_giveE (a1 : Int32) (a2 : Int32) (u : SP) (P : SP → Prop) : Prop := (wX1_inRegister  (p_code u) (fun r2 u1 => ((r2 = (0 : Int32) → (wX2_store (c_eSegment u1) (c_offset u1) a1 a2 (p_mem u) (fun u4 => (P (ps_code (ps_mem u u4) u1))))) ∧ (¬ r2 = (0 : Int32) → (wX4_give (c_m u1) a1 a2 (p_regs u) (fun u6 => (P (ps_code (ps_regs u u6) u1))))))))
set_option maxHeartbeats 4000000 in
set_option maxRecDepth 100000 in
theorem kcX3_giveE (l : Launch) (D : va_G) (cB cI : ClassId) (q0 q1 q2 q3 q4 q5 q6 q7 q8 q9 : Nat) (sz : Nat) (a1 : Int32) (a2 : Int32) (u : SP) (P : SP → Prop) (hw : wX3_giveE a1 a2 u P) : Met l yX3_giveE wsX3_giveE ({ frames := 2, cells := 0, slots := 0, locals := 47 } : Room) (va_Pc [.ref q0, .int a1, .int a2] (Pcw D (tyA cB cI) (WP cB cI q0 q1 q2 q3 q4 q5 q6 q7 q8 q9 u) sz Tru)) (va_Qv P (fun u t => va_P D vwCl (WP cB cI q0 q1 q2 q3 q4 q5 q6 q7 q8 q9 u) t.heap) (va_A (WP cB cI q0 q1 q2 q3 q4 q5 q6 q7 q8 q9 u) sz)) 0 0 (va_A (WP cB cI q0 q1 q2 q3 q4 q5 q6 q7 q8 q9 u) sz) := by
  refine en_ (cc := cX3_giveE) (maxL := 3) (ret := none) (own := RX3) (lv := [(0, .ref q0), (1, .int a1), (2, .int a2)]) (Qf := fun A => va_Qv P (fun u t => va_P D vwCl (WP cB cI q0 q1 q2 q3 q4 q5 q6 q7 q8 q9 u) t.heap) A) (by decide) rfl rfl (Nat.le_of_ble_eq_true rfl) rfl ?_
  intro p e s m below meth c A ls S hr hlk hname hsz hP hK hD hA hSub hS hE hl
  have hx := S.1
  have hb := S.2.1
  have hown := S.2.2.2.1
  have hts := S.2.2.2.2
  have i_X1 : ∀ w ∈ u_ws RX1 TX1 12, w ∈ wsX3_giveE := by decide +kernel
  have i_X3 : ∀ w ∈ u_ws RX3 TX3 8, w ∈ wsX3_giveE := by decide +kernel
  have f_12 := hts (.fieldLink RX3 12 "MachineCore$Processor" "memory" "LMachineCore$Memory;") (by decide +kernel)
  have f_21 := hts (.fieldLink RX3 21 "MachineCore$Processor" "registers" "LMachineCore$Registers;") (by decide +kernel)
  have f_35 := hts (.fieldLink RX3 35 "MachineCore$Processor" "code" "LMachineCore$Code;") (by decide +kernel)
  have f_155 := hts (.fieldLink RX3 155 "MachineCore$Code" "m" "I") (by decide +kernel)
  have f_162 := hts (.fieldLink RX3 162 "MachineCore$Code" "eSegment" "I") (by decide +kernel)
  have f_165 := hts (.fieldLink RX3 165 "MachineCore$Code" "offset" "I") (by decide +kernel)
  unfold wX3_giveE at hw
  obtain ⟨H, eH⟩ : ∃ H, H = s.heap := ⟨_, rfl⟩
  obtain ⟨locs, eL⟩ : ∃ locs : List Loc, locs = [] := ⟨_, rfl⟩
  replace hP : va_P D vwCl (WP cB cI q0 q1 q2 q3 q4 q5 q6 q7 q8 q9 u) H := by rw [eH]; exact hP
  replace hS : va_S A s.heap H locs := by rw [eH, eL]; exact hS
  suffices hgo : W p l e ({ frames := 2, cells := 0, slots := 0, locals := 47 } : Room) s m ([.ref q0, .int a1, .int a2] : List Value).toArray below meth c H locs 0 0 (MQ below (va_Qv P (fun u t => va_P D vwCl (WP cB cI q0 q1 q2 q3 q4 q5 q6 q7 q8 q9 u) t.heap) A) ([.ref q0, .int a1, .int a2] : List Value).toArray s 0 0 A) (F0 m 0 ls []) by rw [eH, eL] at hgo; exact hgo
  clear eH eL
  refine lv_aload_n hx hb dX3_giveE_0 rfl (lv_at hl 0 rfl) ?_
  refine va_get (D := D) (ci := 3) (v := .ref q8) (C := RX3) (T := TX3) (N := 8) hx hb hts i_X3 hown hK hP 0 rfl rfl 3 (by decide) f_35 (fun _ h9 => h9) rfl dX3_giveE_1 ?_
  refine cl_Vi (As := []) (rest := []) (st := [.ref q8]) S hK hA hP hD hS (fr_P_C u) (kcX1_inRegister l D cB cI q8 H.size  (p_code u) _ hw) (cwV 0 hts gX3_giveE_X1_inRegister rfl rfl rfl (by decide +kernel) ⟨Nat.le_of_ble_eq_true rfl, Nat.le_of_ble_eq_true rfl⟩) tru_h tru_b 8 rfl rfl rfl rfl rfl hl.1 (Nat.le_of_ble_eq_true rfl) dX3_giveE_4 ⟨Nat.zero_le _, Nat.zero_le _⟩ (fun r2 u1 H locs hP hD hS hw => ?_)
  replace hP : va_P D vwCl (WP cB cI q0 q1 q2 q3 q4 q5 q6 q7 q8 q9 (ps_code u u1)) H := hP
  replace hD : va_D A (WP cB cI q0 q1 q2 q3 q4 q5 q6 q7 q8 q9 (ps_code u u1)) := hD
  refine lv_if_eq (tgt := 29) hx hb dX3_giveE_7 (by decide) (fun c3 => ?_) (fun c3 => ?_)
  · replace hw := hw.1 c3
    refine lv_aload_n hx hb dX3_giveE_29 rfl (lv_at hl 0 rfl) ?_
    refine va_get (D := D) (ci := 3) (v := .ref q1) (C := RX3) (T := TX3) (N := 8) hx hb hts i_X3 hown hK hP 0 rfl rfl 0 (by decide) f_12 (fun _ h9 => h9) rfl dX3_giveE_30 ?_
    refine lv_aload_n hx hb dX3_giveE_33 rfl (lv_at hl 0 rfl) ?_
    refine va_get (D := D) (ci := 3) (v := .ref q8) (C := RX3) (T := TX3) (N := 8) hx hb hts i_X3 hown hK hP 0 rfl rfl 3 (by decide) f_35 (fun _ h9 => h9) rfl dX3_giveE_34 ?_
    refine va_get (D := D) (ci := 1) (v := .int (c_eSegment u1)) (C := RX1) (T := TX1) (N := 12) hx hb hts i_X1 hown hK hP 8 rfl rfl 7 (by decide) f_162 (fun _ h9 => h9) rfl dX3_giveE_37 ?_
    refine lv_aload_n hx hb dX3_giveE_40 rfl (lv_at hl 0 rfl) ?_
    refine va_get (D := D) (ci := 3) (v := .ref q8) (C := RX3) (T := TX3) (N := 8) hx hb hts i_X3 hown hK hP 0 rfl rfl 3 (by decide) f_35 (fun _ h9 => h9) rfl dX3_giveE_41 ?_
    refine va_get (D := D) (ci := 1) (v := .int (c_offset u1)) (C := RX1) (T := TX1) (N := 12) hx hb hts i_X1 hown hK hP 8 rfl rfl 8 (by decide) f_165 (fun _ h9 => h9) rfl dX3_giveE_44 ?_
    refine lv_iload_n hx hb dX3_giveE_47 rfl (lv_at hl 1 rfl) ?_
    refine lv_iload_n hx hb dX3_giveE_48 rfl (lv_at hl 2 rfl) ?_
    refine cl_Vv (As := [.int (c_eSegment u1), .int (c_offset u1), .int a1, .int a2]) (rest := []) (st := [.int a2, .int a1, .int (c_offset u1), .int (c_eSegment u1), .ref q1]) S hK hA hP hD hS (fr_P_M (ps_code u u1)) (kcX2_store l D cB cI q1 q2 q3 H.size (c_eSegment u1) (c_offset u1) a1 a2 (p_mem u) _ hw) (cwV 4 hts gX3_giveE_X2_store rfl rfl rfl (by decide +kernel) ⟨Nat.le_of_ble_eq_true rfl, Nat.le_of_ble_eq_true rfl⟩) tru_h tru_b 1 rfl rfl rfl rfl rfl hl.1 (Nat.le_of_ble_eq_true rfl) dX3_giveE_49 ⟨Nat.zero_le _, Nat.zero_le _⟩ (fun u4 H locs hP hD hS hw => ?_)
    replace hP : va_P D vwCl (WP cB cI q0 q1 q2 q3 q4 q5 q6 q7 q8 q9 (ps_code (ps_mem u u4) u1)) H := hP
    replace hD : va_D A (WP cB cI q0 q1 q2 q3 q4 q5 q6 q7 q8 q9 (ps_code (ps_mem u u4) u1)) := hD
    exact rt_v (wo := (fun v => WP cB cI q0 q1 q2 q3 q4 q5 q6 q7 q8 q9 v)) S hr hlk (ps_code (ps_mem u u4) u1) hP hS hw dX3_giveE_52
  · replace hw := hw.2 c3
    refine lv_aload_n hx hb dX3_giveE_10 rfl (lv_at hl 0 rfl) ?_
    refine va_get (D := D) (ci := 3) (v := .ref q4) (C := RX3) (T := TX3) (N := 8) hx hb hts i_X3 hown hK hP 0 rfl rfl 1 (by decide) f_21 (fun _ h9 => h9) rfl dX3_giveE_11 ?_
    refine lv_aload_n hx hb dX3_giveE_14 rfl (lv_at hl 0 rfl) ?_
    refine va_get (D := D) (ci := 3) (v := .ref q8) (C := RX3) (T := TX3) (N := 8) hx hb hts i_X3 hown hK hP 0 rfl rfl 3 (by decide) f_35 (fun _ h9 => h9) rfl dX3_giveE_15 ?_
    refine va_get (D := D) (ci := 1) (v := .int (c_m u1)) (C := RX1) (T := TX1) (N := 12) hx hb hts i_X1 hown hK hP 8 rfl rfl 6 (by decide) f_155 (fun _ h9 => h9) rfl dX3_giveE_18 ?_
    refine lv_iload_n hx hb dX3_giveE_21 rfl (lv_at hl 1 rfl) ?_
    refine lv_iload_n hx hb dX3_giveE_22 rfl (lv_at hl 2 rfl) ?_
    refine cl_Vv (As := [.int (c_m u1), .int a1, .int a2]) (rest := []) (st := [.int a2, .int a1, .int (c_m u1), .ref q4]) S hK hA hP hD hS (fr_P_R (ps_code u u1)) (kcX4_give l D cB cI q4 q5 q6 H.size (c_m u1) a1 a2 (p_regs u) _ hw) (cwV 3 hts gX3_giveE_X4_give rfl rfl rfl (by decide +kernel) ⟨Nat.le_of_ble_eq_true rfl, Nat.le_of_ble_eq_true rfl⟩) tru_h tru_b 4 rfl rfl rfl rfl rfl hl.1 (Nat.le_of_ble_eq_true rfl) dX3_giveE_23 ⟨Nat.zero_le _, Nat.zero_le _⟩ (fun u6 H locs hP hD hS hw => ?_)
    replace hP : va_P D vwCl (WP cB cI q0 q1 q2 q3 q4 q5 q6 q7 q8 q9 (ps_code (ps_regs u u6) u1)) H := hP
    replace hD : va_D A (WP cB cI q0 q1 q2 q3 q4 q5 q6 q7 q8 q9 (ps_code (ps_regs u u6) u1)) := hD
    refine lv_goto (tgt := 52) hx hb dX3_giveE_26 (by decide) ?_
    exact rt_v (wo := (fun v => WP cB cI q0 q1 q2 q3 q4 q5 q6 q7 q8 q9 v)) S hr hlk (ps_code (ps_regs u u6) u1) hP hS hw dX3_giveE_52
-- X3_multiply
def wX3_multiply (a1 : Int32) (u : SP) (P : SP → Prop) : Prop := (wX1_wide  (p_code u) (fun r2 u1 => (wX3_a r2 (ps_code u u1) (fun r4 u3 => (wX3_e r2 u3 (fun r6 u5 => (wX0_product r4 r6 r2 a1 (p_flags u5) (fun r8 u7 => (wX3_giveA r8 (1 : Int32) (ps_flags u5 u7) (fun u9 => ((r2 = (0 : Int32) → (P u9)) ∧ (¬ r2 = (0 : Int32) → (wX4_setWord (2 : Int32) (r8 >>> ((16 : Int32) &&& 31)) (p_regs u9) (fun u12 => (P (ps_regs u9 u12))))))))))))))))
set_option maxHeartbeats 4000000 in
set_option maxRecDepth 100000 in
theorem kcX3_multiply (l : Launch) (D : va_G) (cB cI : ClassId) (q0 q1 q2 q3 q4 q5 q6 q7 q8 q9 : Nat) (sz : Nat) (a1 : Int32) (u : SP) (P : SP → Prop) (hw : wX3_multiply a1 u P) : Met l yX3_multiply wsX3_multiply ({ frames := 3, cells := 0, slots := 0, locals := 67 } : Room) (va_Pc [.ref q0, .int a1] (Pcw D (tyA cB cI) (WP cB cI q0 q1 q2 q3 q4 q5 q6 q7 q8 q9 u) sz Tru)) (va_Qv P (fun u t => va_P D vwCl (WP cB cI q0 q1 q2 q3 q4 q5 q6 q7 q8 q9 u) t.heap) (va_A (WP cB cI q0 q1 q2 q3 q4 q5 q6 q7 q8 q9 u) sz)) 0 0 (va_A (WP cB cI q0 q1 q2 q3 q4 q5 q6 q7 q8 q9 u) sz) := by
  refine en_ (cc := cX3_multiply) (maxL := 4) (ret := none) (own := RX3) (lv := [(0, .ref q0), (1, .int a1)]) (Qf := fun A => va_Qv P (fun u t => va_P D vwCl (WP cB cI q0 q1 q2 q3 q4 q5 q6 q7 q8 q9 u) t.heap) A) (by decide) rfl rfl (Nat.le_of_ble_eq_true rfl) rfl ?_
  intro p e s m below meth c A ls S hr hlk hname hsz hP hK hD hA hSub hS hE hl
  have hx := S.1
  have hb := S.2.1
  have hown := S.2.2.2.1
  have hts := S.2.2.2.2
  have i_X3 : ∀ w ∈ u_ws RX3 TX3 8, w ∈ wsX3_multiply := by decide +kernel
  have f_21 := hts (.fieldLink RX3 21 "MachineCore$Processor" "registers" "LMachineCore$Registers;") (by decide +kernel)
  have f_28 := hts (.fieldLink RX3 28 "MachineCore$Processor" "arithmetic" "LMachineCore$Arithmetic;") (by decide +kernel)
  have f_35 := hts (.fieldLink RX3 35 "MachineCore$Processor" "code" "LMachineCore$Code;") (by decide +kernel)
  unfold wX3_multiply at hw
  obtain ⟨H, eH⟩ : ∃ H, H = s.heap := ⟨_, rfl⟩
  obtain ⟨locs, eL⟩ : ∃ locs : List Loc, locs = [] := ⟨_, rfl⟩
  replace hP : va_P D vwCl (WP cB cI q0 q1 q2 q3 q4 q5 q6 q7 q8 q9 u) H := by rw [eH]; exact hP
  replace hS : va_S A s.heap H locs := by rw [eH, eL]; exact hS
  suffices hgo : W p l e ({ frames := 3, cells := 0, slots := 0, locals := 67 } : Room) s m ([.ref q0, .int a1] : List Value).toArray below meth c H locs 0 0 (MQ below (va_Qv P (fun u t => va_P D vwCl (WP cB cI q0 q1 q2 q3 q4 q5 q6 q7 q8 q9 u) t.heap) A) ([.ref q0, .int a1] : List Value).toArray s 0 0 A) (F0 m 0 ls []) by rw [eH, eL] at hgo; exact hgo
  clear eH eL
  refine lv_aload_n hx hb dX3_multiply_0 rfl (lv_at hl 0 rfl) ?_
  refine va_get (D := D) (ci := 3) (v := .ref q8) (C := RX3) (T := TX3) (N := 8) hx hb hts i_X3 hown hK hP 0 rfl rfl 3 (by decide) f_35 (fun _ h9 => h9) rfl dX3_multiply_1 ?_
  refine cl_Vi (As := []) (rest := []) (st := [.ref q8]) S hK hA hP hD hS (fr_P_C u) (kcX1_wide l D cB cI q8 H.size  (p_code u) _ hw) (cwV 0 hts gX3_multiply_X1_wide rfl rfl rfl (by decide +kernel) ⟨Nat.le_of_ble_eq_true rfl, Nat.le_of_ble_eq_true rfl⟩) tru_h tru_b 8 rfl rfl rfl rfl rfl hl.1 (Nat.le_of_ble_eq_true rfl) dX3_multiply_4 ⟨Nat.zero_le _, Nat.zero_le _⟩ (fun r2 u1 H locs hP hD hS hw => ?_)
  replace hP : va_P D vwCl (WP cB cI q0 q1 q2 q3 q4 q5 q6 q7 q8 q9 (ps_code u u1)) H := hP
  replace hD : va_D A (WP cB cI q0 q1 q2 q3 q4 q5 q6 q7 q8 q9 (ps_code u u1)) := hD
  refine lv_istore_n (lv' := [(2, .int r2), (0, .ref q0), (1, .int a1)]) hx hb dX3_multiply_7 rfl hl (by decide) rfl (fun ls hl => ?_)
  refine lv_aload_n hx hb dX3_multiply_8 rfl (lv_at hl 1 rfl) ?_
  refine va_get (D := D) (ci := 3) (v := .ref q7) (C := RX3) (T := TX3) (N := 8) hx hb hts i_X3 hown hK hP 0 rfl rfl 2 (by decide) f_28 (fun _ h9 => h9) rfl dX3_multiply_9 ?_
  refine lv_aload_n hx hb dX3_multiply_12 rfl (lv_at hl 1 rfl) ?_
  refine lv_iload_n hx hb dX3_multiply_13 rfl (lv_at hl 0 rfl) ?_
  refine cl_Vi (As := [.int r2]) (rest := [.ref q7]) (st := [.int r2, .ref q0, .ref q7]) S hK hA hP hD hS (fr_P (ps_code u u1)) (kcX3_a l D cB cI q0 q1 q2 q3 q4 q5 q6 q7 q8 q9 H.size r2 (ps_code u u1) _ hw) (cwV 1 hts gX3_multiply_X3_a rfl rfl rfl (by decide +kernel) ⟨Nat.le_of_ble_eq_true rfl, Nat.le_of_ble_eq_true rfl⟩) tru_h tru_b 0 rfl rfl rfl rfl rfl hl.1 (Nat.le_of_ble_eq_true rfl) dX3_multiply_14 ⟨Nat.zero_le _, Nat.zero_le _⟩ (fun r4 u3 H locs hP hD hS hw => ?_)
  replace hP : va_P D vwCl (WP cB cI q0 q1 q2 q3 q4 q5 q6 q7 q8 q9 u3) H := hP
  replace hD : va_D A (WP cB cI q0 q1 q2 q3 q4 q5 q6 q7 q8 q9 u3) := hD
  refine lv_aload_n hx hb dX3_multiply_17 rfl (lv_at hl 1 rfl) ?_
  refine lv_iload_n hx hb dX3_multiply_18 rfl (lv_at hl 0 rfl) ?_
  refine cl_Vi (As := [.int r2]) (rest := [.int r4, .ref q7]) (st := [.int r2, .ref q0, .int r4, .ref q7]) S hK hA hP hD hS (fr_P u3) (kcX3_e l D cB cI q0 q1 q2 q3 q4 q5 q6 q7 q8 q9 H.size r2 u3 _ hw) (cwV 1 hts gX3_multiply_X3_e rfl rfl rfl (by decide +kernel) ⟨Nat.le_of_ble_eq_true rfl, Nat.le_of_ble_eq_true rfl⟩) tru_h tru_b 0 rfl rfl rfl rfl rfl hl.1 (Nat.le_of_ble_eq_true rfl) dX3_multiply_19 ⟨Nat.zero_le _, Nat.zero_le _⟩ (fun r6 u5 H locs hP hD hS hw => ?_)
  replace hP : va_P D vwCl (WP cB cI q0 q1 q2 q3 q4 q5 q6 q7 q8 q9 u5) H := hP
  replace hD : va_D A (WP cB cI q0 q1 q2 q3 q4 q5 q6 q7 q8 q9 u5) := hD
  refine lv_iload_n hx hb dX3_multiply_22 rfl (lv_at hl 0 rfl) ?_
  refine lv_iload_n hx hb dX3_multiply_23 rfl (lv_at hl 2 rfl) ?_
  refine cl_Vi (As := [.int r4, .int r6, .int r2, .int a1]) (rest := []) (st := [.int a1, .int r2, .int r6, .int r4, .ref q7]) S hK hA hP hD hS (fr_P_A u5) (kcX0_product l D cB cI q7 H.size r4 r6 r2 a1 (p_flags u5) _ hw) (cwV 4 hts gX3_multiply_X0_product rfl rfl rfl (by decide +kernel) ⟨Nat.le_of_ble_eq_true rfl, Nat.le_of_ble_eq_true rfl⟩) tru_h tru_b 7 rfl rfl rfl rfl rfl hl.1 (Nat.le_of_ble_eq_true rfl) dX3_multiply_24 ⟨Nat.zero_le _, Nat.zero_le _⟩ (fun r8 u7 H locs hP hD hS hw => ?_)
  replace hP : va_P D vwCl (WP cB cI q0 q1 q2 q3 q4 q5 q6 q7 q8 q9 (ps_flags u5 u7)) H := hP
  replace hD : va_D A (WP cB cI q0 q1 q2 q3 q4 q5 q6 q7 q8 q9 (ps_flags u5 u7)) := hD
  refine lv_istore_n (lv' := [(3, .int r8), (2, .int r2), (0, .ref q0), (1, .int a1)]) hx hb dX3_multiply_27 rfl hl (by decide) rfl (fun ls hl => ?_)
  refine lv_aload_n hx hb dX3_multiply_28 rfl (lv_at hl 2 rfl) ?_
  refine lv_iload_n hx hb dX3_multiply_29 rfl (lv_at hl 0 rfl) ?_
  refine lv_iconst (v := (1 : Int32)) hx hb dX3_multiply_30 (by decide) ?_
  refine cl_Vv (As := [.int r8, .int (1 : Int32)]) (rest := []) (st := [.int (1 : Int32), .int r8, .ref q0]) S hK hA hP hD hS (fr_P (ps_flags u5 u7)) (kcX3_giveA l D cB cI q0 q1 q2 q3 q4 q5 q6 q7 q8 q9 H.size r8 (1 : Int32) (ps_flags u5 u7) _ hw) (cwV 2 hts gX3_multiply_X3_giveA rfl rfl rfl (by decide +kernel) ⟨Nat.le_of_ble_eq_true rfl, Nat.le_of_ble_eq_true rfl⟩) tru_h tru_b 0 rfl rfl rfl rfl rfl hl.1 (Nat.le_of_ble_eq_true rfl) dX3_multiply_31 ⟨Nat.zero_le _, Nat.zero_le _⟩ (fun u9 H locs hP hD hS hw => ?_)
  replace hP : va_P D vwCl (WP cB cI q0 q1 q2 q3 q4 q5 q6 q7 q8 q9 u9) H := hP
  replace hD : va_D A (WP cB cI q0 q1 q2 q3 q4 q5 q6 q7 q8 q9 u9) := hD
  refine lv_iload_n hx hb dX3_multiply_34 rfl (lv_at hl 1 rfl) ?_
  refine lv_if_eq (tgt := 50) hx hb dX3_multiply_35 (by decide) (fun c11 => ?_) (fun c11 => ?_)
  · replace hw := hw.1 c11
    exact rt_v (wo := (fun v => WP cB cI q0 q1 q2 q3 q4 q5 q6 q7 q8 q9 v)) S hr hlk u9 hP hS hw dX3_multiply_50
  · replace hw := hw.2 c11
    refine lv_aload_n hx hb dX3_multiply_38 rfl (lv_at hl 2 rfl) ?_
    refine va_get (D := D) (ci := 3) (v := .ref q4) (C := RX3) (T := TX3) (N := 8) hx hb hts i_X3 hown hK hP 0 rfl rfl 1 (by decide) f_21 (fun _ h9 => h9) rfl dX3_multiply_39 ?_
    refine lv_iconst (v := (2 : Int32)) hx hb dX3_multiply_42 (by decide) ?_
    refine lv_iload_n hx hb dX3_multiply_43 rfl (lv_at hl 0 rfl) ?_
    refine lv_bipush (v := (16 : Int32)) hx hb dX3_multiply_44 (by decide) ?_
    refine lv_ishr hx hb dX3_multiply_46 ?_
    refine cl_Vv (As := [.int (2 : Int32), .int (r8 >>> ((16 : Int32) &&& 31))]) (rest := []) (st := [.int (r8 >>> ((16 : Int32) &&& 31)), .int (2 : Int32), .ref q4]) S hK hA hP hD hS (fr_P_R u9) (kcX4_setWord l D cB cI q4 q5 q6 H.size (2 : Int32) (r8 >>> ((16 : Int32) &&& 31)) (p_regs u9) _ hw) (cwV 2 hts gX3_multiply_X4_setWord rfl rfl rfl (by decide +kernel) ⟨Nat.le_of_ble_eq_true rfl, Nat.le_of_ble_eq_true rfl⟩) tru_h tru_b 4 rfl rfl rfl rfl rfl hl.1 (Nat.le_of_ble_eq_true rfl) dX3_multiply_47 ⟨Nat.zero_le _, Nat.zero_le _⟩ (fun u12 H locs hP hD hS hw => ?_)
    replace hP : va_P D vwCl (WP cB cI q0 q1 q2 q3 q4 q5 q6 q7 q8 q9 (ps_regs u9 u12)) H := hP
    replace hD : va_D A (WP cB cI q0 q1 q2 q3 q4 q5 q6 q7 q8 q9 (ps_regs u9 u12)) := hD
    exact rt_v (wo := (fun v => WP cB cI q0 q1 q2 q3 q4 q5 q6 q7 q8 q9 v)) S hr hlk (ps_regs u9 u12) hP hS hw dX3_multiply_50
-- X3_codesF6
def wX3_codesF6_b167  (P : SP → Prop) (s1 : Int32) (u : SP) : Prop := (wX3_divide s1 u (fun u29 => (P u29)))
def wX3_codesF6_b143  (P : SP → Prop) (s1 : Int32) (u : SP) : Prop := (wX3_multiply s1 u (fun u27 => (P u27)))
def wX3_codesF6_b126  (P : SP → Prop)  (u : SP) : Prop := (((c_r (p_code u)) = (5 : Int32) → (wX3_codesF6_b143  P (1 : Int32) u)) ∧ (¬ (c_r (p_code u)) = (5 : Int32) → (wX3_codesF6_b143  P (0 : Int32) u)))
def wX3_codesF6_b52  (P : SP → Prop) (x1 : Int32) (u : SP) : Prop := (wX3_e x1 u (fun r23 u22 => (wX0_operation (8 : Int32) r23 (c_first (p_code u22)) x1 (p_flags u22) (fun r25 u24 => (P (ps_flags u22 u24))))))
def wX3_codesF6  (u : SP) (P : SP → Prop) : Prop := (wX1_wide  (p_code u) (fun r2 u1 => (((c_r u1) = (0 : Int32) → (wX3_codesF6_b52  P r2 (ps_code u u1))) ∧ (¬ (c_r u1) = (0 : Int32) → (((c_r u1) = (1 : Int32) → (wX3_codesF6_b52  P r2 (ps_code u u1))) ∧ (¬ (c_r u1) = (1 : Int32) → (((c_r u1) = (2 : Int32) → (wX3_e r2 (ps_code u u1) (fun r7 u6 => (wX0_operation (12 : Int32) r7 (0 : Int32) r2 (p_flags u6) (fun r9 u8 => (wX3_giveE r9 r2 (ps_flags u6 u8) (fun u10 => (P u10)))))))) ∧ (¬ (c_r u1) = (2 : Int32) → (((c_r u1) = (3 : Int32) → (wX3_e r2 (ps_code u u1) (fun r14 u13 => (wX0_operation (11 : Int32) r14 (0 : Int32) r2 (p_flags u13) (fun r16 u15 => (wX3_giveE r16 r2 (ps_flags u13 u15) (fun u17 => (P u17)))))))) ∧ (¬ (c_r u1) = (3 : Int32) → (((c_r u1) = (4 : Int32) → (wX3_codesF6_b126  P (ps_code u u1))) ∧ (¬ (c_r u1) = (4 : Int32) → (((c_r u1) = (5 : Int32) → (wX3_codesF6_b126  P (ps_code u u1))) ∧ (¬ (c_r u1) = (5 : Int32) → (((c_r u1) = (7 : Int32) → (wX3_codesF6_b167  P (1 : Int32) (ps_code u u1))) ∧ (¬ (c_r u1) = (7 : Int32) → (wX3_codesF6_b167  P (0 : Int32) (ps_code u u1))))))))))))))))))
set_option maxHeartbeats 4000000 in
set_option maxRecDepth 100000 in
theorem kcX3_codesF6 (l : Launch) (D : va_G) (cB cI : ClassId) (q0 q1 q2 q3 q4 q5 q6 q7 q8 q9 : Nat) (sz : Nat)  (u : SP) (P : SP → Prop) (hw : wX3_codesF6  u P) : Met l yX3_codesF6 wsX3_codesF6 ({ frames := 4, cells := 0, slots := 0, locals := 96 } : Room) (va_Pc [.ref q0] (Pcw D (tyA cB cI) (WP cB cI q0 q1 q2 q3 q4 q5 q6 q7 q8 q9 u) sz Tru)) (va_Qv P (fun u t => va_P D vwCl (WP cB cI q0 q1 q2 q3 q4 q5 q6 q7 q8 q9 u) t.heap) (va_A (WP cB cI q0 q1 q2 q3 q4 q5 q6 q7 q8 q9 u) sz)) 0 0 (va_A (WP cB cI q0 q1 q2 q3 q4 q5 q6 q7 q8 q9 u) sz) := by
  refine en_ (cc := cX3_codesF6) (maxL := 2) (ret := none) (own := RX3) (lv := [(0, .ref q0)]) (Qf := fun A => va_Qv P (fun u t => va_P D vwCl (WP cB cI q0 q1 q2 q3 q4 q5 q6 q7 q8 q9 u) t.heap) A) (by decide) rfl rfl (Nat.le_of_ble_eq_true rfl) rfl ?_
  intro p e s m below meth c A ls S hr hlk hname hsz hP hK hD hA hSub hS hE hl
  have hx := S.1
  have hb := S.2.1
  have hown := S.2.2.2.1
  have hts := S.2.2.2.2
  have i_X1 : ∀ w ∈ u_ws RX1 TX1 12, w ∈ wsX3_codesF6 := by decide +kernel
  have i_X3 : ∀ w ∈ u_ws RX3 TX3 8, w ∈ wsX3_codesF6 := by decide +kernel
  have f_28 := hts (.fieldLink RX3 28 "MachineCore$Processor" "arithmetic" "LMachineCore$Arithmetic;") (by decide +kernel)
  have f_35 := hts (.fieldLink RX3 35 "MachineCore$Processor" "code" "LMachineCore$Code;") (by decide +kernel)
  have f_83 := hts (.fieldLink RX3 83 "MachineCore$Code" "first" "I") (by decide +kernel)
  have f_191 := hts (.fieldLink RX3 191 "MachineCore$Code" "r" "I") (by decide +kernel)
  have b167 : ∀ (s1 : Int32) (u : SP) (H : Heap) (locs : List Loc) (ls : Array Slot), va_P D vwCl (WP cB cI q0 q1 q2 q3 q4 q5 q6 q7 q8 q9 u) H → va_D A (WP cB cI q0 q1 q2 q3 q4 q5 q6 q7 q8 q9 u) → va_S A s.heap H locs → lv_has ls 2 [] → wX3_codesF6_b167  P s1 u → W p l e ({ frames := 4, cells := 0, slots := 0, locals := 96 } : Room) s m ([.ref q0] : List Value).toArray below meth c H locs 0 0 (MQ below (va_Qv P (fun u t => va_P D vwCl (WP cB cI q0 q1 q2 q3 q4 q5 q6 q7 q8 q9 u) t.heap) A) ([.ref q0] : List Value).toArray s 0 0 A) (F0 m 167 ls [.int s1, .ref q0]) := by
    intro s1 u H locs ls hP hD hS hl hw
    unfold wX3_codesF6_b167 at hw
    refine cl_Vv (As := [.int s1]) (rest := []) (st := [.int s1, .ref q0]) S hK hA hP hD hS (fr_P u) (kcX3_divide l D cB cI q0 q1 q2 q3 q4 q5 q6 q7 q8 q9 H.size s1 u _ hw) (cwV 1 hts gX3_codesF6_X3_divide rfl rfl rfl (by decide +kernel) ⟨Nat.le_of_ble_eq_true rfl, Nat.le_of_ble_eq_true rfl⟩) tru_h tru_b 0 rfl rfl rfl rfl rfl hl.1 (Nat.le_of_ble_eq_true rfl) dX3_codesF6_167 ⟨Nat.zero_le _, Nat.zero_le _⟩ (fun u29 H locs hP hD hS hw => ?_)
    replace hP : va_P D vwCl (WP cB cI q0 q1 q2 q3 q4 q5 q6 q7 q8 q9 u29) H := hP
    replace hD : va_D A (WP cB cI q0 q1 q2 q3 q4 q5 q6 q7 q8 q9 u29) := hD
    exact rt_v (wo := (fun v => WP cB cI q0 q1 q2 q3 q4 q5 q6 q7 q8 q9 v)) S hr hlk u29 hP hS hw dX3_codesF6_170
  have b143 : ∀ (s1 : Int32) (u : SP) (H : Heap) (locs : List Loc) (ls : Array Slot), va_P D vwCl (WP cB cI q0 q1 q2 q3 q4 q5 q6 q7 q8 q9 u) H → va_D A (WP cB cI q0 q1 q2 q3 q4 q5 q6 q7 q8 q9 u) → va_S A s.heap H locs → lv_has ls 2 [] → wX3_codesF6_b143  P s1 u → W p l e ({ frames := 4, cells := 0, slots := 0, locals := 96 } : Room) s m ([.ref q0] : List Value).toArray below meth c H locs 0 0 (MQ below (va_Qv P (fun u t => va_P D vwCl (WP cB cI q0 q1 q2 q3 q4 q5 q6 q7 q8 q9 u) t.heap) A) ([.ref q0] : List Value).toArray s 0 0 A) (F0 m 143 ls [.int s1, .ref q0]) := by
    intro s1 u H locs ls hP hD hS hl hw
    unfold wX3_codesF6_b143 at hw
    refine cl_Vv (As := [.int s1]) (rest := []) (st := [.int s1, .ref q0]) S hK hA hP hD hS (fr_P u) (kcX3_multiply l D cB cI q0 q1 q2 q3 q4 q5 q6 q7 q8 q9 H.size s1 u _ hw) (cwV 1 hts gX3_codesF6_X3_multiply rfl rfl rfl (by decide +kernel) ⟨Nat.le_of_ble_eq_true rfl, Nat.le_of_ble_eq_true rfl⟩) tru_h tru_b 0 rfl rfl rfl rfl rfl hl.1 (Nat.le_of_ble_eq_true rfl) dX3_codesF6_143 ⟨Nat.zero_le _, Nat.zero_le _⟩ (fun u27 H locs hP hD hS hw => ?_)
    replace hP : va_P D vwCl (WP cB cI q0 q1 q2 q3 q4 q5 q6 q7 q8 q9 u27) H := hP
    replace hD : va_D A (WP cB cI q0 q1 q2 q3 q4 q5 q6 q7 q8 q9 u27) := hD
    refine lv_goto (tgt := 170) hx hb dX3_codesF6_146 (by decide) ?_
    exact rt_v (wo := (fun v => WP cB cI q0 q1 q2 q3 q4 q5 q6 q7 q8 q9 v)) S hr hlk u27 hP hS hw dX3_codesF6_170
  have b126 : ∀  (u : SP) (H : Heap) (locs : List Loc) (ls : Array Slot), va_P D vwCl (WP cB cI q0 q1 q2 q3 q4 q5 q6 q7 q8 q9 u) H → va_D A (WP cB cI q0 q1 q2 q3 q4 q5 q6 q7 q8 q9 u) → va_S A s.heap H locs → lv_has ls 2 [(0, .ref q0)] → wX3_codesF6_b126  P u → W p l e ({ frames := 4, cells := 0, slots := 0, locals := 96 } : Room) s m ([.ref q0] : List Value).toArray below meth c H locs 0 0 (MQ below (va_Qv P (fun u t => va_P D vwCl (WP cB cI q0 q1 q2 q3 q4 q5 q6 q7 q8 q9 u) t.heap) A) ([.ref q0] : List Value).toArray s 0 0 A) (F0 m 126 ls []) := by
    intro u H locs ls hP hD hS hl hw
    unfold wX3_codesF6_b126 at hw
    refine lv_aload_n hx hb dX3_codesF6_126 rfl (lv_at hl 0 rfl) ?_
    refine lv_aload_n hx hb dX3_codesF6_127 rfl (lv_at hl 0 rfl) ?_
    refine va_get (D := D) (ci := 3) (v := .ref q8) (C := RX3) (T := TX3) (N := 8) hx hb hts i_X3 hown hK hP 0 rfl rfl 3 (by decide) f_35 (fun _ h9 => h9) rfl dX3_codesF6_128 ?_
    refine va_get (D := D) (ci := 1) (v := .int (c_r (p_code u))) (C := RX1) (T := TX1) (N := 12) hx hb hts i_X1 hown hK hP 8 rfl rfl 5 (by decide) f_191 (fun _ h9 => h9) rfl dX3_codesF6_131 ?_
    refine lv_iconst (v := (5 : Int32)) hx hb dX3_codesF6_134 (by decide) ?_
    refine lv_icmp_ne (tgt := 142) hx hb dX3_codesF6_135 (by decide) (fun c26 => ?_) (fun c26 => ?_)
    · replace hw := hw.2 c26
      refine lv_iconst (v := (0 : Int32)) hx hb dX3_codesF6_142 (by decide) ?_
      exact b143 (0 : Int32) u H locs ls hP hD hS (lv_sub hl [] rfl) hw
    · replace hw := hw.1 c26
      refine lv_iconst (v := (1 : Int32)) hx hb dX3_codesF6_138 (by decide) ?_
      refine lv_goto (tgt := 143) hx hb dX3_codesF6_139 (by decide) ?_
      exact b143 (1 : Int32) u H locs ls hP hD hS (lv_sub hl [] rfl) hw
  have b52 : ∀ (x1 : Int32) (u : SP) (H : Heap) (locs : List Loc) (ls : Array Slot), va_P D vwCl (WP cB cI q0 q1 q2 q3 q4 q5 q6 q7 q8 q9 u) H → va_D A (WP cB cI q0 q1 q2 q3 q4 q5 q6 q7 q8 q9 u) → va_S A s.heap H locs → lv_has ls 2 [(0, .ref q0), (1, .int x1)] → wX3_codesF6_b52  P x1 u → W p l e ({ frames := 4, cells := 0, slots := 0, locals := 96 } : Room) s m ([.ref q0] : List Value).toArray below meth c H locs 0 0 (MQ below (va_Qv P (fun u t => va_P D vwCl (WP cB cI q0 q1 q2 q3 q4 q5 q6 q7 q8 q9 u) t.heap) A) ([.ref q0] : List Value).toArray s 0 0 A) (F0 m 52 ls []) := by
    intro x1 u H locs ls hP hD hS hl hw
    unfold wX3_codesF6_b52 at hw
    refine lv_aload_n hx hb dX3_codesF6_52 rfl (lv_at hl 0 rfl) ?_
    refine va_get (D := D) (ci := 3) (v := .ref q7) (C := RX3) (T := TX3) (N := 8) hx hb hts i_X3 hown hK hP 0 rfl rfl 2 (by decide) f_28 (fun _ h9 => h9) rfl dX3_codesF6_53 ?_
    refine lv_bipush (v := (8 : Int32)) hx hb dX3_codesF6_56 (by decide) ?_
    refine lv_aload_n hx hb dX3_codesF6_58 rfl (lv_at hl 0 rfl) ?_
    refine lv_iload_n hx hb dX3_codesF6_59 rfl (lv_at hl 1 rfl) ?_
    refine cl_Vi (As := [.int x1]) (rest := [.int (8 : Int32), .ref q7]) (st := [.int x1, .ref q0, .int (8 : Int32), .ref q7]) S hK hA hP hD hS (fr_P u) (kcX3_e l D cB cI q0 q1 q2 q3 q4 q5 q6 q7 q8 q9 H.size x1 u _ hw) (cwV 1 hts gX3_codesF6_X3_e rfl rfl rfl (by decide +kernel) ⟨Nat.le_of_ble_eq_true rfl, Nat.le_of_ble_eq_true rfl⟩) tru_h tru_b 0 rfl rfl rfl rfl rfl hl.1 (Nat.le_of_ble_eq_true rfl) dX3_codesF6_60 ⟨Nat.zero_le _, Nat.zero_le _⟩ (fun r23 u22 H locs hP hD hS hw => ?_)
    replace hP : va_P D vwCl (WP cB cI q0 q1 q2 q3 q4 q5 q6 q7 q8 q9 u22) H := hP
    replace hD : va_D A (WP cB cI q0 q1 q2 q3 q4 q5 q6 q7 q8 q9 u22) := hD
    refine lv_aload_n hx hb dX3_codesF6_63 rfl (lv_at hl 0 rfl) ?_
    refine va_get (D := D) (ci := 3) (v := .ref q8) (C := RX3) (T := TX3) (N := 8) hx hb hts i_X3 hown hK hP 0 rfl rfl 3 (by decide) f_35 (fun _ h9 => h9) rfl dX3_codesF6_64 ?_
    refine va_get (D := D) (ci := 1) (v := .int (c_first (p_code u22))) (C := RX1) (T := TX1) (N := 12) hx hb hts i_X1 hown hK hP 8 rfl rfl 9 (by decide) f_83 (fun _ h9 => h9) rfl dX3_codesF6_67 ?_
    refine lv_iload_n hx hb dX3_codesF6_70 rfl (lv_at hl 1 rfl) ?_
    refine cl_Vi (As := [.int (8 : Int32), .int r23, .int (c_first (p_code u22)), .int x1]) (rest := []) (st := [.int x1, .int (c_first (p_code u22)), .int r23, .int (8 : Int32), .ref q7]) S hK hA hP hD hS (fr_P_A u22) (kcX0_operation l D cB cI q7 H.size (8 : Int32) r23 (c_first (p_code u22)) x1 (p_flags u22) _ hw) (cwV 4 hts gX3_codesF6_X0_operation rfl rfl rfl (by decide +kernel) ⟨Nat.le_of_ble_eq_true rfl, Nat.le_of_ble_eq_true rfl⟩) tru_h tru_b 7 rfl rfl rfl rfl rfl hl.1 (Nat.le_of_ble_eq_true rfl) dX3_codesF6_71 ⟨Nat.zero_le _, Nat.zero_le _⟩ (fun r25 u24 H locs hP hD hS hw => ?_)
    replace hP : va_P D vwCl (WP cB cI q0 q1 q2 q3 q4 q5 q6 q7 q8 q9 (ps_flags u22 u24)) H := hP
    replace hD : va_D A (WP cB cI q0 q1 q2 q3 q4 q5 q6 q7 q8 q9 (ps_flags u22 u24)) := hD
    refine lv_pop hx hb dX3_codesF6_74 rfl ?_
    refine lv_goto (tgt := 170) hx hb dX3_codesF6_75 (by decide) ?_
    exact rt_v (wo := (fun v => WP cB cI q0 q1 q2 q3 q4 q5 q6 q7 q8 q9 v)) S hr hlk (ps_flags u22 u24) hP hS hw dX3_codesF6_170
  unfold wX3_codesF6 at hw
  obtain ⟨H, eH⟩ : ∃ H, H = s.heap := ⟨_, rfl⟩
  obtain ⟨locs, eL⟩ : ∃ locs : List Loc, locs = [] := ⟨_, rfl⟩
  replace hP : va_P D vwCl (WP cB cI q0 q1 q2 q3 q4 q5 q6 q7 q8 q9 u) H := by rw [eH]; exact hP
  replace hS : va_S A s.heap H locs := by rw [eH, eL]; exact hS
  suffices hgo : W p l e ({ frames := 4, cells := 0, slots := 0, locals := 96 } : Room) s m ([.ref q0] : List Value).toArray below meth c H locs 0 0 (MQ below (va_Qv P (fun u t => va_P D vwCl (WP cB cI q0 q1 q2 q3 q4 q5 q6 q7 q8 q9 u) t.heap) A) ([.ref q0] : List Value).toArray s 0 0 A) (F0 m 0 ls []) by rw [eH, eL] at hgo; exact hgo
  clear eH eL
  refine lv_aload_n hx hb dX3_codesF6_0 rfl (lv_at hl 0 rfl) ?_
  refine va_get (D := D) (ci := 3) (v := .ref q8) (C := RX3) (T := TX3) (N := 8) hx hb hts i_X3 hown hK hP 0 rfl rfl 3 (by decide) f_35 (fun _ h9 => h9) rfl dX3_codesF6_1 ?_
  refine cl_Vi (As := []) (rest := []) (st := [.ref q8]) S hK hA hP hD hS (fr_P_C u) (kcX1_wide l D cB cI q8 H.size  (p_code u) _ hw) (cwV 0 hts gX3_codesF6_X1_wide rfl rfl rfl (by decide +kernel) ⟨Nat.le_of_ble_eq_true rfl, Nat.le_of_ble_eq_true rfl⟩) tru_h tru_b 8 rfl rfl rfl rfl rfl hl.1 (Nat.le_of_ble_eq_true rfl) dX3_codesF6_4 ⟨Nat.zero_le _, Nat.zero_le _⟩ (fun r2 u1 H locs hP hD hS hw => ?_)
  replace hP : va_P D vwCl (WP cB cI q0 q1 q2 q3 q4 q5 q6 q7 q8 q9 (ps_code u u1)) H := hP
  replace hD : va_D A (WP cB cI q0 q1 q2 q3 q4 q5 q6 q7 q8 q9 (ps_code u u1)) := hD
  refine lv_istore_n (lv' := [(1, .int r2), (0, .ref q0)]) hx hb dX3_codesF6_7 rfl hl (by decide) rfl (fun ls hl => ?_)
  refine lv_aload_n hx hb dX3_codesF6_8 rfl (lv_at hl 1 rfl) ?_
  refine va_get (D := D) (ci := 3) (v := .ref q8) (C := RX3) (T := TX3) (N := 8) hx hb hts i_X3 hown hK hP 0 rfl rfl 3 (by decide) f_35 (fun _ h9 => h9) rfl dX3_codesF6_9 ?_
  refine va_get (D := D) (ci := 1) (v := .int (c_r u1)) (C := RX1) (T := TX1) (N := 12) hx hb hts i_X1 hown hK hP 8 rfl rfl 5 (by decide) f_191 (fun _ h9 => h9) rfl dX3_codesF6_12 ?_
  by_cases c3 : (c_r u1) = (0 : Int32)
  · replace hw := hw.1 c3
    refine lv_tableIn (off := 37) (tgt := 52) hx hb dX3_codesF6_15 (by rw [c3]; decide) (by rw [c3]; decide) (by rw [c3]; rfl) (by decide) ?_
    exact b52 r2 (ps_code u u1) H locs ls hP hD hS (lv_sub hl [1, 0] rfl) hw
  replace hw := hw.2 c3
  by_cases c4 : (c_r u1) = (1 : Int32)
  · replace hw := hw.1 c4
    refine lv_tableIn (off := 37) (tgt := 52) hx hb dX3_codesF6_15 (by rw [c4]; decide) (by rw [c4]; decide) (by rw [c4]; rfl) (by decide) ?_
    exact b52 r2 (ps_code u u1) H locs ls hP hD hS (lv_sub hl [1, 0] rfl) hw
  replace hw := hw.2 c4
  by_cases c5 : (c_r u1) = (2 : Int32)
  · replace hw := hw.1 c5
    refine lv_tableIn (off := 63) (tgt := 78) hx hb dX3_codesF6_15 (by rw [c5]; decide) (by rw [c5]; decide) (by rw [c5]; rfl) (by decide) ?_
    refine lv_aload_n hx hb dX3_codesF6_78 rfl (lv_at hl 1 rfl) ?_
    refine lv_aload_n hx hb dX3_codesF6_79 rfl (lv_at hl 1 rfl) ?_
    refine va_get (D := D) (ci := 3) (v := .ref q7) (C := RX3) (T := TX3) (N := 8) hx hb hts i_X3 hown hK hP 0 rfl rfl 2 (by decide) f_28 (fun _ h9 => h9) rfl dX3_codesF6_80 ?_
    refine lv_bipush (v := (12 : Int32)) hx hb dX3_codesF6_83 (by decide) ?_
    refine lv_aload_n hx hb dX3_codesF6_85 rfl (lv_at hl 1 rfl) ?_
    refine lv_iload_n hx hb dX3_codesF6_86 rfl (lv_at hl 0 rfl) ?_
    refine cl_Vi (As := [.int r2]) (rest := [.int (12 : Int32), .ref q7, .ref q0]) (st := [.int r2, .ref q0, .int (12 : Int32), .ref q7, .ref q0]) S hK hA hP hD hS (fr_P (ps_code u u1)) (kcX3_e l D cB cI q0 q1 q2 q3 q4 q5 q6 q7 q8 q9 H.size r2 (ps_code u u1) _ hw) (cwV 1 hts gX3_codesF6_X3_e rfl rfl rfl (by decide +kernel) ⟨Nat.le_of_ble_eq_true rfl, Nat.le_of_ble_eq_true rfl⟩) tru_h tru_b 0 rfl rfl rfl rfl rfl hl.1 (Nat.le_of_ble_eq_true rfl) dX3_codesF6_87 ⟨Nat.zero_le _, Nat.zero_le _⟩ (fun r7 u6 H locs hP hD hS hw => ?_)
    replace hP : va_P D vwCl (WP cB cI q0 q1 q2 q3 q4 q5 q6 q7 q8 q9 u6) H := hP
    replace hD : va_D A (WP cB cI q0 q1 q2 q3 q4 q5 q6 q7 q8 q9 u6) := hD
    refine lv_iconst (v := (0 : Int32)) hx hb dX3_codesF6_90 (by decide) ?_
    refine lv_iload_n hx hb dX3_codesF6_91 rfl (lv_at hl 0 rfl) ?_
    refine cl_Vi (As := [.int (12 : Int32), .int r7, .int (0 : Int32), .int r2]) (rest := [.ref q0]) (st := [.int r2, .int (0 : Int32), .int r7, .int (12 : Int32), .ref q7, .ref q0]) S hK hA hP hD hS (fr_P_A u6) (kcX0_operation l D cB cI q7 H.size (12 : Int32) r7 (0 : Int32) r2 (p_flags u6) _ hw) (cwV 4 hts gX3_codesF6_X0_operation rfl rfl rfl (by decide +kernel) ⟨Nat.le_of_ble_eq_true rfl, Nat.le_of_ble_eq_true rfl⟩) tru_h tru_b 7 rfl rfl rfl rfl rfl hl.1 (Nat.le_of_ble_eq_true rfl) dX3_codesF6_92 ⟨Nat.zero_le _, Nat.zero_le _⟩ (fun r9 u8 H locs hP hD hS hw => ?_)
    replace hP : va_P D vwCl (WP cB cI q0 q1 q2 q3 q4 q5 q6 q7 q8 q9 (ps_flags u6 u8)) H := hP
    replace hD : va_D A (WP cB cI q0 q1 q2 q3 q4 q5 q6 q7 q8 q9 (ps_flags u6 u8)) := hD
    refine lv_iload_n hx hb dX3_codesF6_95 rfl (lv_at hl 0 rfl) ?_
    refine cl_Vv (As := [.int r9, .int r2]) (rest := []) (st := [.int r2, .int r9, .ref q0]) S hK hA hP hD hS (fr_P (ps_flags u6 u8)) (kcX3_giveE l D cB cI q0 q1 q2 q3 q4 q5 q6 q7 q8 q9 H.size r9 r2 (ps_flags u6 u8) _ hw) (cwV 2 hts gX3_codesF6_X3_giveE rfl rfl rfl (by decide +kernel) ⟨Nat.le_of_ble_eq_true rfl, Nat.le_of_ble_eq_true rfl⟩) tru_h tru_b 0 rfl rfl rfl rfl rfl hl.1 (Nat.le_of_ble_eq_true rfl) dX3_codesF6_96 ⟨Nat.zero_le _, Nat.zero_le _⟩ (fun u10 H locs hP hD hS hw => ?_)
    replace hP : va_P D vwCl (WP cB cI q0 q1 q2 q3 q4 q5 q6 q7 q8 q9 u10) H := hP
    replace hD : va_D A (WP cB cI q0 q1 q2 q3 q4 q5 q6 q7 q8 q9 u10) := hD
    refine lv_goto (tgt := 170) hx hb dX3_codesF6_99 (by decide) ?_
    exact rt_v (wo := (fun v => WP cB cI q0 q1 q2 q3 q4 q5 q6 q7 q8 q9 v)) S hr hlk u10 hP hS hw dX3_codesF6_170
  replace hw := hw.2 c5
  by_cases c12 : (c_r u1) = (3 : Int32)
  · replace hw := hw.1 c12
    refine lv_tableIn (off := 87) (tgt := 102) hx hb dX3_codesF6_15 (by rw [c12]; decide) (by rw [c12]; decide) (by rw [c12]; rfl) (by decide) ?_
    refine lv_aload_n hx hb dX3_codesF6_102 rfl (lv_at hl 1 rfl) ?_
    refine lv_aload_n hx hb dX3_codesF6_103 rfl (lv_at hl 1 rfl) ?_
    refine va_get (D := D) (ci := 3) (v := .ref q7) (C := RX3) (T := TX3) (N := 8) hx hb hts i_X3 hown hK hP 0 rfl rfl 2 (by decide) f_28 (fun _ h9 => h9) rfl dX3_codesF6_104 ?_
    refine lv_bipush (v := (11 : Int32)) hx hb dX3_codesF6_107 (by decide) ?_
    refine lv_aload_n hx hb dX3_codesF6_109 rfl (lv_at hl 1 rfl) ?_
    refine lv_iload_n hx hb dX3_codesF6_110 rfl (lv_at hl 0 rfl) ?_
    refine cl_Vi (As := [.int r2]) (rest := [.int (11 : Int32), .ref q7, .ref q0]) (st := [.int r2, .ref q0, .int (11 : Int32), .ref q7, .ref q0]) S hK hA hP hD hS (fr_P (ps_code u u1)) (kcX3_e l D cB cI q0 q1 q2 q3 q4 q5 q6 q7 q8 q9 H.size r2 (ps_code u u1) _ hw) (cwV 1 hts gX3_codesF6_X3_e rfl rfl rfl (by decide +kernel) ⟨Nat.le_of_ble_eq_true rfl, Nat.le_of_ble_eq_true rfl⟩) tru_h tru_b 0 rfl rfl rfl rfl rfl hl.1 (Nat.le_of_ble_eq_true rfl) dX3_codesF6_111 ⟨Nat.zero_le _, Nat.zero_le _⟩ (fun r14 u13 H locs hP hD hS hw => ?_)
    replace hP : va_P D vwCl (WP cB cI q0 q1 q2 q3 q4 q5 q6 q7 q8 q9 u13) H := hP
    replace hD : va_D A (WP cB cI q0 q1 q2 q3 q4 q5 q6 q7 q8 q9 u13) := hD
    refine lv_iconst (v := (0 : Int32)) hx hb dX3_codesF6_114 (by decide) ?_
    refine lv_iload_n hx hb dX3_codesF6_115 rfl (lv_at hl 0 rfl) ?_
    refine cl_Vi (As := [.int (11 : Int32), .int r14, .int (0 : Int32), .int r2]) (rest := [.ref q0]) (st := [.int r2, .int (0 : Int32), .int r14, .int (11 : Int32), .ref q7, .ref q0]) S hK hA hP hD hS (fr_P_A u13) (kcX0_operation l D cB cI q7 H.size (11 : Int32) r14 (0 : Int32) r2 (p_flags u13) _ hw) (cwV 4 hts gX3_codesF6_X0_operation rfl rfl rfl (by decide +kernel) ⟨Nat.le_of_ble_eq_true rfl, Nat.le_of_ble_eq_true rfl⟩) tru_h tru_b 7 rfl rfl rfl rfl rfl hl.1 (Nat.le_of_ble_eq_true rfl) dX3_codesF6_116 ⟨Nat.zero_le _, Nat.zero_le _⟩ (fun r16 u15 H locs hP hD hS hw => ?_)
    replace hP : va_P D vwCl (WP cB cI q0 q1 q2 q3 q4 q5 q6 q7 q8 q9 (ps_flags u13 u15)) H := hP
    replace hD : va_D A (WP cB cI q0 q1 q2 q3 q4 q5 q6 q7 q8 q9 (ps_flags u13 u15)) := hD
    refine lv_iload_n hx hb dX3_codesF6_119 rfl (lv_at hl 0 rfl) ?_
    refine cl_Vv (As := [.int r16, .int r2]) (rest := []) (st := [.int r2, .int r16, .ref q0]) S hK hA hP hD hS (fr_P (ps_flags u13 u15)) (kcX3_giveE l D cB cI q0 q1 q2 q3 q4 q5 q6 q7 q8 q9 H.size r16 r2 (ps_flags u13 u15) _ hw) (cwV 2 hts gX3_codesF6_X3_giveE rfl rfl rfl (by decide +kernel) ⟨Nat.le_of_ble_eq_true rfl, Nat.le_of_ble_eq_true rfl⟩) tru_h tru_b 0 rfl rfl rfl rfl rfl hl.1 (Nat.le_of_ble_eq_true rfl) dX3_codesF6_120 ⟨Nat.zero_le _, Nat.zero_le _⟩ (fun u17 H locs hP hD hS hw => ?_)
    replace hP : va_P D vwCl (WP cB cI q0 q1 q2 q3 q4 q5 q6 q7 q8 q9 u17) H := hP
    replace hD : va_D A (WP cB cI q0 q1 q2 q3 q4 q5 q6 q7 q8 q9 u17) := hD
    refine lv_goto (tgt := 170) hx hb dX3_codesF6_123 (by decide) ?_
    exact rt_v (wo := (fun v => WP cB cI q0 q1 q2 q3 q4 q5 q6 q7 q8 q9 v)) S hr hlk u17 hP hS hw dX3_codesF6_170
  replace hw := hw.2 c12
  by_cases c19 : (c_r u1) = (4 : Int32)
  · replace hw := hw.1 c19
    refine lv_tableIn (off := 111) (tgt := 126) hx hb dX3_codesF6_15 (by rw [c19]; decide) (by rw [c19]; decide) (by rw [c19]; rfl) (by decide) ?_
    exact b126 (ps_code u u1) H locs ls hP hD hS (lv_sub hl [1] rfl) hw
  replace hw := hw.2 c19
  by_cases c20 : (c_r u1) = (5 : Int32)
  · replace hw := hw.1 c20
    refine lv_tableIn (off := 111) (tgt := 126) hx hb dX3_codesF6_15 (by rw [c20]; decide) (by rw [c20]; decide) (by rw [c20]; rfl) (by decide) ?_
    exact b126 (ps_code u u1) H locs ls hP hD hS (lv_sub hl [1] rfl) hw
  replace hw := hw.2 c20
  refine lv_tableOut (tgt := 149) hx hb dX3_codesF6_15 (by have e_c3 : ¬ ((c_r u1) : Int32).toInt = 0 := sw_ne c3; have e_c4 : ¬ ((c_r u1) : Int32).toInt = 1 := sw_ne c4; have e_c5 : ¬ ((c_r u1) : Int32).toInt = 2 := sw_ne c5; have e_c12 : ¬ ((c_r u1) : Int32).toInt = 3 := sw_ne c12; have e_c19 : ¬ ((c_r u1) : Int32).toInt = 4 := sw_ne c19; have e_c20 : ¬ ((c_r u1) : Int32).toInt = 5 := sw_ne c20; omega) (by decide) ?_
  refine lv_aload_n hx hb dX3_codesF6_149 rfl (lv_at hl 1 rfl) ?_
  refine lv_aload_n hx hb dX3_codesF6_150 rfl (lv_at hl 1 rfl) ?_
  refine va_get (D := D) (ci := 3) (v := .ref q8) (C := RX3) (T := TX3) (N := 8) hx hb hts i_X3 hown hK hP 0 rfl rfl 3 (by decide) f_35 (fun _ h9 => h9) rfl dX3_codesF6_151 ?_
  refine va_get (D := D) (ci := 1) (v := .int (c_r u1)) (C := RX1) (T := TX1) (N := 12) hx hb hts i_X1 hown hK hP 8 rfl rfl 5 (by decide) f_191 (fun _ h9 => h9) rfl dX3_codesF6_154 ?_
  refine lv_bipush (v := (7 : Int32)) hx hb dX3_codesF6_157 (by decide) ?_
  refine lv_icmp_ne (tgt := 166) hx hb dX3_codesF6_159 (by decide) (fun c21 => ?_) (fun c21 => ?_)
  · replace hw := hw.2 c21
    refine lv_iconst (v := (0 : Int32)) hx hb dX3_codesF6_166 (by decide) ?_
    exact b167 (0 : Int32) (ps_code u u1) H locs ls hP hD hS (lv_sub hl [] rfl) hw
  · replace hw := hw.1 c21
    refine lv_iconst (v := (1 : Int32)) hx hb dX3_codesF6_162 (by decide) ?_
    refine lv_goto (tgt := 167) hx hb dX3_codesF6_163 (by decide) ?_
    exact b167 (1 : Int32) (ps_code u u1) H locs ls hP hD hS (lv_sub hl [] rfl) hw
-- X3_pushedRegister
def wX3_pushedRegister (a1 : Int32) (u : SP) (P : Int32 → SP → Prop) : Prop := ((a1 = (4 : Int32) → (wX4_word a1 (p_regs u) (fun r5 u4 => (P (r5 - (2 : Int32)) (ps_regs u u4))))) ∧ (¬ a1 = (4 : Int32) → (wX4_word a1 (p_regs u) (fun r3 u2 => (P r3 (ps_regs u u2))))))
set_option maxHeartbeats 4000000 in
set_option maxRecDepth 100000 in
theorem kcX3_pushedRegister (l : Launch) (D : va_G) (cB cI : ClassId) (q0 q1 q2 q3 q4 q5 q6 q7 q8 q9 : Nat) (sz : Nat) (a1 : Int32) (u : SP) (P : Int32 → SP → Prop) (hw : wX3_pushedRegister a1 u P) : Met l yX3_pushedRegister wsX3_pushedRegister ({ frames := 1, cells := 0, slots := 0, locals := 21 } : Room) (va_Pc [.ref q0, .int a1] (Pcw D (tyA cB cI) (WP cB cI q0 q1 q2 q3 q4 q5 q6 q7 q8 q9 u) sz Tru)) (va_Qi P (fun u t => va_P D vwCl (WP cB cI q0 q1 q2 q3 q4 q5 q6 q7 q8 q9 u) t.heap) (va_A (WP cB cI q0 q1 q2 q3 q4 q5 q6 q7 q8 q9 u) sz)) 0 0 (va_A (WP cB cI q0 q1 q2 q3 q4 q5 q6 q7 q8 q9 u) sz) := by
  refine en_ (cc := cX3_pushedRegister) (maxL := 2) (ret := (some .int)) (own := RX3) (lv := [(0, .ref q0), (1, .int a1)]) (Qf := fun A => va_Qi P (fun u t => va_P D vwCl (WP cB cI q0 q1 q2 q3 q4 q5 q6 q7 q8 q9 u) t.heap) A) (by decide) rfl rfl (Nat.le_of_ble_eq_true rfl) rfl ?_
  intro p e s m below meth c A ls S hr hlk hname hsz hP hK hD hA hSub hS hE hl
  have hx := S.1
  have hb := S.2.1
  have hown := S.2.2.2.1
  have hts := S.2.2.2.2
  have i_X3 : ∀ w ∈ u_ws RX3 TX3 8, w ∈ wsX3_pushedRegister := by decide +kernel
  have f_21 := hts (.fieldLink RX3 21 "MachineCore$Processor" "registers" "LMachineCore$Registers;") (by decide +kernel)
  unfold wX3_pushedRegister at hw
  obtain ⟨H, eH⟩ : ∃ H, H = s.heap := ⟨_, rfl⟩
  obtain ⟨locs, eL⟩ : ∃ locs : List Loc, locs = [] := ⟨_, rfl⟩
  replace hP : va_P D vwCl (WP cB cI q0 q1 q2 q3 q4 q5 q6 q7 q8 q9 u) H := by rw [eH]; exact hP
  replace hS : va_S A s.heap H locs := by rw [eH, eL]; exact hS
  suffices hgo : W p l e ({ frames := 1, cells := 0, slots := 0, locals := 21 } : Room) s m ([.ref q0, .int a1] : List Value).toArray below meth c H locs 0 0 (MQ below (va_Qi P (fun u t => va_P D vwCl (WP cB cI q0 q1 q2 q3 q4 q5 q6 q7 q8 q9 u) t.heap) A) ([.ref q0, .int a1] : List Value).toArray s 0 0 A) (F0 m 0 ls []) by rw [eH, eL] at hgo; exact hgo
  clear eH eL
  refine lv_iload_n hx hb dX3_pushedRegister_0 rfl (lv_at hl 1 rfl) ?_
  refine lv_iconst (v := (4 : Int32)) hx hb dX3_pushedRegister_1 (by decide) ?_
  refine lv_icmp_ne (tgt := 18) hx hb dX3_pushedRegister_2 (by decide) (fun c1 => ?_) (fun c1 => ?_)
  · replace hw := hw.2 c1
    refine lv_aload_n hx hb dX3_pushedRegister_18 rfl (lv_at hl 0 rfl) ?_
    refine va_get (D := D) (ci := 3) (v := .ref q4) (C := RX3) (T := TX3) (N := 8) hx hb hts i_X3 hown hK hP 0 rfl rfl 1 (by decide) f_21 (fun _ h9 => h9) rfl dX3_pushedRegister_19 ?_
    refine lv_iload_n hx hb dX3_pushedRegister_22 rfl (lv_at hl 1 rfl) ?_
    refine cl_Vi (As := [.int a1]) (rest := []) (st := [.int a1, .ref q4]) S hK hA hP hD hS (fr_P_R u) (kcX4_word l D cB cI q4 q5 q6 H.size a1 (p_regs u) _ hw) (cwV 1 hts gX3_pushedRegister_X4_word rfl rfl rfl (by decide +kernel) ⟨Nat.le_of_ble_eq_true rfl, Nat.le_of_ble_eq_true rfl⟩) tru_h tru_b 4 rfl rfl rfl rfl rfl hl.1 (Nat.le_of_ble_eq_true rfl) dX3_pushedRegister_23 ⟨Nat.zero_le _, Nat.zero_le _⟩ (fun r3 u2 H locs hP hD hS hw => ?_)
    replace hP : va_P D vwCl (WP cB cI q0 q1 q2 q3 q4 q5 q6 q7 q8 q9 (ps_regs u u2)) H := hP
    replace hD : va_D A (WP cB cI q0 q1 q2 q3 q4 q5 q6 q7 q8 q9 (ps_regs u u2)) := hD
    exact rt_i (wo := (fun v => WP cB cI q0 q1 q2 q3 q4 q5 q6 q7 q8 q9 v)) S hr hlk (ps_regs u u2) hP hS hw dX3_pushedRegister_26
  · replace hw := hw.1 c1
    refine lv_aload_n hx hb dX3_pushedRegister_5 rfl (lv_at hl 0 rfl) ?_
    refine va_get (D := D) (ci := 3) (v := .ref q4) (C := RX3) (T := TX3) (N := 8) hx hb hts i_X3 hown hK hP 0 rfl rfl 1 (by decide) f_21 (fun _ h9 => h9) rfl dX3_pushedRegister_6 ?_
    refine lv_iload_n hx hb dX3_pushedRegister_9 rfl (lv_at hl 1 rfl) ?_
    refine cl_Vi (As := [.int a1]) (rest := []) (st := [.int a1, .ref q4]) S hK hA hP hD hS (fr_P_R u) (kcX4_word l D cB cI q4 q5 q6 H.size a1 (p_regs u) _ hw) (cwV 1 hts gX3_pushedRegister_X4_word rfl rfl rfl (by decide +kernel) ⟨Nat.le_of_ble_eq_true rfl, Nat.le_of_ble_eq_true rfl⟩) tru_h tru_b 4 rfl rfl rfl rfl rfl hl.1 (Nat.le_of_ble_eq_true rfl) dX3_pushedRegister_10 ⟨Nat.zero_le _, Nat.zero_le _⟩ (fun r5 u4 H locs hP hD hS hw => ?_)
    replace hP : va_P D vwCl (WP cB cI q0 q1 q2 q3 q4 q5 q6 q7 q8 q9 (ps_regs u u4)) H := hP
    replace hD : va_D A (WP cB cI q0 q1 q2 q3 q4 q5 q6 q7 q8 q9 (ps_regs u u4)) := hD
    refine lv_iconst (v := (2 : Int32)) hx hb dX3_pushedRegister_13 (by decide) ?_
    refine lv_isub hx hb dX3_pushedRegister_14 ?_
    refine lv_goto (tgt := 26) hx hb dX3_pushedRegister_15 (by decide) ?_
    exact rt_i (wo := (fun v => WP cB cI q0 q1 q2 q3 q4 q5 q6 q7 q8 q9 v)) S hr hlk (ps_regs u u4) hP hS hw dX3_pushedRegister_26
-- X3_wordBehindE
def wX3_wordBehindE  (u : SP) (P : Int32 → SP → Prop) : Prop := (wX2_load (c_eSegment (p_code u)) ((c_offset (p_code u)) + (2 : Int32)) (1 : Int32) (p_mem u) (fun r2 u1 => (P r2 (ps_mem u u1))))
set_option maxHeartbeats 4000000 in
set_option maxRecDepth 100000 in
theorem kcX3_wordBehindE (l : Launch) (D : va_G) (cB cI : ClassId) (q0 q1 q2 q3 q4 q5 q6 q7 q8 q9 : Nat) (sz : Nat)  (u : SP) (P : Int32 → SP → Prop) (hw : wX3_wordBehindE  u P) : Met l yX3_wordBehindE wsX3_wordBehindE ({ frames := 2, cells := 0, slots := 0, locals := 46 } : Room) (va_Pc [.ref q0] (Pcw D (tyA cB cI) (WP cB cI q0 q1 q2 q3 q4 q5 q6 q7 q8 q9 u) sz Tru)) (va_Qi P (fun u t => va_P D vwCl (WP cB cI q0 q1 q2 q3 q4 q5 q6 q7 q8 q9 u) t.heap) (va_A (WP cB cI q0 q1 q2 q3 q4 q5 q6 q7 q8 q9 u) sz)) 0 0 (va_A (WP cB cI q0 q1 q2 q3 q4 q5 q6 q7 q8 q9 u) sz) := by
  refine en_ (cc := cX3_wordBehindE) (maxL := 1) (ret := (some .int)) (own := RX3) (lv := [(0, .ref q0)]) (Qf := fun A => va_Qi P (fun u t => va_P D vwCl (WP cB cI q0 q1 q2 q3 q4 q5 q6 q7 q8 q9 u) t.heap) A) (by decide) rfl rfl (Nat.le_of_ble_eq_true rfl) rfl ?_
  intro p e s m below meth c A ls S hr hlk hname hsz hP hK hD hA hSub hS hE hl
  have hx := S.1
  have hb := S.2.1
  have hown := S.2.2.2.1
  have hts := S.2.2.2.2
  have i_X1 : ∀ w ∈ u_ws RX1 TX1 12, w ∈ wsX3_wordBehindE := by decide +kernel
  have i_X3 : ∀ w ∈ u_ws RX3 TX3 8, w ∈ wsX3_wordBehindE := by decide +kernel
  have f_12 := hts (.fieldLink RX3 12 "MachineCore$Processor" "memory" "LMachineCore$Memory;") (by decide +kernel)
  have f_35 := hts (.fieldLink RX3 35 "MachineCore$Processor" "code" "LMachineCore$Code;") (by decide +kernel)
  have f_162 := hts (.fieldLink RX3 162 "MachineCore$Code" "eSegment" "I") (by decide +kernel)
  have f_165 := hts (.fieldLink RX3 165 "MachineCore$Code" "offset" "I") (by decide +kernel)
  unfold wX3_wordBehindE at hw
  obtain ⟨H, eH⟩ : ∃ H, H = s.heap := ⟨_, rfl⟩
  obtain ⟨locs, eL⟩ : ∃ locs : List Loc, locs = [] := ⟨_, rfl⟩
  replace hP : va_P D vwCl (WP cB cI q0 q1 q2 q3 q4 q5 q6 q7 q8 q9 u) H := by rw [eH]; exact hP
  replace hS : va_S A s.heap H locs := by rw [eH, eL]; exact hS
  suffices hgo : W p l e ({ frames := 2, cells := 0, slots := 0, locals := 46 } : Room) s m ([.ref q0] : List Value).toArray below meth c H locs 0 0 (MQ below (va_Qi P (fun u t => va_P D vwCl (WP cB cI q0 q1 q2 q3 q4 q5 q6 q7 q8 q9 u) t.heap) A) ([.ref q0] : List Value).toArray s 0 0 A) (F0 m 0 ls []) by rw [eH, eL] at hgo; exact hgo
  clear eH eL
  refine lv_aload_n hx hb dX3_wordBehindE_0 rfl (lv_at hl 0 rfl) ?_
  refine va_get (D := D) (ci := 3) (v := .ref q1) (C := RX3) (T := TX3) (N := 8) hx hb hts i_X3 hown hK hP 0 rfl rfl 0 (by decide) f_12 (fun _ h9 => h9) rfl dX3_wordBehindE_1 ?_
  refine lv_aload_n hx hb dX3_wordBehindE_4 rfl (lv_at hl 0 rfl) ?_
  refine va_get (D := D) (ci := 3) (v := .ref q8) (C := RX3) (T := TX3) (N := 8) hx hb hts i_X3 hown hK hP 0 rfl rfl 3 (by decide) f_35 (fun _ h9 => h9) rfl dX3_wordBehindE_5 ?_
  refine va_get (D := D) (ci := 1) (v := .int (c_eSegment (p_code u))) (C := RX1) (T := TX1) (N := 12) hx hb hts i_X1 hown hK hP 8 rfl rfl 7 (by decide) f_162 (fun _ h9 => h9) rfl dX3_wordBehindE_8 ?_
  refine lv_aload_n hx hb dX3_wordBehindE_11 rfl (lv_at hl 0 rfl) ?_
  refine va_get (D := D) (ci := 3) (v := .ref q8) (C := RX3) (T := TX3) (N := 8) hx hb hts i_X3 hown hK hP 0 rfl rfl 3 (by decide) f_35 (fun _ h9 => h9) rfl dX3_wordBehindE_12 ?_
  refine va_get (D := D) (ci := 1) (v := .int (c_offset (p_code u))) (C := RX1) (T := TX1) (N := 12) hx hb hts i_X1 hown hK hP 8 rfl rfl 8 (by decide) f_165 (fun _ h9 => h9) rfl dX3_wordBehindE_15 ?_
  refine lv_iconst (v := (2 : Int32)) hx hb dX3_wordBehindE_18 (by decide) ?_
  refine lv_iadd hx hb dX3_wordBehindE_19 ?_
  refine lv_iconst (v := (1 : Int32)) hx hb dX3_wordBehindE_20 (by decide) ?_
  refine cl_Vi (As := [.int (c_eSegment (p_code u)), .int ((c_offset (p_code u)) + (2 : Int32)), .int (1 : Int32)]) (rest := []) (st := [.int (1 : Int32), .int ((c_offset (p_code u)) + (2 : Int32)), .int (c_eSegment (p_code u)), .ref q1]) S hK hA hP hD hS (fr_P_M u) (kcX2_load l D cB cI q1 q2 q3 H.size (c_eSegment (p_code u)) ((c_offset (p_code u)) + (2 : Int32)) (1 : Int32) (p_mem u) _ hw) (cwV 3 hts gX3_wordBehindE_X2_load rfl rfl rfl (by decide +kernel) ⟨Nat.le_of_ble_eq_true rfl, Nat.le_of_ble_eq_true rfl⟩) tru_h tru_b 1 rfl rfl rfl rfl rfl hl.1 (Nat.le_of_ble_eq_true rfl) dX3_wordBehindE_21 ⟨Nat.zero_le _, Nat.zero_le _⟩ (fun r2 u1 H locs hP hD hS hw => ?_)
  replace hP : va_P D vwCl (WP cB cI q0 q1 q2 q3 q4 q5 q6 q7 q8 q9 (ps_mem u u1)) H := hP
  replace hD : va_D A (WP cB cI q0 q1 q2 q3 q4 q5 q6 q7 q8 q9 (ps_mem u u1)) := hD
  exact rt_i (wo := (fun v => WP cB cI q0 q1 q2 q3 q4 q5 q6 q7 q8 q9 v)) S hr hlk (ps_mem u u1) hP hS hw dX3_wordBehindE_24
-- X3_codesFE
def wX3_codesFE_b194  (P : SP → Prop) (s1 : Int32) (u : SP) : Prop := (wX3_push s1 u (fun u45 => (P u45)))
def wX3_codesFE_b78  (P : SP → Prop) (x1 : Int32) (s2 : Int32) (s3 : Int32) (u : SP) : Prop := (wX0_byOne s2 s3 x1 (p_flags u) (fun r42 u41 => (wX3_giveE r42 x1 (ps_flags u u41) (fun u43 => (P u43)))))
def wX3_codesFE_b52  (P : SP → Prop) (x1 : Int32) (u : SP) : Prop := (wX3_e x1 u (fun r39 u38 => (((c_r (p_code u38)) = (1 : Int32) → (wX3_codesFE_b78  P x1 r39 (1 : Int32) u38)) ∧ (¬ (c_r (p_code u38)) = (1 : Int32) → (wX3_codesFE_b78  P x1 r39 (0 : Int32) u38)))))
def wX3_codesFE  (u : SP) (P : SP → Prop) : Prop := (wX1_wide  (p_code u) (fun r2 u1 => (((c_r u1) = (0 : Int32) → (wX3_codesFE_b52  P r2 (ps_code u u1))) ∧ (¬ (c_r u1) = (0 : Int32) → (((c_r u1) = (1 : Int32) → (wX3_codesFE_b52  P r2 (ps_code u u1))) ∧ (¬ (c_r u1) = (1 : Int32) → (((c_r u1) = (2 : Int32) → (wX3_e (1 : Int32) (ps_code u u1) (fun r7 u6 => (wX3_push (r_ip (p_regs u6)) u6 (fun u8 => (wX4_moveTo r7 (p_regs u8) (fun u10 => (P (ps_regs u8 u10))))))))) ∧ (¬ (c_r u1) = (2 : Int32) → (((c_r u1) = (3 : Int32) → (wX3_e (1 : Int32) (ps_code u u1) (fun r14 u13 => (wX3_wordBehindE  u13 (fun r16 u15 => (wX3_callFar r14 r16 u15 (fun u17 => (P u17)))))))) ∧ (¬ (c_r u1) = (3 : Int32) → (((c_r u1) = (4 : Int32) → (wX3_e (1 : Int32) (ps_code u u1) (fun r21 u20 => (wX4_moveTo r21 (p_regs u20) (fun u22 => (P (ps_regs u20 u22))))))) ∧ (¬ (c_r u1) = (4 : Int32) → (((c_r u1) = (5 : Int32) → (wX3_e (1 : Int32) (ps_code u u1) (fun r26 u25 => (wX3_wordBehindE  u25 (fun r28 u27 => (wX3_jumpFar r26 r28 u27 (fun u29 => (P u29)))))))) ∧ (¬ (c_r u1) = (5 : Int32) → (wX1_inRegister  u1 (fun r32 u31 => ((r32 = (0 : Int32) → (wX3_e (1 : Int32) (ps_code u u31) (fun r35 u34 => (wX3_codesFE_b194  P r35 u34)))) ∧ (¬ r32 = (0 : Int32) → (wX3_pushedRegister (c_m u31) (ps_code u u31) (fun r37 u36 => (wX3_codesFE_b194  P r37 u36)))))))))))))))))))))
set_option maxHeartbeats 4000000 in
set_option maxRecDepth 100000 in
theorem kcX3_codesFE (l : Launch) (D : va_G) (cB cI : ClassId) (q0 q1 q2 q3 q4 q5 q6 q7 q8 q9 : Nat) (sz : Nat)  (u : SP) (P : SP → Prop) (hw : wX3_codesFE  u P) : Met l yX3_codesFE wsX3_codesFE ({ frames := 4, cells := 0, slots := 0, locals := 97 } : Room) (va_Pc [.ref q0] (Pcw D (tyA cB cI) (WP cB cI q0 q1 q2 q3 q4 q5 q6 q7 q8 q9 u) sz Tru)) (va_Qv P (fun u t => va_P D vwCl (WP cB cI q0 q1 q2 q3 q4 q5 q6 q7 q8 q9 u) t.heap) (va_A (WP cB cI q0 q1 q2 q3 q4 q5 q6 q7 q8 q9 u) sz)) 0 0 (va_A (WP cB cI q0 q1 q2 q3 q4 q5 q6 q7 q8 q9 u) sz) := by
  refine en_ (cc := cX3_codesFE) (maxL := 3) (ret := none) (own := RX3) (lv := [(0, .ref q0)]) (Qf := fun A => va_Qv P (fun u t => va_P D vwCl (WP cB cI q0 q1 q2 q3 q4 q5 q6 q7 q8 q9 u) t.heap) A) (by decide) rfl rfl (Nat.le_of_ble_eq_true rfl) rfl ?_
  intro p e s m below meth c A ls S hr hlk hname hsz hP hK hD hA hSub hS hE hl
  have hx := S.1
  have hb := S.2.1
  have hown := S.2.2.2.1
  have hts := S.2.2.2.2
  have i_X1 : ∀ w ∈ u_ws RX1 TX1 12, w ∈ wsX3_codesFE := by decide +kernel
  have i_X3 : ∀ w ∈ u_ws RX3 TX3 8, w ∈ wsX3_codesFE := by decide +kernel
  have i_X4 : ∀ w ∈ u_ws RX4 TX4 3, w ∈ wsX3_codesFE := by decide +kernel
  have f_21 := hts (.fieldLink RX3 21 "MachineCore$Processor" "registers" "LMachineCore$Registers;") (by decide +kernel)
  have f_28 := hts (.fieldLink RX3 28 "MachineCore$Processor" "arithmetic" "LMachineCore$Arithmetic;") (by decide +kernel)
  have f_35 := hts (.fieldLink RX3 35 "MachineCore$Processor" "code" "LMachineCore$Code;") (by decide +kernel)
  have f_121 := hts (.fieldLink RX3 121 "MachineCore$Registers" "ip" "I") (by decide +kernel)
  have f_155 := hts (.fieldLink RX3 155 "MachineCore$Code" "m" "I") (by decide +kernel)
  have f_191 := hts (.fieldLink RX3 191 "MachineCore$Code" "r" "I") (by decide +kernel)
  have b194 : ∀ (s1 : Int32) (u : SP) (H : Heap) (locs : List Loc) (ls : Array Slot), va_P D vwCl (WP cB cI q0 q1 q2 q3 q4 q5 q6 q7 q8 q9 u) H → va_D A (WP cB cI q0 q1 q2 q3 q4 q5 q6 q7 q8 q9 u) → va_S A s.heap H locs → lv_has ls 3 [] → wX3_codesFE_b194  P s1 u → W p l e ({ frames := 4, cells := 0, slots := 0, locals := 97 } : Room) s m ([.ref q0] : List Value).toArray below meth c H locs 0 0 (MQ below (va_Qv P (fun u t => va_P D vwCl (WP cB cI q0 q1 q2 q3 q4 q5 q6 q7 q8 q9 u) t.heap) A) ([.ref q0] : List Value).toArray s 0 0 A) (F0 m 194 ls [.int s1, .ref q0]) := by
    intro s1 u H locs ls hP hD hS hl hw
    unfold wX3_codesFE_b194 at hw
    refine cl_Vv (As := [.int s1]) (rest := []) (st := [.int s1, .ref q0]) S hK hA hP hD hS (fr_P u) (kcX3_push l D cB cI q0 q1 q2 q3 q4 q5 q6 q7 q8 q9 H.size s1 u _ hw) (cwV 1 hts gX3_codesFE_X3_push rfl rfl rfl (by decide +kernel) ⟨Nat.le_of_ble_eq_true rfl, Nat.le_of_ble_eq_true rfl⟩) tru_h tru_b 0 rfl rfl rfl rfl rfl hl.1 (Nat.le_of_ble_eq_true rfl) dX3_codesFE_194 ⟨Nat.zero_le _, Nat.zero_le _⟩ (fun u45 H locs hP hD hS hw => ?_)
    replace hP : va_P D vwCl (WP cB cI q0 q1 q2 q3 q4 q5 q6 q7 q8 q9 u45) H := hP
    replace hD : va_D A (WP cB cI q0 q1 q2 q3 q4 q5 q6 q7 q8 q9 u45) := hD
    exact rt_v (wo := (fun v => WP cB cI q0 q1 q2 q3 q4 q5 q6 q7 q8 q9 v)) S hr hlk u45 hP hS hw dX3_codesFE_197
  have b78 : ∀ (x1 : Int32) (s2 : Int32) (s3 : Int32) (u : SP) (H : Heap) (locs : List Loc) (ls : Array Slot), va_P D vwCl (WP cB cI q0 q1 q2 q3 q4 q5 q6 q7 q8 q9 u) H → va_D A (WP cB cI q0 q1 q2 q3 q4 q5 q6 q7 q8 q9 u) → va_S A s.heap H locs → lv_has ls 3 [(1, .int x1)] → wX3_codesFE_b78  P x1 s2 s3 u → W p l e ({ frames := 4, cells := 0, slots := 0, locals := 97 } : Room) s m ([.ref q0] : List Value).toArray below meth c H locs 0 0 (MQ below (va_Qv P (fun u t => va_P D vwCl (WP cB cI q0 q1 q2 q3 q4 q5 q6 q7 q8 q9 u) t.heap) A) ([.ref q0] : List Value).toArray s 0 0 A) (F0 m 78 ls [.int s3, .int s2, .ref q7, .ref q0]) := by
    intro x1 s2 s3 u H locs ls hP hD hS hl hw
    unfold wX3_codesFE_b78 at hw
    refine lv_iload_n hx hb dX3_codesFE_78 rfl (lv_at hl 0 rfl) ?_
    refine cl_Vi (As := [.int s2, .int s3, .int x1]) (rest := [.ref q0]) (st := [.int x1, .int s3, .int s2, .ref q7, .ref q0]) S hK hA hP hD hS (fr_P_A u) (kcX0_byOne l D cB cI q7 H.size s2 s3 x1 (p_flags u) _ hw) (cwV 3 hts gX3_codesFE_X0_byOne rfl rfl rfl (by decide +kernel) ⟨Nat.le_of_ble_eq_true rfl, Nat.le_of_ble_eq_true rfl⟩) tru_h tru_b 7 rfl rfl rfl rfl rfl hl.1 (Nat.le_of_ble_eq_true rfl) dX3_codesFE_79 ⟨Nat.zero_le _, Nat.zero_le _⟩ (fun r42 u41 H locs hP hD hS hw => ?_)
    replace hP : va_P D vwCl (WP cB cI q0 q1 q2 q3 q4 q5 q6 q7 q8 q9 (ps_flags u u41)) H := hP
    replace hD : va_D A (WP cB cI q0 q1 q2 q3 q4 q5 q6 q7 q8 q9 (ps_flags u u41)) := hD
    refine lv_iload_n hx hb dX3_codesFE_82 rfl (lv_at hl 0 rfl) ?_
    refine cl_Vv (As := [.int r42, .int x1]) (rest := []) (st := [.int x1, .int r42, .ref q0]) S hK hA hP hD hS (fr_P (ps_flags u u41)) (kcX3_giveE l D cB cI q0 q1 q2 q3 q4 q5 q6 q7 q8 q9 H.size r42 x1 (ps_flags u u41) _ hw) (cwV 2 hts gX3_codesFE_X3_giveE rfl rfl rfl (by decide +kernel) ⟨Nat.le_of_ble_eq_true rfl, Nat.le_of_ble_eq_true rfl⟩) tru_h tru_b 0 rfl rfl rfl rfl rfl hl.1 (Nat.le_of_ble_eq_true rfl) dX3_codesFE_83 ⟨Nat.zero_le _, Nat.zero_le _⟩ (fun u43 H locs hP hD hS hw => ?_)
    replace hP : va_P D vwCl (WP cB cI q0 q1 q2 q3 q4 q5 q6 q7 q8 q9 u43) H := hP
    replace hD : va_D A (WP cB cI q0 q1 q2 q3 q4 q5 q6 q7 q8 q9 u43) := hD
    refine lv_goto (tgt := 197) hx hb dX3_codesFE_86 (by decide) ?_
    exact rt_v (wo := (fun v => WP cB cI q0 q1 q2 q3 q4 q5 q6 q7 q8 q9 v)) S hr hlk u43 hP hS hw dX3_codesFE_197
  have b52 : ∀ (x1 : Int32) (u : SP) (H : Heap) (locs : List Loc) (ls : Array Slot), va_P D vwCl (WP cB cI q0 q1 q2 q3 q4 q5 q6 q7 q8 q9 u) H → va_D A (WP cB cI q0 q1 q2 q3 q4 q5 q6 q7 q8 q9 u) → va_S A s.heap H locs → lv_has ls 3 [(0, .ref q0), (1, .int x1)] → wX3_codesFE_b52  P x1 u → W p l e ({ frames := 4, cells := 0, slots := 0, locals := 97 } : Room) s m ([.ref q0] : List Value).toArray below meth c H locs 0 0 (MQ below (va_Qv P (fun u t => va_P D vwCl (WP cB cI q0 q1 q2 q3 q4 q5 q6 q7 q8 q9 u) t.heap) A) ([.ref q0] : List Value).toArray s 0 0 A) (F0 m 52 ls []) := by
    intro x1 u H locs ls hP hD hS hl hw
    unfold wX3_codesFE_b52 at hw
    refine lv_aload_n hx hb dX3_codesFE_52 rfl (lv_at hl 0 rfl) ?_
    refine lv_aload_n hx hb dX3_codesFE_53 rfl (lv_at hl 0 rfl) ?_
    refine va_get (D := D) (ci := 3) (v := .ref q7) (C := RX3) (T := TX3) (N := 8) hx hb hts i_X3 hown hK hP 0 rfl rfl 2 (by decide) f_28 (fun _ h9 => h9) rfl dX3_codesFE_54 ?_
    refine lv_aload_n hx hb dX3_codesFE_57 rfl (lv_at hl 0 rfl) ?_
    refine lv_iload_n hx hb dX3_codesFE_58 rfl (lv_at hl 1 rfl) ?_
    refine cl_Vi (As := [.int x1]) (rest := [.ref q7, .ref q0]) (st := [.int x1, .ref q0, .ref q7, .ref q0]) S hK hA hP hD hS (fr_P u) (kcX3_e l D cB cI q0 q1 q2 q3 q4 q5 q6 q7 q8 q9 H.size x1 u _ hw) (cwV 1 hts gX3_codesFE_X3_e rfl rfl rfl (by decide +kernel) ⟨Nat.le_of_ble_eq_true rfl, Nat.le_of_ble_eq_true rfl⟩) tru_h tru_b 0 rfl rfl rfl rfl rfl hl.1 (Nat.le_of_ble_eq_true rfl) dX3_codesFE_59 ⟨Nat.zero_le _, Nat.zero_le _⟩ (fun r39 u38 H locs hP hD hS hw => ?_)
    replace hP : va_P D vwCl (WP cB cI q0 q1 q2 q3 q4 q5 q6 q7 q8 q9 u38) H := hP
    replace hD : va_D A (WP cB cI q0 q1 q2 q3 q4 q5 q6 q7 q8 q9 u38) := hD
    refine lv_aload_n hx hb dX3_codesFE_62 rfl (lv_at hl 0 rfl) ?_
    refine va_get (D := D) (ci := 3) (v := .ref q8) (C := RX3) (T := TX3) (N := 8) hx hb hts i_X3 hown hK hP 0 rfl rfl 3 (by decide) f_35 (fun _ h9 => h9) rfl dX3_codesFE_63 ?_
    refine va_get (D := D) (ci := 1) (v := .int (c_r (p_code u38))) (C := RX1) (T := TX1) (N := 12) hx hb hts i_X1 hown hK hP 8 rfl rfl 5 (by decide) f_191 (fun _ h9 => h9) rfl dX3_codesFE_66 ?_
    refine lv_iconst (v := (1 : Int32)) hx hb dX3_codesFE_69 (by decide) ?_
    refine lv_icmp_ne (tgt := 77) hx hb dX3_codesFE_70 (by decide) (fun c40 => ?_) (fun c40 => ?_)
    · replace hw := hw.2 c40
      refine lv_iconst (v := (0 : Int32)) hx hb dX3_codesFE_77 (by decide) ?_
      exact b78 x1 r39 (0 : Int32) u38 H locs ls hP hD hS (lv_sub hl [1] rfl) hw
    · replace hw := hw.1 c40
      refine lv_iconst (v := (1 : Int32)) hx hb dX3_codesFE_73 (by decide) ?_
      refine lv_goto (tgt := 78) hx hb dX3_codesFE_74 (by decide) ?_
      exact b78 x1 r39 (1 : Int32) u38 H locs ls hP hD hS (lv_sub hl [1] rfl) hw
  unfold wX3_codesFE at hw
  obtain ⟨H, eH⟩ : ∃ H, H = s.heap := ⟨_, rfl⟩
  obtain ⟨locs, eL⟩ : ∃ locs : List Loc, locs = [] := ⟨_, rfl⟩
  replace hP : va_P D vwCl (WP cB cI q0 q1 q2 q3 q4 q5 q6 q7 q8 q9 u) H := by rw [eH]; exact hP
  replace hS : va_S A s.heap H locs := by rw [eH, eL]; exact hS
  suffices hgo : W p l e ({ frames := 4, cells := 0, slots := 0, locals := 97 } : Room) s m ([.ref q0] : List Value).toArray below meth c H locs 0 0 (MQ below (va_Qv P (fun u t => va_P D vwCl (WP cB cI q0 q1 q2 q3 q4 q5 q6 q7 q8 q9 u) t.heap) A) ([.ref q0] : List Value).toArray s 0 0 A) (F0 m 0 ls []) by rw [eH, eL] at hgo; exact hgo
  clear eH eL
  refine lv_aload_n hx hb dX3_codesFE_0 rfl (lv_at hl 0 rfl) ?_
  refine va_get (D := D) (ci := 3) (v := .ref q8) (C := RX3) (T := TX3) (N := 8) hx hb hts i_X3 hown hK hP 0 rfl rfl 3 (by decide) f_35 (fun _ h9 => h9) rfl dX3_codesFE_1 ?_
  refine cl_Vi (As := []) (rest := []) (st := [.ref q8]) S hK hA hP hD hS (fr_P_C u) (kcX1_wide l D cB cI q8 H.size  (p_code u) _ hw) (cwV 0 hts gX3_codesFE_X1_wide rfl rfl rfl (by decide +kernel) ⟨Nat.le_of_ble_eq_true rfl, Nat.le_of_ble_eq_true rfl⟩) tru_h tru_b 8 rfl rfl rfl rfl rfl hl.1 (Nat.le_of_ble_eq_true rfl) dX3_codesFE_4 ⟨Nat.zero_le _, Nat.zero_le _⟩ (fun r2 u1 H locs hP hD hS hw => ?_)
  replace hP : va_P D vwCl (WP cB cI q0 q1 q2 q3 q4 q5 q6 q7 q8 q9 (ps_code u u1)) H := hP
  replace hD : va_D A (WP cB cI q0 q1 q2 q3 q4 q5 q6 q7 q8 q9 (ps_code u u1)) := hD
  refine lv_istore_n (lv' := [(1, .int r2), (0, .ref q0)]) hx hb dX3_codesFE_7 rfl hl (by decide) rfl (fun ls hl => ?_)
  refine lv_aload_n hx hb dX3_codesFE_8 rfl (lv_at hl 1 rfl) ?_
  refine va_get (D := D) (ci := 3) (v := .ref q8) (C := RX3) (T := TX3) (N := 8) hx hb hts i_X3 hown hK hP 0 rfl rfl 3 (by decide) f_35 (fun _ h9 => h9) rfl dX3_codesFE_9 ?_
  refine va_get (D := D) (ci := 1) (v := .int (c_r u1)) (C := RX1) (T := TX1) (N := 12) hx hb hts i_X1 hown hK hP 8 rfl rfl 5 (by decide) f_191 (fun _ h9 => h9) rfl dX3_codesFE_12 ?_
  by_cases c3 : (c_r u1) = (0 : Int32)
  · replace hw := hw.1 c3
    refine lv_tableIn (off := 37) (tgt := 52) hx hb dX3_codesFE_15 (by rw [c3]; decide) (by rw [c3]; decide) (by rw [c3]; rfl) (by decide) ?_
    exact b52 r2 (ps_code u u1) H locs ls hP hD hS (lv_sub hl [1, 0] rfl) hw
  replace hw := hw.2 c3
  by_cases c4 : (c_r u1) = (1 : Int32)
  · replace hw := hw.1 c4
    refine lv_tableIn (off := 37) (tgt := 52) hx hb dX3_codesFE_15 (by rw [c4]; decide) (by rw [c4]; decide) (by rw [c4]; rfl) (by decide) ?_
    exact b52 r2 (ps_code u u1) H locs ls hP hD hS (lv_sub hl [1, 0] rfl) hw
  replace hw := hw.2 c4
  by_cases c5 : (c_r u1) = (2 : Int32)
  · replace hw := hw.1 c5
    refine lv_tableIn (off := 74) (tgt := 89) hx hb dX3_codesFE_15 (by rw [c5]; decide) (by rw [c5]; decide) (by rw [c5]; rfl) (by decide) ?_
    refine lv_aload_n hx hb dX3_codesFE_89 rfl (lv_at hl 1 rfl) ?_
    refine lv_iconst (v := (1 : Int32)) hx hb dX3_codesFE_90 (by decide) ?_
    refine cl_Vi (As := [.int (1 : Int32)]) (rest := []) (st := [.int (1 : Int32), .ref q0]) S hK hA hP hD hS (fr_P (ps_code u u1)) (kcX3_e l D cB cI q0 q1 q2 q3 q4 q5 q6 q7 q8 q9 H.size (1 : Int32) (ps_code u u1) _ hw) (cwV 1 hts gX3_codesFE_X3_e rfl rfl rfl (by decide +kernel) ⟨Nat.le_of_ble_eq_true rfl, Nat.le_of_ble_eq_true rfl⟩) tru_h tru_b 0 rfl rfl rfl rfl rfl hl.1 (Nat.le_of_ble_eq_true rfl) dX3_codesFE_91 ⟨Nat.zero_le _, Nat.zero_le _⟩ (fun r7 u6 H locs hP hD hS hw => ?_)
    replace hP : va_P D vwCl (WP cB cI q0 q1 q2 q3 q4 q5 q6 q7 q8 q9 u6) H := hP
    replace hD : va_D A (WP cB cI q0 q1 q2 q3 q4 q5 q6 q7 q8 q9 u6) := hD
    refine lv_istore_n (lv' := [(2, .int r7), (1, .int r2), (0, .ref q0)]) hx hb dX3_codesFE_94 rfl hl (by decide) rfl (fun ls hl => ?_)
    refine lv_aload_n hx hb dX3_codesFE_95 rfl (lv_at hl 2 rfl) ?_
    refine lv_aload_n hx hb dX3_codesFE_96 rfl (lv_at hl 2 rfl) ?_
    refine va_get (D := D) (ci := 3) (v := .ref q4) (C := RX3) (T := TX3) (N := 8) hx hb hts i_X3 hown hK hP 0 rfl rfl 1 (by decide) f_21 (fun _ h9 => h9) rfl dX3_codesFE_97 ?_
    refine va_get (D := D) (ci := 4) (v := .int (r_ip (p_regs u6))) (C := RX4) (T := TX4) (N := 3) hx hb hts i_X4 hown hK hP 4 rfl rfl 2 (by decide) f_121 (fun _ h9 => h9) rfl dX3_codesFE_100 ?_
    refine cl_Vv (As := [.int (r_ip (p_regs u6))]) (rest := []) (st := [.int (r_ip (p_regs u6)), .ref q0]) S hK hA hP hD hS (fr_P u6) (kcX3_push l D cB cI q0 q1 q2 q3 q4 q5 q6 q7 q8 q9 H.size (r_ip (p_regs u6)) u6 _ hw) (cwV 1 hts gX3_codesFE_X3_push rfl rfl rfl (by decide +kernel) ⟨Nat.le_of_ble_eq_true rfl, Nat.le_of_ble_eq_true rfl⟩) tru_h tru_b 0 rfl rfl rfl rfl rfl hl.1 (Nat.le_of_ble_eq_true rfl) dX3_codesFE_103 ⟨Nat.zero_le _, Nat.zero_le _⟩ (fun u8 H locs hP hD hS hw => ?_)
    replace hP : va_P D vwCl (WP cB cI q0 q1 q2 q3 q4 q5 q6 q7 q8 q9 u8) H := hP
    replace hD : va_D A (WP cB cI q0 q1 q2 q3 q4 q5 q6 q7 q8 q9 u8) := hD
    refine lv_aload_n hx hb dX3_codesFE_106 rfl (lv_at hl 2 rfl) ?_
    refine va_get (D := D) (ci := 3) (v := .ref q4) (C := RX3) (T := TX3) (N := 8) hx hb hts i_X3 hown hK hP 0 rfl rfl 1 (by decide) f_21 (fun _ h9 => h9) rfl dX3_codesFE_107 ?_
    refine lv_iload_n hx hb dX3_codesFE_110 rfl (lv_at hl 0 rfl) ?_
    refine cl_Vv (As := [.int r7]) (rest := []) (st := [.int r7, .ref q4]) S hK hA hP hD hS (fr_P_R u8) (kcX4_moveTo l D cB cI q4 q5 q6 H.size r7 (p_regs u8) _ hw) (cwV 1 hts gX3_codesFE_X4_moveTo rfl rfl rfl (by decide +kernel) ⟨Nat.le_of_ble_eq_true rfl, Nat.le_of_ble_eq_true rfl⟩) tru_h tru_b 4 rfl rfl rfl rfl rfl hl.1 (Nat.le_of_ble_eq_true rfl) dX3_codesFE_111 ⟨Nat.zero_le _, Nat.zero_le _⟩ (fun u10 H locs hP hD hS hw => ?_)
    replace hP : va_P D vwCl (WP cB cI q0 q1 q2 q3 q4 q5 q6 q7 q8 q9 (ps_regs u8 u10)) H := hP
    replace hD : va_D A (WP cB cI q0 q1 q2 q3 q4 q5 q6 q7 q8 q9 (ps_regs u8 u10)) := hD
    refine lv_goto (tgt := 197) hx hb dX3_codesFE_114 (by decide) ?_
    exact rt_v (wo := (fun v => WP cB cI q0 q1 q2 q3 q4 q5 q6 q7 q8 q9 v)) S hr hlk (ps_regs u8 u10) hP hS hw dX3_codesFE_197
  replace hw := hw.2 c5
  by_cases c12 : (c_r u1) = (3 : Int32)
  · replace hw := hw.1 c12
    refine lv_tableIn (off := 102) (tgt := 117) hx hb dX3_codesFE_15 (by rw [c12]; decide) (by rw [c12]; decide) (by rw [c12]; rfl) (by decide) ?_
    refine lv_aload_n hx hb dX3_codesFE_117 rfl (lv_at hl 1 rfl) ?_
    refine lv_aload_n hx hb dX3_codesFE_118 rfl (lv_at hl 1 rfl) ?_
    refine lv_iconst (v := (1 : Int32)) hx hb dX3_codesFE_119 (by decide) ?_
    refine cl_Vi (As := [.int (1 : Int32)]) (rest := [.ref q0]) (st := [.int (1 : Int32), .ref q0, .ref q0]) S hK hA hP hD hS (fr_P (ps_code u u1)) (kcX3_e l D cB cI q0 q1 q2 q3 q4 q5 q6 q7 q8 q9 H.size (1 : Int32) (ps_code u u1) _ hw) (cwV 1 hts gX3_codesFE_X3_e rfl rfl rfl (by decide +kernel) ⟨Nat.le_of_ble_eq_true rfl, Nat.le_of_ble_eq_true rfl⟩) tru_h tru_b 0 rfl rfl rfl rfl rfl hl.1 (Nat.le_of_ble_eq_true rfl) dX3_codesFE_120 ⟨Nat.zero_le _, Nat.zero_le _⟩ (fun r14 u13 H locs hP hD hS hw => ?_)
    replace hP : va_P D vwCl (WP cB cI q0 q1 q2 q3 q4 q5 q6 q7 q8 q9 u13) H := hP
    replace hD : va_D A (WP cB cI q0 q1 q2 q3 q4 q5 q6 q7 q8 q9 u13) := hD
    refine lv_aload_n hx hb dX3_codesFE_123 rfl (lv_at hl 1 rfl) ?_
    refine cl_Vi (As := []) (rest := [.int r14, .ref q0]) (st := [.ref q0, .int r14, .ref q0]) S hK hA hP hD hS (fr_P u13) (kcX3_wordBehindE l D cB cI q0 q1 q2 q3 q4 q5 q6 q7 q8 q9 H.size  u13 _ hw) (cwV 0 hts gX3_codesFE_X3_wordBehindE rfl rfl rfl (by decide +kernel) ⟨Nat.le_of_ble_eq_true rfl, Nat.le_of_ble_eq_true rfl⟩) tru_h tru_b 0 rfl rfl rfl rfl rfl hl.1 (Nat.le_of_ble_eq_true rfl) dX3_codesFE_124 ⟨Nat.zero_le _, Nat.zero_le _⟩ (fun r16 u15 H locs hP hD hS hw => ?_)
    replace hP : va_P D vwCl (WP cB cI q0 q1 q2 q3 q4 q5 q6 q7 q8 q9 u15) H := hP
    replace hD : va_D A (WP cB cI q0 q1 q2 q3 q4 q5 q6 q7 q8 q9 u15) := hD
    refine cl_Vv (As := [.int r14, .int r16]) (rest := []) (st := [.int r16, .int r14, .ref q0]) S hK hA hP hD hS (fr_P u15) (kcX3_callFar l D cB cI q0 q1 q2 q3 q4 q5 q6 q7 q8 q9 H.size r14 r16 u15 _ hw) (cwV 2 hts gX3_codesFE_X3_callFar rfl rfl rfl (by decide +kernel) ⟨Nat.le_of_ble_eq_true rfl, Nat.le_of_ble_eq_true rfl⟩) tru_h tru_b 0 rfl rfl rfl rfl rfl hl.1 (Nat.le_of_ble_eq_true rfl) dX3_codesFE_127 ⟨Nat.zero_le _, Nat.zero_le _⟩ (fun u17 H locs hP hD hS hw => ?_)
    replace hP : va_P D vwCl (WP cB cI q0 q1 q2 q3 q4 q5 q6 q7 q8 q9 u17) H := hP
    replace hD : va_D A (WP cB cI q0 q1 q2 q3 q4 q5 q6 q7 q8 q9 u17) := hD
    refine lv_goto (tgt := 197) hx hb dX3_codesFE_130 (by decide) ?_
    exact rt_v (wo := (fun v => WP cB cI q0 q1 q2 q3 q4 q5 q6 q7 q8 q9 v)) S hr hlk u17 hP hS hw dX3_codesFE_197
  replace hw := hw.2 c12
  by_cases c19 : (c_r u1) = (4 : Int32)
  · replace hw := hw.1 c19
    refine lv_tableIn (off := 118) (tgt := 133) hx hb dX3_codesFE_15 (by rw [c19]; decide) (by rw [c19]; decide) (by rw [c19]; rfl) (by decide) ?_
    refine lv_aload_n hx hb dX3_codesFE_133 rfl (lv_at hl 1 rfl) ?_
    refine va_get (D := D) (ci := 3) (v := .ref q4) (C := RX3) (T := TX3) (N := 8) hx hb hts i_X3 hown hK hP 0 rfl rfl 1 (by decide) f_21 (fun _ h9 => h9) rfl dX3_codesFE_134 ?_
    refine lv_aload_n hx hb dX3_codesFE_137 rfl (lv_at hl 1 rfl) ?_
    refine lv_iconst (v := (1 : Int32)) hx hb dX3_codesFE_138 (by decide) ?_
    refine cl_Vi (As := [.int (1 : Int32)]) (rest := [.ref q4]) (st := [.int (1 : Int32), .ref q0, .ref q4]) S hK hA hP hD hS (fr_P (ps_code u u1)) (kcX3_e l D cB cI q0 q1 q2 q3 q4 q5 q6 q7 q8 q9 H.size (1 : Int32) (ps_code u u1) _ hw) (cwV 1 hts gX3_codesFE_X3_e rfl rfl rfl (by decide +kernel) ⟨Nat.le_of_ble_eq_true rfl, Nat.le_of_ble_eq_true rfl⟩) tru_h tru_b 0 rfl rfl rfl rfl rfl hl.1 (Nat.le_of_ble_eq_true rfl) dX3_codesFE_139 ⟨Nat.zero_le _, Nat.zero_le _⟩ (fun r21 u20 H locs hP hD hS hw => ?_)
    replace hP : va_P D vwCl (WP cB cI q0 q1 q2 q3 q4 q5 q6 q7 q8 q9 u20) H := hP
    replace hD : va_D A (WP cB cI q0 q1 q2 q3 q4 q5 q6 q7 q8 q9 u20) := hD
    refine cl_Vv (As := [.int r21]) (rest := []) (st := [.int r21, .ref q4]) S hK hA hP hD hS (fr_P_R u20) (kcX4_moveTo l D cB cI q4 q5 q6 H.size r21 (p_regs u20) _ hw) (cwV 1 hts gX3_codesFE_X4_moveTo rfl rfl rfl (by decide +kernel) ⟨Nat.le_of_ble_eq_true rfl, Nat.le_of_ble_eq_true rfl⟩) tru_h tru_b 4 rfl rfl rfl rfl rfl hl.1 (Nat.le_of_ble_eq_true rfl) dX3_codesFE_142 ⟨Nat.zero_le _, Nat.zero_le _⟩ (fun u22 H locs hP hD hS hw => ?_)
    replace hP : va_P D vwCl (WP cB cI q0 q1 q2 q3 q4 q5 q6 q7 q8 q9 (ps_regs u20 u22)) H := hP
    replace hD : va_D A (WP cB cI q0 q1 q2 q3 q4 q5 q6 q7 q8 q9 (ps_regs u20 u22)) := hD
    refine lv_goto (tgt := 197) hx hb dX3_codesFE_145 (by decide) ?_
    exact rt_v (wo := (fun v => WP cB cI q0 q1 q2 q3 q4 q5 q6 q7 q8 q9 v)) S hr hlk (ps_regs u20 u22) hP hS hw dX3_codesFE_197
  replace hw := hw.2 c19
  by_cases c24 : (c_r u1) = (5 : Int32)
  · replace hw := hw.1 c24
    refine lv_tableIn (off := 133) (tgt := 148) hx hb dX3_codesFE_15 (by rw [c24]; decide) (by rw [c24]; decide) (by rw [c24]; rfl) (by decide) ?_
    refine lv_aload_n hx hb dX3_codesFE_148 rfl (lv_at hl 1 rfl) ?_
    refine lv_aload_n hx hb dX3_codesFE_149 rfl (lv_at hl 1 rfl) ?_
    refine lv_iconst (v := (1 : Int32)) hx hb dX3_codesFE_150 (by decide) ?_
    refine cl_Vi (As := [.int (1 : Int32)]) (rest := [.ref q0]) (st := [.int (1 : Int32), .ref q0, .ref q0]) S hK hA hP hD hS (fr_P (ps_code u u1)) (kcX3_e l D cB cI q0 q1 q2 q3 q4 q5 q6 q7 q8 q9 H.size (1 : Int32) (ps_code u u1) _ hw) (cwV 1 hts gX3_codesFE_X3_e rfl rfl rfl (by decide +kernel) ⟨Nat.le_of_ble_eq_true rfl, Nat.le_of_ble_eq_true rfl⟩) tru_h tru_b 0 rfl rfl rfl rfl rfl hl.1 (Nat.le_of_ble_eq_true rfl) dX3_codesFE_151 ⟨Nat.zero_le _, Nat.zero_le _⟩ (fun r26 u25 H locs hP hD hS hw => ?_)
    replace hP : va_P D vwCl (WP cB cI q0 q1 q2 q3 q4 q5 q6 q7 q8 q9 u25) H := hP
    replace hD : va_D A (WP cB cI q0 q1 q2 q3 q4 q5 q6 q7 q8 q9 u25) := hD
    refine lv_aload_n hx hb dX3_codesFE_154 rfl (lv_at hl 1 rfl) ?_
    refine cl_Vi (As := []) (rest := [.int r26, .ref q0]) (st := [.ref q0, .int r26, .ref q0]) S hK hA hP hD hS (fr_P u25) (kcX3_wordBehindE l D cB cI q0 q1 q2 q3 q4 q5 q6 q7 q8 q9 H.size  u25 _ hw) (cwV 0 hts gX3_codesFE_X3_wordBehindE rfl rfl rfl (by decide +kernel) ⟨Nat.le_of_ble_eq_true rfl, Nat.le_of_ble_eq_true rfl⟩) tru_h tru_b 0 rfl rfl rfl rfl rfl hl.1 (Nat.le_of_ble_eq_true rfl) dX3_codesFE_155 ⟨Nat.zero_le _, Nat.zero_le _⟩ (fun r28 u27 H locs hP hD hS hw => ?_)
    replace hP : va_P D vwCl (WP cB cI q0 q1 q2 q3 q4 q5 q6 q7 q8 q9 u27) H := hP
    replace hD : va_D A (WP cB cI q0 q1 q2 q3 q4 q5 q6 q7 q8 q9 u27) := hD
    refine cl_Vv (As := [.int r26, .int r28]) (rest := []) (st := [.int r28, .int r26, .ref q0]) S hK hA hP hD hS (fr_P u27) (kcX3_jumpFar l D cB cI q0 q1 q2 q3 q4 q5 q6 q7 q8 q9 H.size r26 r28 u27 _ hw) (cwV 2 hts gX3_codesFE_X3_jumpFar rfl rfl rfl (by decide +kernel) ⟨Nat.le_of_ble_eq_true rfl, Nat.le_of_ble_eq_true rfl⟩) tru_h tru_b 0 rfl rfl rfl rfl rfl hl.1 (Nat.le_of_ble_eq_true rfl) dX3_codesFE_158 ⟨Nat.zero_le _, Nat.zero_le _⟩ (fun u29 H locs hP hD hS hw => ?_)
    replace hP : va_P D vwCl (WP cB cI q0 q1 q2 q3 q4 q5 q6 q7 q8 q9 u29) H := hP
    replace hD : va_D A (WP cB cI q0 q1 q2 q3 q4 q5 q6 q7 q8 q9 u29) := hD
    refine lv_goto (tgt := 197) hx hb dX3_codesFE_161 (by decide) ?_
    exact rt_v (wo := (fun v => WP cB cI q0 q1 q2 q3 q4 q5 q6 q7 q8 q9 v)) S hr hlk u29 hP hS hw dX3_codesFE_197
  replace hw := hw.2 c24
  refine lv_tableOut (tgt := 164) hx hb dX3_codesFE_15 (by have e_c3 : ¬ ((c_r u1) : Int32).toInt = 0 := sw_ne c3; have e_c4 : ¬ ((c_r u1) : Int32).toInt = 1 := sw_ne c4; have e_c5 : ¬ ((c_r u1) : Int32).toInt = 2 := sw_ne c5; have e_c12 : ¬ ((c_r u1) : Int32).toInt = 3 := sw_ne c12; have e_c19 : ¬ ((c_r u1) : Int32).toInt = 4 := sw_ne c19; have e_c24 : ¬ ((c_r u1) : Int32).toInt = 5 := sw_ne c24; omega) (by decide) ?_
  refine lv_aload_n hx hb dX3_codesFE_164 rfl (lv_at hl 1 rfl) ?_
  refine lv_aload_n hx hb dX3_codesFE_165 rfl (lv_at hl 1 rfl) ?_
  refine va_get (D := D) (ci := 3) (v := .ref q8) (C := RX3) (T := TX3) (N := 8) hx hb hts i_X3 hown hK hP 0 rfl rfl 3 (by decide) f_35 (fun _ h9 => h9) rfl dX3_codesFE_166 ?_
  refine cl_Vi (As := []) (rest := [.ref q0]) (st := [.ref q8, .ref q0]) S hK hA hP hD hS (fr_P_C (ps_code u u1)) (kcX1_inRegister l D cB cI q8 H.size  u1 _ hw) (cwV 0 hts gX3_codesFE_X1_inRegister rfl rfl rfl (by decide +kernel) ⟨Nat.le_of_ble_eq_true rfl, Nat.le_of_ble_eq_true rfl⟩) tru_h tru_b 8 rfl rfl rfl rfl rfl hl.1 (Nat.le_of_ble_eq_true rfl) dX3_codesFE_169 ⟨Nat.zero_le _, Nat.zero_le _⟩ (fun r32 u31 H locs hP hD hS hw => ?_)
  replace hP : va_P D vwCl (WP cB cI q0 q1 q2 q3 q4 q5 q6 q7 q8 q9 (ps_code u u31)) H := hP
  replace hD : va_D A (WP cB cI q0 q1 q2 q3 q4 q5 q6 q7 q8 q9 (ps_code u u31)) := hD
  refine lv_if_eq (tgt := 189) hx hb dX3_codesFE_172 (by decide) (fun c33 => ?_) (fun c33 => ?_)
  · replace hw := hw.1 c33
    refine lv_aload_n hx hb dX3_codesFE_189 rfl (lv_at hl 1 rfl) ?_
    refine lv_iconst (v := (1 : Int32)) hx hb dX3_codesFE_190 (by decide) ?_
    refine cl_Vi (As := [.int (1 : Int32)]) (rest := [.ref q0]) (st := [.int (1 : Int32), .ref q0, .ref q0]) S hK hA hP hD hS (fr_P (ps_code u u31)) (kcX3_e l D cB cI q0 q1 q2 q3 q4 q5 q6 q7 q8 q9 H.size (1 : Int32) (ps_code u u31) _ hw) (cwV 1 hts gX3_codesFE_X3_e rfl rfl rfl (by decide +kernel) ⟨Nat.le_of_ble_eq_true rfl, Nat.le_of_ble_eq_true rfl⟩) tru_h tru_b 0 rfl rfl rfl rfl rfl hl.1 (Nat.le_of_ble_eq_true rfl) dX3_codesFE_191 ⟨Nat.zero_le _, Nat.zero_le _⟩ (fun r35 u34 H locs hP hD hS hw => ?_)
    replace hP : va_P D vwCl (WP cB cI q0 q1 q2 q3 q4 q5 q6 q7 q8 q9 u34) H := hP
    replace hD : va_D A (WP cB cI q0 q1 q2 q3 q4 q5 q6 q7 q8 q9 u34) := hD
    exact b194 r35 u34 H locs ls hP hD hS (lv_sub hl [] rfl) hw
  · replace hw := hw.2 c33
    refine lv_aload_n hx hb dX3_codesFE_175 rfl (lv_at hl 1 rfl) ?_
    refine lv_aload_n hx hb dX3_codesFE_176 rfl (lv_at hl 1 rfl) ?_
    refine va_get (D := D) (ci := 3) (v := .ref q8) (C := RX3) (T := TX3) (N := 8) hx hb hts i_X3 hown hK hP 0 rfl rfl 3 (by decide) f_35 (fun _ h9 => h9) rfl dX3_codesFE_177 ?_
    refine va_get (D := D) (ci := 1) (v := .int (c_m u31)) (C := RX1) (T := TX1) (N := 12) hx hb hts i_X1 hown hK hP 8 rfl rfl 6 (by decide) f_155 (fun _ h9 => h9) rfl dX3_codesFE_180 ?_
    refine cl_Vi (As := [.int (c_m u31)]) (rest := [.ref q0]) (st := [.int (c_m u31), .ref q0, .ref q0]) S hK hA hP hD hS (fr_P (ps_code u u31)) (kcX3_pushedRegister l D cB cI q0 q1 q2 q3 q4 q5 q6 q7 q8 q9 H.size (c_m u31) (ps_code u u31) _ hw) (cwV 1 hts gX3_codesFE_X3_pushedRegister rfl rfl rfl (by decide +kernel) ⟨Nat.le_of_ble_eq_true rfl, Nat.le_of_ble_eq_true rfl⟩) tru_h tru_b 0 rfl rfl rfl rfl rfl hl.1 (Nat.le_of_ble_eq_true rfl) dX3_codesFE_183 ⟨Nat.zero_le _, Nat.zero_le _⟩ (fun r37 u36 H locs hP hD hS hw => ?_)
    replace hP : va_P D vwCl (WP cB cI q0 q1 q2 q3 q4 q5 q6 q7 q8 q9 u36) H := hP
    replace hD : va_D A (WP cB cI q0 q1 q2 q3 q4 q5 q6 q7 q8 q9 u36) := hD
    refine lv_goto (tgt := 194) hx hb dX3_codesFE_186 (by decide) ?_
    exact b194 r37 u36 H locs ls hP hD hS (lv_sub hl [] rfl) hw
-- X3_lastCodes
def wX3_lastCodes_b136  (P : SP → Prop) (x1 : Int32) (u : SP) : Prop := (wX0_mark (1024 : Int32) x1 (p_flags u) (fun u26 => (P (ps_flags u u26))))
def wX3_lastCodes_b122  (P : SP → Prop) (x1 : Int32) (u : SP) : Prop := (wX0_mark (512 : Int32) x1 (p_flags u) (fun u24 => (P (ps_flags u u24))))
def wX3_lastCodes_b110  (P : SP → Prop) (x1 : Int32) (u : SP) : Prop := (wX0_mark (1 : Int32) x1 (p_flags u) (fun u22 => (P (ps_flags u u22))))
def wX3_lastCodes_b103  (P : SP → Prop)  (u : SP) : Prop := (wX3_codesF6  u (fun u20 => (P u20)))
def wX3_lastCodes_b97  (P : SP → Prop) (s2 : Int32) (u : SP) : Prop := (wX0_mark (1 : Int32) s2 (p_flags u) (fun u18 => (P (ps_flags u u18))))
def wX3_lastCodes  (u : SP) (P : SP → Prop) : Prop := (wX1_wide  (p_code u) (fun r2 u1 => (((c_number u1) = (244 : Int32) → (P (ps_code (ps_halted u (1 : Int32)) u1))) ∧ (¬ (c_number u1) = (244 : Int32) → (((c_number u1) = (245 : Int32) → (wX0_has (1 : Int32) (p_flags u) (fun r6 u5 => ((r6 = (0 : Int32) → (wX3_lastCodes_b97  P (1 : Int32) (ps_code (ps_flags u u5) u1))) ∧ (¬ r6 = (0 : Int32) → (wX3_lastCodes_b97  P (0 : Int32) (ps_code (ps_flags u u5) u1))))))) ∧ (¬ (c_number u1) = (245 : Int32) → (((c_number u1) = (246 : Int32) → (wX3_lastCodes_b103  P (ps_code u u1))) ∧ (¬ (c_number u1) = (246 : Int32) → (((c_number u1) = (247 : Int32) → (wX3_lastCodes_b103  P (ps_code u u1))) ∧ (¬ (c_number u1) = (247 : Int32) → (((c_number u1) = (248 : Int32) → (wX3_lastCodes_b110  P r2 (ps_code u u1))) ∧ (¬ (c_number u1) = (248 : Int32) → (((c_number u1) = (249 : Int32) → (wX3_lastCodes_b110  P r2 (ps_code u u1))) ∧ (¬ (c_number u1) = (249 : Int32) → (((c_number u1) = (250 : Int32) → (wX3_lastCodes_b122  P r2 (ps_code u u1))) ∧ (¬ (c_number u1) = (250 : Int32) → (((c_number u1) = (251 : Int32) → (wX3_lastCodes_b122  P r2 (ps_code u u1))) ∧ (¬ (c_number u1) = (251 : Int32) → (((c_number u1) = (252 : Int32) → (wX3_lastCodes_b136  P r2 (ps_code u u1))) ∧ (¬ (c_number u1) = (252 : Int32) → (((c_number u1) = (253 : Int32) → (wX3_lastCodes_b136  P r2 (ps_code u u1))) ∧ (¬ (c_number u1) = (253 : Int32) → (wX3_codesFE  (ps_code u u1) (fun u16 => (P u16)))))))))))))))))))))))))
set_option maxHeartbeats 4000000 in
set_option maxRecDepth 100000 in
theorem kcX3_lastCodes (l : Launch) (D : va_G) (cB cI : ClassId) (q0 q1 q2 q3 q4 q5 q6 q7 q8 q9 : Nat) (sz : Nat)  (u : SP) (P : SP → Prop) (hw : wX3_lastCodes  u P) : Met l yX3_lastCodes wsX3_lastCodes ({ frames := 5, cells := 0, slots := 0, locals := 119 } : Room) (va_Pc [.ref q0] (Pcw D (tyA cB cI) (WP cB cI q0 q1 q2 q3 q4 q5 q6 q7 q8 q9 u) sz Tru)) (va_Qv P (fun u t => va_P D vwCl (WP cB cI q0 q1 q2 q3 q4 q5 q6 q7 q8 q9 u) t.heap) (va_A (WP cB cI q0 q1 q2 q3 q4 q5 q6 q7 q8 q9 u) sz)) 0 0 (va_A (WP cB cI q0 q1 q2 q3 q4 q5 q6 q7 q8 q9 u) sz) := by
  refine en_ (cc := cX3_lastCodes) (maxL := 2) (ret := none) (own := RX3) (lv := [(0, .ref q0)]) (Qf := fun A => va_Qv P (fun u t => va_P D vwCl (WP cB cI q0 q1 q2 q3 q4 q5 q6 q7 q8 q9 u) t.heap) A) (by decide) rfl rfl (Nat.le_of_ble_eq_true rfl) rfl ?_
  intro p e s m below meth c A ls S hr hlk hname hsz hP hK hD hA hSub hS hE hl
  have hx := S.1
  have hb := S.2.1
  have hown := S.2.2.2.1
  have hts := S.2.2.2.2
  have i_X1 : ∀ w ∈ u_ws RX1 TX1 12, w ∈ wsX3_lastCodes := by decide +kernel
  have i_X3 : ∀ w ∈ u_ws RX3 TX3 8, w ∈ wsX3_lastCodes := by decide +kernel
  have f_28 := hts (.fieldLink RX3 28 "MachineCore$Processor" "arithmetic" "LMachineCore$Arithmetic;") (by decide +kernel)
  have f_35 := hts (.fieldLink RX3 35 "MachineCore$Processor" "code" "LMachineCore$Code;") (by decide +kernel)
  have f_47 := hts (.fieldLink RX3 47 "MachineCore$Code" "number" "I") (by decide +kernel)
  have f_294 := hts (.fieldLink RX3 294 "MachineCore$Processor" "halted" "Z") (by decide +kernel)
  have b136 : ∀ (x1 : Int32) (u : SP) (H : Heap) (locs : List Loc) (ls : Array Slot), va_P D vwCl (WP cB cI q0 q1 q2 q3 q4 q5 q6 q7 q8 q9 u) H → va_D A (WP cB cI q0 q1 q2 q3 q4 q5 q6 q7 q8 q9 u) → va_S A s.heap H locs → lv_has ls 2 [(0, .ref q0), (1, .int x1)] → wX3_lastCodes_b136  P x1 u → W p l e ({ frames := 5, cells := 0, slots := 0, locals := 119 } : Room) s m ([.ref q0] : List Value).toArray below meth c H locs 0 0 (MQ below (va_Qv P (fun u t => va_P D vwCl (WP cB cI q0 q1 q2 q3 q4 q5 q6 q7 q8 q9 u) t.heap) A) ([.ref q0] : List Value).toArray s 0 0 A) (F0 m 136 ls []) := by
    intro x1 u H locs ls hP hD hS hl hw
    unfold wX3_lastCodes_b136 at hw
    refine lv_aload_n hx hb dX3_lastCodes_136 rfl (lv_at hl 0 rfl) ?_
    refine va_get (D := D) (ci := 3) (v := .ref q7) (C := RX3) (T := TX3) (N := 8) hx hb hts i_X3 hown hK hP 0 rfl rfl 2 (by decide) f_28 (fun _ h9 => h9) rfl dX3_lastCodes_137 ?_
    refine lv_sipush (v := (1024 : Int32)) hx hb dX3_lastCodes_140 (by decide) ?_
    refine lv_iload_n hx hb dX3_lastCodes_143 rfl (lv_at hl 1 rfl) ?_
    refine cl_Vv (As := [.int (1024 : Int32), .int x1]) (rest := []) (st := [.int x1, .int (1024 : Int32), .ref q7]) S hK hA hP hD hS (fr_P_A u) (kcX0_mark l D cB cI q7 H.size (1024 : Int32) x1 (p_flags u) _ hw) (cwV 2 hts gX3_lastCodes_X0_mark rfl rfl rfl (by decide +kernel) ⟨Nat.le_of_ble_eq_true rfl, Nat.le_of_ble_eq_true rfl⟩) tru_h tru_b 7 rfl rfl rfl rfl rfl hl.1 (Nat.le_of_ble_eq_true rfl) dX3_lastCodes_144 ⟨Nat.zero_le _, Nat.zero_le _⟩ (fun u26 H locs hP hD hS hw => ?_)
    replace hP : va_P D vwCl (WP cB cI q0 q1 q2 q3 q4 q5 q6 q7 q8 q9 (ps_flags u u26)) H := hP
    replace hD : va_D A (WP cB cI q0 q1 q2 q3 q4 q5 q6 q7 q8 q9 (ps_flags u u26)) := hD
    refine lv_goto (tgt := 154) hx hb dX3_lastCodes_147 (by decide) ?_
    exact rt_v (wo := (fun v => WP cB cI q0 q1 q2 q3 q4 q5 q6 q7 q8 q9 v)) S hr hlk (ps_flags u u26) hP hS hw dX3_lastCodes_154
  have b122 : ∀ (x1 : Int32) (u : SP) (H : Heap) (locs : List Loc) (ls : Array Slot), va_P D vwCl (WP cB cI q0 q1 q2 q3 q4 q5 q6 q7 q8 q9 u) H → va_D A (WP cB cI q0 q1 q2 q3 q4 q5 q6 q7 q8 q9 u) → va_S A s.heap H locs → lv_has ls 2 [(0, .ref q0), (1, .int x1)] → wX3_lastCodes_b122  P x1 u → W p l e ({ frames := 5, cells := 0, slots := 0, locals := 119 } : Room) s m ([.ref q0] : List Value).toArray below meth c H locs 0 0 (MQ below (va_Qv P (fun u t => va_P D vwCl (WP cB cI q0 q1 q2 q3 q4 q5 q6 q7 q8 q9 u) t.heap) A) ([.ref q0] : List Value).toArray s 0 0 A) (F0 m 122 ls []) := by
    intro x1 u H locs ls hP hD hS hl hw
    unfold wX3_lastCodes_b122 at hw
    refine lv_aload_n hx hb dX3_lastCodes_122 rfl (lv_at hl 0 rfl) ?_
    refine va_get (D := D) (ci := 3) (v := .ref q7) (C := RX3) (T := TX3) (N := 8) hx hb hts i_X3 hown hK hP 0 rfl rfl 2 (by decide) f_28 (fun _ h9 => h9) rfl dX3_lastCodes_123 ?_
    refine lv_sipush (v := (512 : Int32)) hx hb dX3_lastCodes_126 (by decide) ?_
    refine lv_iload_n hx hb dX3_lastCodes_129 rfl (lv_at hl 1 rfl) ?_
    refine cl_Vv (As := [.int (512 : Int32), .int x1]) (rest := []) (st := [.int x1, .int (512 : Int32), .ref q7]) S hK hA hP hD hS (fr_P_A u) (kcX0_mark l D cB cI q7 H.size (512 : Int32) x1 (p_flags u) _ hw) (cwV 2 hts gX3_lastCodes_X0_mark rfl rfl rfl (by decide +kernel) ⟨Nat.le_of_ble_eq_true rfl, Nat.le_of_ble_eq_true rfl⟩) tru_h tru_b 7 rfl rfl rfl rfl rfl hl.1 (Nat.le_of_ble_eq_true rfl) dX3_lastCodes_130 ⟨Nat.zero_le _, Nat.zero_le _⟩ (fun u24 H locs hP hD hS hw => ?_)
    replace hP : va_P D vwCl (WP cB cI q0 q1 q2 q3 q4 q5 q6 q7 q8 q9 (ps_flags u u24)) H := hP
    replace hD : va_D A (WP cB cI q0 q1 q2 q3 q4 q5 q6 q7 q8 q9 (ps_flags u u24)) := hD
    refine lv_goto (tgt := 154) hx hb dX3_lastCodes_133 (by decide) ?_
    exact rt_v (wo := (fun v => WP cB cI q0 q1 q2 q3 q4 q5 q6 q7 q8 q9 v)) S hr hlk (ps_flags u u24) hP hS hw dX3_lastCodes_154
  have b110 : ∀ (x1 : Int32) (u : SP) (H : Heap) (locs : List Loc) (ls : Array Slot), va_P D vwCl (WP cB cI q0 q1 q2 q3 q4 q5 q6 q7 q8 q9 u) H → va_D A (WP cB cI q0 q1 q2 q3 q4 q5 q6 q7 q8 q9 u) → va_S A s.heap H locs → lv_has ls 2 [(0, .ref q0), (1, .int x1)] → wX3_lastCodes_b110  P x1 u → W p l e ({ frames := 5, cells := 0, slots := 0, locals := 119 } : Room) s m ([.ref q0] : List Value).toArray below meth c H locs 0 0 (MQ below (va_Qv P (fun u t => va_P D vwCl (WP cB cI q0 q1 q2 q3 q4 q5 q6 q7 q8 q9 u) t.heap) A) ([.ref q0] : List Value).toArray s 0 0 A) (F0 m 110 ls []) := by
    intro x1 u H locs ls hP hD hS hl hw
    unfold wX3_lastCodes_b110 at hw
    refine lv_aload_n hx hb dX3_lastCodes_110 rfl (lv_at hl 0 rfl) ?_
    refine va_get (D := D) (ci := 3) (v := .ref q7) (C := RX3) (T := TX3) (N := 8) hx hb hts i_X3 hown hK hP 0 rfl rfl 2 (by decide) f_28 (fun _ h9 => h9) rfl dX3_lastCodes_111 ?_
    refine lv_iconst (v := (1 : Int32)) hx hb dX3_lastCodes_114 (by decide) ?_
    refine lv_iload_n hx hb dX3_lastCodes_115 rfl (lv_at hl 1 rfl) ?_
    refine cl_Vv (As := [.int (1 : Int32), .int x1]) (rest := []) (st := [.int x1, .int (1 : Int32), .ref q7]) S hK hA hP hD hS (fr_P_A u) (kcX0_mark l D cB cI q7 H.size (1 : Int32) x1 (p_flags u) _ hw) (cwV 2 hts gX3_lastCodes_X0_mark rfl rfl rfl (by decide +kernel) ⟨Nat.le_of_ble_eq_true rfl, Nat.le_of_ble_eq_true rfl⟩) tru_h tru_b 7 rfl rfl rfl rfl rfl hl.1 (Nat.le_of_ble_eq_true rfl) dX3_lastCodes_116 ⟨Nat.zero_le _, Nat.zero_le _⟩ (fun u22 H locs hP hD hS hw => ?_)
    replace hP : va_P D vwCl (WP cB cI q0 q1 q2 q3 q4 q5 q6 q7 q8 q9 (ps_flags u u22)) H := hP
    replace hD : va_D A (WP cB cI q0 q1 q2 q3 q4 q5 q6 q7 q8 q9 (ps_flags u u22)) := hD
    refine lv_goto (tgt := 154) hx hb dX3_lastCodes_119 (by decide) ?_
    exact rt_v (wo := (fun v => WP cB cI q0 q1 q2 q3 q4 q5 q6 q7 q8 q9 v)) S hr hlk (ps_flags u u22) hP hS hw dX3_lastCodes_154
  have b103 : ∀  (u : SP) (H : Heap) (locs : List Loc) (ls : Array Slot), va_P D vwCl (WP cB cI q0 q1 q2 q3 q4 q5 q6 q7 q8 q9 u) H → va_D A (WP cB cI q0 q1 q2 q3 q4 q5 q6 q7 q8 q9 u) → va_S A s.heap H locs → lv_has ls 2 [(0, .ref q0)] → wX3_lastCodes_b103  P u → W p l e ({ frames := 5, cells := 0, slots := 0, locals := 119 } : Room) s m ([.ref q0] : List Value).toArray below meth c H locs 0 0 (MQ below (va_Qv P (fun u t => va_P D vwCl (WP cB cI q0 q1 q2 q3 q4 q5 q6 q7 q8 q9 u) t.heap) A) ([.ref q0] : List Value).toArray s 0 0 A) (F0 m 103 ls []) := by
    intro u H locs ls hP hD hS hl hw
    unfold wX3_lastCodes_b103 at hw
    refine lv_aload_n hx hb dX3_lastCodes_103 rfl (lv_at hl 0 rfl) ?_
    refine cl_Vv (As := []) (rest := []) (st := [.ref q0]) S hK hA hP hD hS (fr_P u) (kcX3_codesF6 l D cB cI q0 q1 q2 q3 q4 q5 q6 q7 q8 q9 H.size  u _ hw) (cwV 0 hts gX3_lastCodes_X3_codesF6 rfl rfl rfl (by decide +kernel) ⟨Nat.le_of_ble_eq_true rfl, Nat.le_of_ble_eq_true rfl⟩) tru_h tru_b 0 rfl rfl rfl rfl rfl hl.1 (Nat.le_of_ble_eq_true rfl) dX3_lastCodes_104 ⟨Nat.zero_le _, Nat.zero_le _⟩ (fun u20 H locs hP hD hS hw => ?_)
    replace hP : va_P D vwCl (WP cB cI q0 q1 q2 q3 q4 q5 q6 q7 q8 q9 u20) H := hP
    replace hD : va_D A (WP cB cI q0 q1 q2 q3 q4 q5 q6 q7 q8 q9 u20) := hD
    refine lv_goto (tgt := 154) hx hb dX3_lastCodes_107 (by decide) ?_
    exact rt_v (wo := (fun v => WP cB cI q0 q1 q2 q3 q4 q5 q6 q7 q8 q9 v)) S hr hlk u20 hP hS hw dX3_lastCodes_154
  have b97 : ∀ (s2 : Int32) (u : SP) (H : Heap) (locs : List Loc) (ls : Array Slot), va_P D vwCl (WP cB cI q0 q1 q2 q3 q4 q5 q6 q7 q8 q9 u) H → va_D A (WP cB cI q0 q1 q2 q3 q4 q5 q6 q7 q8 q9 u) → va_S A s.heap H locs → lv_has ls 2 [] → wX3_lastCodes_b97  P s2 u → W p l e ({ frames := 5, cells := 0, slots := 0, locals := 119 } : Room) s m ([.ref q0] : List Value).toArray below meth c H locs 0 0 (MQ below (va_Qv P (fun u t => va_P D vwCl (WP cB cI q0 q1 q2 q3 q4 q5 q6 q7 q8 q9 u) t.heap) A) ([.ref q0] : List Value).toArray s 0 0 A) (F0 m 97 ls [.int s2, .int (1 : Int32), .ref q7]) := by
    intro s2 u H locs ls hP hD hS hl hw
    unfold wX3_lastCodes_b97 at hw
    refine cl_Vv (As := [.int (1 : Int32), .int s2]) (rest := []) (st := [.int s2, .int (1 : Int32), .ref q7]) S hK hA hP hD hS (fr_P_A u) (kcX0_mark l D cB cI q7 H.size (1 : Int32) s2 (p_flags u) _ hw) (cwV 2 hts gX3_lastCodes_X0_mark rfl rfl rfl (by decide +kernel) ⟨Nat.le_of_ble_eq_true rfl, Nat.le_of_ble_eq_true rfl⟩) tru_h tru_b 7 rfl rfl rfl rfl rfl hl.1 (Nat.le_of_ble_eq_true rfl) dX3_lastCodes_97 ⟨Nat.zero_le _, Nat.zero_le _⟩ (fun u18 H locs hP hD hS hw => ?_)
    replace hP : va_P D vwCl (WP cB cI q0 q1 q2 q3 q4 q5 q6 q7 q8 q9 (ps_flags u u18)) H := hP
    replace hD : va_D A (WP cB cI q0 q1 q2 q3 q4 q5 q6 q7 q8 q9 (ps_flags u u18)) := hD
    refine lv_goto (tgt := 154) hx hb dX3_lastCodes_100 (by decide) ?_
    exact rt_v (wo := (fun v => WP cB cI q0 q1 q2 q3 q4 q5 q6 q7 q8 q9 v)) S hr hlk (ps_flags u u18) hP hS hw dX3_lastCodes_154
  unfold wX3_lastCodes at hw
  obtain ⟨H, eH⟩ : ∃ H, H = s.heap := ⟨_, rfl⟩
  obtain ⟨locs, eL⟩ : ∃ locs : List Loc, locs = [] := ⟨_, rfl⟩
  replace hP : va_P D vwCl (WP cB cI q0 q1 q2 q3 q4 q5 q6 q7 q8 q9 u) H := by rw [eH]; exact hP
  replace hS : va_S A s.heap H locs := by rw [eH, eL]; exact hS
  suffices hgo : W p l e ({ frames := 5, cells := 0, slots := 0, locals := 119 } : Room) s m ([.ref q0] : List Value).toArray below meth c H locs 0 0 (MQ below (va_Qv P (fun u t => va_P D vwCl (WP cB cI q0 q1 q2 q3 q4 q5 q6 q7 q8 q9 u) t.heap) A) ([.ref q0] : List Value).toArray s 0 0 A) (F0 m 0 ls []) by rw [eH, eL] at hgo; exact hgo
  clear eH eL
  refine lv_aload_n hx hb dX3_lastCodes_0 rfl (lv_at hl 0 rfl) ?_
  refine va_get (D := D) (ci := 3) (v := .ref q8) (C := RX3) (T := TX3) (N := 8) hx hb hts i_X3 hown hK hP 0 rfl rfl 3 (by decide) f_35 (fun _ h9 => h9) rfl dX3_lastCodes_1 ?_
  refine cl_Vi (As := []) (rest := []) (st := [.ref q8]) S hK hA hP hD hS (fr_P_C u) (kcX1_wide l D cB cI q8 H.size  (p_code u) _ hw) (cwV 0 hts gX3_lastCodes_X1_wide rfl rfl rfl (by decide +kernel) ⟨Nat.le_of_ble_eq_true rfl, Nat.le_of_ble_eq_true rfl⟩) tru_h tru_b 8 rfl rfl rfl rfl rfl hl.1 (Nat.le_of_ble_eq_true rfl) dX3_lastCodes_4 ⟨Nat.zero_le _, Nat.zero_le _⟩ (fun r2 u1 H locs hP hD hS hw => ?_)
  replace hP : va_P D vwCl (WP cB cI q0 q1 q2 q3 q4 q5 q6 q7 q8 q9 (ps_code u u1)) H := hP
  replace hD : va_D A (WP cB cI q0 q1 q2 q3 q4 q5 q6 q7 q8 q9 (ps_code u u1)) := hD
  refine lv_istore_n (lv' := [(1, .int r2), (0, .ref q0)]) hx hb dX3_lastCodes_7 rfl hl (by decide) rfl (fun ls hl => ?_)
  refine lv_aload_n hx hb dX3_lastCodes_8 rfl (lv_at hl 1 rfl) ?_
  refine va_get (D := D) (ci := 3) (v := .ref q8) (C := RX3) (T := TX3) (N := 8) hx hb hts i_X3 hown hK hP 0 rfl rfl 3 (by decide) f_35 (fun _ h9 => h9) rfl dX3_lastCodes_9 ?_
  refine va_get (D := D) (ci := 1) (v := .int (c_number u1)) (C := RX1) (T := TX1) (N := 12) hx hb hts i_X1 hown hK hP 8 rfl rfl 1 (by decide) f_47 (fun _ h9 => h9) rfl dX3_lastCodes_12 ?_
  by_cases c3 : (c_number u1) = (244 : Int32)
  · replace hw := hw.1 c3
    refine lv_tableIn (off := 53) (tgt := 68) hx hb dX3_lastCodes_15 (by rw [c3]; decide) (by rw [c3]; decide) (by rw [c3]; rfl) (by decide) ?_
    refine lv_aload_n hx hb dX3_lastCodes_68 rfl (lv_at hl 1 rfl) ?_
    refine lv_iconst (v := (1 : Int32)) hx hb dX3_lastCodes_69 (by decide) ?_
    refine va_put (D := D) (ci := 3) (v := .int (1 : Int32)) (ty := .boolean) (C := RX3) (T := TX3) (N := 8) hx hb hts i_X3 tyX3 tyX3_ok nmX3 hown hK hP hD hS 0 rfl rfl 5 (by decide) f_294 (fun _ h9 => h9) rfl (by decide +kernel) rfl rfl (Nat.le_of_ble_eq_true rfl) dX3_lastCodes_70 (fun H locs hP hD hS => ?_)
    replace hP : va_P D vwCl (WP cB cI q0 q1 q2 q3 q4 q5 q6 q7 q8 q9 (ps_code (ps_halted u (1 : Int32)) u1)) H := hP
    replace hD : va_D A (WP cB cI q0 q1 q2 q3 q4 q5 q6 q7 q8 q9 (ps_code (ps_halted u (1 : Int32)) u1)) := hD
    refine lv_goto (tgt := 154) hx hb dX3_lastCodes_73 (by decide) ?_
    exact rt_v (wo := (fun v => WP cB cI q0 q1 q2 q3 q4 q5 q6 q7 q8 q9 v)) S hr hlk (ps_code (ps_halted u (1 : Int32)) u1) hP hS hw dX3_lastCodes_154
  replace hw := hw.2 c3
  by_cases c4 : (c_number u1) = (245 : Int32)
  · replace hw := hw.1 c4
    refine lv_tableIn (off := 61) (tgt := 76) hx hb dX3_lastCodes_15 (by rw [c4]; decide) (by rw [c4]; decide) (by rw [c4]; rfl) (by decide) ?_
    refine lv_aload_n hx hb dX3_lastCodes_76 rfl (lv_at hl 1 rfl) ?_
    refine va_get (D := D) (ci := 3) (v := .ref q7) (C := RX3) (T := TX3) (N := 8) hx hb hts i_X3 hown hK hP 0 rfl rfl 2 (by decide) f_28 (fun _ h9 => h9) rfl dX3_lastCodes_77 ?_
    refine lv_iconst (v := (1 : Int32)) hx hb dX3_lastCodes_80 (by decide) ?_
    refine lv_aload_n hx hb dX3_lastCodes_81 rfl (lv_at hl 1 rfl) ?_
    refine va_get (D := D) (ci := 3) (v := .ref q7) (C := RX3) (T := TX3) (N := 8) hx hb hts i_X3 hown hK hP 0 rfl rfl 2 (by decide) f_28 (fun _ h9 => h9) rfl dX3_lastCodes_82 ?_
    refine lv_iconst (v := (1 : Int32)) hx hb dX3_lastCodes_85 (by decide) ?_
    refine cl_Vi (As := [.int (1 : Int32)]) (rest := [.int (1 : Int32), .ref q7]) (st := [.int (1 : Int32), .ref q7, .int (1 : Int32), .ref q7]) S hK hA hP hD hS (fr_P_A (ps_code u u1)) (kcX0_has l D cB cI q7 H.size (1 : Int32) (p_flags u) _ hw) (cwV 1 hts gX3_lastCodes_X0_has rfl rfl rfl (by decide +kernel) ⟨Nat.le_of_ble_eq_true rfl, Nat.le_of_ble_eq_true rfl⟩) tru_h tru_b 7 rfl rfl rfl rfl rfl hl.1 (Nat.le_of_ble_eq_true rfl) dX3_lastCodes_86 ⟨Nat.zero_le _, Nat.zero_le _⟩ (fun r6 u5 H locs hP hD hS hw => ?_)
    replace hP : va_P D vwCl (WP cB cI q0 q1 q2 q3 q4 q5 q6 q7 q8 q9 (ps_code (ps_flags u u5) u1)) H := hP
    replace hD : va_D A (WP cB cI q0 q1 q2 q3 q4 q5 q6 q7 q8 q9 (ps_code (ps_flags u u5) u1)) := hD
    refine lv_if_ne (tgt := 96) hx hb dX3_lastCodes_89 (by decide) (fun c7 => ?_) (fun c7 => ?_)
    · replace hw := hw.2 c7
      refine lv_iconst (v := (0 : Int32)) hx hb dX3_lastCodes_96 (by decide) ?_
      exact b97 (0 : Int32) (ps_code (ps_flags u u5) u1) H locs ls hP hD hS (lv_sub hl [] rfl) hw
    · replace hw := hw.1 c7
      refine lv_iconst (v := (1 : Int32)) hx hb dX3_lastCodes_92 (by decide) ?_
      refine lv_goto (tgt := 97) hx hb dX3_lastCodes_93 (by decide) ?_
      exact b97 (1 : Int32) (ps_code (ps_flags u u5) u1) H locs ls hP hD hS (lv_sub hl [] rfl) hw
  replace hw := hw.2 c4
  by_cases c8 : (c_number u1) = (246 : Int32)
  · replace hw := hw.1 c8
    refine lv_tableIn (off := 88) (tgt := 103) hx hb dX3_lastCodes_15 (by rw [c8]; decide) (by rw [c8]; decide) (by rw [c8]; rfl) (by decide) ?_
    exact b103 (ps_code u u1) H locs ls hP hD hS (lv_sub hl [1] rfl) hw
  replace hw := hw.2 c8
  by_cases c9 : (c_number u1) = (247 : Int32)
  · replace hw := hw.1 c9
    refine lv_tableIn (off := 88) (tgt := 103) hx hb dX3_lastCodes_15 (by rw [c9]; decide) (by rw [c9]; decide) (by rw [c9]; rfl) (by decide) ?_
    exact b103 (ps_code u u1) H locs ls hP hD hS (lv_sub hl [1] rfl) hw
  replace hw := hw.2 c9
  by_cases c10 : (c_number u1) = (248 : Int32)
  · replace hw := hw.1 c10
    refine lv_tableIn (off := 95) (tgt := 110) hx hb dX3_lastCodes_15 (by rw [c10]; decide) (by rw [c10]; decide) (by rw [c10]; rfl) (by decide) ?_
    exact b110 r2 (ps_code u u1) H locs ls hP hD hS (lv_sub hl [1, 0] rfl) hw
  replace hw := hw.2 c10
  by_cases c11 : (c_number u1) = (249 : Int32)
  · replace hw := hw.1 c11
    refine lv_tableIn (off := 95) (tgt := 110) hx hb dX3_lastCodes_15 (by rw [c11]; decide) (by rw [c11]; decide) (by rw [c11]; rfl) (by decide) ?_
    exact b110 r2 (ps_code u u1) H locs ls hP hD hS (lv_sub hl [1, 0] rfl) hw
  replace hw := hw.2 c11
  by_cases c12 : (c_number u1) = (250 : Int32)
  · replace hw := hw.1 c12
    refine lv_tableIn (off := 107) (tgt := 122) hx hb dX3_lastCodes_15 (by rw [c12]; decide) (by rw [c12]; decide) (by rw [c12]; rfl) (by decide) ?_
    exact b122 r2 (ps_code u u1) H locs ls hP hD hS (lv_sub hl [1, 0] rfl) hw
  replace hw := hw.2 c12
  by_cases c13 : (c_number u1) = (251 : Int32)
  · replace hw := hw.1 c13
    refine lv_tableIn (off := 107) (tgt := 122) hx hb dX3_lastCodes_15 (by rw [c13]; decide) (by rw [c13]; decide) (by rw [c13]; rfl) (by decide) ?_
    exact b122 r2 (ps_code u u1) H locs ls hP hD hS (lv_sub hl [1, 0] rfl) hw
  replace hw := hw.2 c13
  by_cases c14 : (c_number u1) = (252 : Int32)
  · replace hw := hw.1 c14
    refine lv_tableIn (off := 121) (tgt := 136) hx hb dX3_lastCodes_15 (by rw [c14]; decide) (by rw [c14]; decide) (by rw [c14]; rfl) (by decide) ?_
    exact b136 r2 (ps_code u u1) H locs ls hP hD hS (lv_sub hl [1, 0] rfl) hw
  replace hw := hw.2 c14
  by_cases c15 : (c_number u1) = (253 : Int32)
  · replace hw := hw.1 c15
    refine lv_tableIn (off := 121) (tgt := 136) hx hb dX3_lastCodes_15 (by rw [c15]; decide) (by rw [c15]; decide) (by rw [c15]; rfl) (by decide) ?_
    exact b136 r2 (ps_code u u1) H locs ls hP hD hS (lv_sub hl [1, 0] rfl) hw
  replace hw := hw.2 c15
  refine lv_tableOut (tgt := 150) hx hb dX3_lastCodes_15 (by have e_c3 : ¬ ((c_number u1) : Int32).toInt = 244 := sw_ne c3; have e_c4 : ¬ ((c_number u1) : Int32).toInt = 245 := sw_ne c4; have e_c8 : ¬ ((c_number u1) : Int32).toInt = 246 := sw_ne c8; have e_c9 : ¬ ((c_number u1) : Int32).toInt = 247 := sw_ne c9; have e_c10 : ¬ ((c_number u1) : Int32).toInt = 248 := sw_ne c10; have e_c11 : ¬ ((c_number u1) : Int32).toInt = 249 := sw_ne c11; have e_c12 : ¬ ((c_number u1) : Int32).toInt = 250 := sw_ne c12; have e_c13 : ¬ ((c_number u1) : Int32).toInt = 251 := sw_ne c13; have e_c14 : ¬ ((c_number u1) : Int32).toInt = 252 := sw_ne c14; have e_c15 : ¬ ((c_number u1) : Int32).toInt = 253 := sw_ne c15; omega) (by decide) ?_
  refine lv_aload_n hx hb dX3_lastCodes_150 rfl (lv_at hl 1 rfl) ?_
  refine cl_Vv (As := []) (rest := []) (st := [.ref q0]) S hK hA hP hD hS (fr_P (ps_code u u1)) (kcX3_codesFE l D cB cI q0 q1 q2 q3 q4 q5 q6 q7 q8 q9 H.size  (ps_code u u1) _ hw) (cwV 0 hts gX3_lastCodes_X3_codesFE rfl rfl rfl (by decide +kernel) ⟨Nat.le_of_ble_eq_true rfl, Nat.le_of_ble_eq_true rfl⟩) tru_h tru_b 0 rfl rfl rfl rfl rfl hl.1 (Nat.le_of_ble_eq_true rfl) dX3_lastCodes_151 ⟨Nat.zero_le _, Nat.zero_le _⟩ (fun u16 H locs hP hD hS hw => ?_)
  replace hP : va_P D vwCl (WP cB cI q0 q1 q2 q3 q4 q5 q6 q7 q8 q9 u16) H := hP
  replace hD : va_D A (WP cB cI q0 q1 q2 q3 q4 q5 q6 q7 q8 q9 u16) := hD
  exact rt_v (wo := (fun v => WP cB cI q0 q1 q2 q3 q4 q5 q6 q7 q8 q9 v)) S hr hlk u16 hP hS hw dX3_lastCodes_154
-- X3_loop
def wX3_loop_b88  (P : SP → Prop) (s1 : Int32) (u : SP) : Prop := (wX3_jumpIf s1 u (fun u14 => (P u14)))
def wX3_loop_b87  (P : SP → Prop)  (u : SP) : Prop := (wX3_loop_b88  P (0 : Int32) u)
def wX3_loop_b66  (P : SP → Prop) (s0 : Int32) (u : SP) : Prop := (wX4_word (1 : Int32) (p_regs u) (fun r11 u10 => ((r11 = (0 : Int32) → (wX3_loop_b87  P (ps_regs u u10))) ∧ (¬ r11 = (0 : Int32) → ((s0 = (0 : Int32) → (wX3_loop_b87  P (ps_regs u u10))) ∧ (¬ s0 = (0 : Int32) → (wX3_loop_b88  P (1 : Int32) (ps_regs u u10))))))))
def wX3_loop_b61  (P : SP → Prop)  (u : SP) : Prop := (wX3_loop_b66  P (1 : Int32) u)
def wX3_loop_b58  (P : SP → Prop) (s0 : Int32) (s1 : Int32) (u : SP) : Prop := ((s0 = s1 → (wX3_loop_b61  P u)) ∧ (¬ s0 = s1 → (wX3_loop_b66  P (0 : Int32) u)))
def wX3_loop  (u : SP) (P : SP → Prop) : Prop := (wX4_word (1 : Int32) (p_regs u) (fun r2 u1 => (wX4_setWord (1 : Int32) (r2 - (1 : Int32)) u1 (fun u3 => (((c_number (p_code u)) = (226 : Int32) → (wX3_loop_b61  P (ps_regs u u3))) ∧ (¬ (c_number (p_code u)) = (226 : Int32) → (wX0_has (64 : Int32) (p_flags u) (fun r7 u6 => (((c_number (p_code u)) = (225 : Int32) → (wX3_loop_b58  P r7 (1 : Int32) (ps_flags (ps_regs u u3) u6))) ∧ (¬ (c_number (p_code u)) = (225 : Int32) → (wX3_loop_b58  P r7 (0 : Int32) (ps_flags (ps_regs u u3) u6))))))))))))
set_option maxHeartbeats 4000000 in
set_option maxRecDepth 100000 in
theorem kcX3_loop (l : Launch) (D : va_G) (cB cI : ClassId) (q0 q1 q2 q3 q4 q5 q6 q7 q8 q9 : Nat) (sz : Nat)  (u : SP) (P : SP → Prop) (hw : wX3_loop  u P) : Met l yX3_loop wsX3_loop ({ frames := 3, cells := 0, slots := 0, locals := 63 } : Room) (va_Pc [.ref q0] (Pcw D (tyA cB cI) (WP cB cI q0 q1 q2 q3 q4 q5 q6 q7 q8 q9 u) sz Tru)) (va_Qv P (fun u t => va_P D vwCl (WP cB cI q0 q1 q2 q3 q4 q5 q6 q7 q8 q9 u) t.heap) (va_A (WP cB cI q0 q1 q2 q3 q4 q5 q6 q7 q8 q9 u) sz)) 0 0 (va_A (WP cB cI q0 q1 q2 q3 q4 q5 q6 q7 q8 q9 u) sz) := by
  refine en_ (cc := cX3_loop) (maxL := 2) (ret := none) (own := RX3) (lv := [(0, .ref q0)]) (Qf := fun A => va_Qv P (fun u t => va_P D vwCl (WP cB cI q0 q1 q2 q3 q4 q5 q6 q7 q8 q9 u) t.heap) A) (by decide) rfl rfl (Nat.le_of_ble_eq_true rfl) rfl ?_
  intro p e s m below meth c A ls S hr hlk hname hsz hP hK hD hA hSub hS hE hl
  have hx := S.1
  have hb := S.2.1
  have hown := S.2.2.2.1
  have hts := S.2.2.2.2
  have i_X1 : ∀ w ∈ u_ws RX1 TX1 12, w ∈ wsX3_loop := by decide +kernel
  have i_X3 : ∀ w ∈ u_ws RX3 TX3 8, w ∈ wsX3_loop := by decide +kernel
  have f_21 := hts (.fieldLink RX3 21 "MachineCore$Processor" "registers" "LMachineCore$Registers;") (by decide +kernel)
  have f_28 := hts (.fieldLink RX3 28 "MachineCore$Processor" "arithmetic" "LMachineCore$Arithmetic;") (by decide +kernel)
  have f_35 := hts (.fieldLink RX3 35 "MachineCore$Processor" "code" "LMachineCore$Code;") (by decide +kernel)
  have f_47 := hts (.fieldLink RX3 47 "MachineCore$Code" "number" "I") (by decide +kernel)
  have b88 : ∀ (s1 : Int32) (u : SP) (H : Heap) (locs : List Loc) (ls : Array Slot), va_P D vwCl (WP cB cI q0 q1 q2 q3 q4 q5 q6 q7 q8 q9 u) H → va_D A (WP cB cI q0 q1 q2 q3 q4 q5 q6 q7 q8 q9 u) → va_S A s.heap H locs → lv_has ls 2 [] → wX3_loop_b88  P s1 u → W p l e ({ frames := 3, cells := 0, slots := 0, locals := 63 } : Room) s m ([.ref q0] : List Value).toArray below meth c H locs 0 0 (MQ below (va_Qv P (fun u t => va_P D vwCl (WP cB cI q0 q1 q2 q3 q4 q5 q6 q7 q8 q9 u) t.heap) A) ([.ref q0] : List Value).toArray s 0 0 A) (F0 m 88 ls [.int s1, .ref q0]) := by
    intro s1 u H locs ls hP hD hS hl hw
    unfold wX3_loop_b88 at hw
    refine cl_Vv (As := [.int s1]) (rest := []) (st := [.int s1, .ref q0]) S hK hA hP hD hS (fr_P u) (kcX3_jumpIf l D cB cI q0 q1 q2 q3 q4 q5 q6 q7 q8 q9 H.size s1 u _ hw) (cwV 1 hts gX3_loop_X3_jumpIf rfl rfl rfl (by decide +kernel) ⟨Nat.le_of_ble_eq_true rfl, Nat.le_of_ble_eq_true rfl⟩) tru_h tru_b 0 rfl rfl rfl rfl rfl hl.1 (Nat.le_of_ble_eq_true rfl) dX3_loop_88 ⟨Nat.zero_le _, Nat.zero_le _⟩ (fun u14 H locs hP hD hS hw => ?_)
    replace hP : va_P D vwCl (WP cB cI q0 q1 q2 q3 q4 q5 q6 q7 q8 q9 u14) H := hP
    replace hD : va_D A (WP cB cI q0 q1 q2 q3 q4 q5 q6 q7 q8 q9 u14) := hD
    exact rt_v (wo := (fun v => WP cB cI q0 q1 q2 q3 q4 q5 q6 q7 q8 q9 v)) S hr hlk u14 hP hS hw dX3_loop_91
  have b87 : ∀  (u : SP) (H : Heap) (locs : List Loc) (ls : Array Slot), va_P D vwCl (WP cB cI q0 q1 q2 q3 q4 q5 q6 q7 q8 q9 u) H → va_D A (WP cB cI q0 q1 q2 q3 q4 q5 q6 q7 q8 q9 u) → va_S A s.heap H locs → lv_has ls 2 [] → wX3_loop_b87  P u → W p l e ({ frames := 3, cells := 0, slots := 0, locals := 63 } : Room) s m ([.ref q0] : List Value).toArray below meth c H locs 0 0 (MQ below (va_Qv P (fun u t => va_P D vwCl (WP cB cI q0 q1 q2 q3 q4 q5 q6 q7 q8 q9 u) t.heap) A) ([.ref q0] : List Value).toArray s 0 0 A) (F0 m 87 ls [.ref q0]) := by
    intro u H locs ls hP hD hS hl hw
    unfold wX3_loop_b87 at hw
    refine lv_iconst (v := (0 : Int32)) hx hb dX3_loop_87 (by decide) ?_
    exact b88 (0 : Int32) u H locs ls hP hD hS (lv_sub hl [] rfl) hw
  have b66 : ∀ (s0 : Int32) (u : SP) (H : Heap) (locs : List Loc) (ls : Array Slot), va_P D vwCl (WP cB cI q0 q1 q2 q3 q4 q5 q6 q7 q8 q9 u) H → va_D A (WP cB cI q0 q1 q2 q3 q4 q5 q6 q7 q8 q9 u) → va_S A s.heap H locs → lv_has ls 2 [(0, .ref q0)] → wX3_loop_b66  P s0 u → W p l e ({ frames := 3, cells := 0, slots := 0, locals := 63 } : Room) s m ([.ref q0] : List Value).toArray below meth c H locs 0 0 (MQ below (va_Qv P (fun u t => va_P D vwCl (WP cB cI q0 q1 q2 q3 q4 q5 q6 q7 q8 q9 u) t.heap) A) ([.ref q0] : List Value).toArray s 0 0 A) (F0 m 66 ls [.int s0]) := by
    intro s0 u H locs ls hP hD hS hl hw
    unfold wX3_loop_b66 at hw
    refine lv_istore_n (lv' := [(1, .int s0), (0, .ref q0)]) hx hb dX3_loop_66 rfl hl (by decide) rfl (fun ls hl => ?_)
    refine lv_aload_n hx hb dX3_loop_67 rfl (lv_at hl 1 rfl) ?_
    refine lv_aload_n hx hb dX3_loop_68 rfl (lv_at hl 1 rfl) ?_
    refine va_get (D := D) (ci := 3) (v := .ref q4) (C := RX3) (T := TX3) (N := 8) hx hb hts i_X3 hown hK hP 0 rfl rfl 1 (by decide) f_21 (fun _ h9 => h9) rfl dX3_loop_69 ?_
    refine lv_iconst (v := (1 : Int32)) hx hb dX3_loop_72 (by decide) ?_
    refine cl_Vi (As := [.int (1 : Int32)]) (rest := [.ref q0]) (st := [.int (1 : Int32), .ref q4, .ref q0]) S hK hA hP hD hS (fr_P_R u) (kcX4_word l D cB cI q4 q5 q6 H.size (1 : Int32) (p_regs u) _ hw) (cwV 1 hts gX3_loop_X4_word rfl rfl rfl (by decide +kernel) ⟨Nat.le_of_ble_eq_true rfl, Nat.le_of_ble_eq_true rfl⟩) tru_h tru_b 4 rfl rfl rfl rfl rfl hl.1 (Nat.le_of_ble_eq_true rfl) dX3_loop_73 ⟨Nat.zero_le _, Nat.zero_le _⟩ (fun r11 u10 H locs hP hD hS hw => ?_)
    replace hP : va_P D vwCl (WP cB cI q0 q1 q2 q3 q4 q5 q6 q7 q8 q9 (ps_regs u u10)) H := hP
    replace hD : va_D A (WP cB cI q0 q1 q2 q3 q4 q5 q6 q7 q8 q9 (ps_regs u u10)) := hD
    refine lv_if_eq (tgt := 87) hx hb dX3_loop_76 (by decide) (fun c12 => ?_) (fun c12 => ?_)
    · replace hw := hw.1 c12
      exact b87 (ps_regs u u10) H locs ls hP hD hS (lv_sub hl [] rfl) hw
    · replace hw := hw.2 c12
      refine lv_iload_n hx hb dX3_loop_79 rfl (lv_at hl 0 rfl) ?_
      refine lv_if_eq (tgt := 87) hx hb dX3_loop_80 (by decide) (fun c13 => ?_) (fun c13 => ?_)
      · replace hw := hw.1 c13
        exact b87 (ps_regs u u10) H locs ls hP hD hS (lv_sub hl [] rfl) hw
      · replace hw := hw.2 c13
        refine lv_iconst (v := (1 : Int32)) hx hb dX3_loop_83 (by decide) ?_
        refine lv_goto (tgt := 88) hx hb dX3_loop_84 (by decide) ?_
        exact b88 (1 : Int32) (ps_regs u u10) H locs ls hP hD hS (lv_sub hl [] rfl) hw
  have b61 : ∀  (u : SP) (H : Heap) (locs : List Loc) (ls : Array Slot), va_P D vwCl (WP cB cI q0 q1 q2 q3 q4 q5 q6 q7 q8 q9 u) H → va_D A (WP cB cI q0 q1 q2 q3 q4 q5 q6 q7 q8 q9 u) → va_S A s.heap H locs → lv_has ls 2 [(0, .ref q0)] → wX3_loop_b61  P u → W p l e ({ frames := 3, cells := 0, slots := 0, locals := 63 } : Room) s m ([.ref q0] : List Value).toArray below meth c H locs 0 0 (MQ below (va_Qv P (fun u t => va_P D vwCl (WP cB cI q0 q1 q2 q3 q4 q5 q6 q7 q8 q9 u) t.heap) A) ([.ref q0] : List Value).toArray s 0 0 A) (F0 m 61 ls []) := by
    intro u H locs ls hP hD hS hl hw
    unfold wX3_loop_b61 at hw
    refine lv_iconst (v := (1 : Int32)) hx hb dX3_loop_61 (by decide) ?_
    refine lv_goto (tgt := 66) hx hb dX3_loop_62 (by decide) ?_
    exact b66 (1 : Int32) u H locs ls hP hD hS (lv_sub hl [0] rfl) hw
  have b58 : ∀ (s0 : Int32) (s1 : Int32) (u : SP) (H : Heap) (locs : List Loc) (ls : Array Slot), va_P D vwCl (WP cB cI q0 q1 q2 q3 q4 q5 q6 q7 q8 q9 u) H → va_D A (WP cB cI q0 q1 q2 q3 q4 q5 q6 q7 q8 q9 u) → va_S A s.heap H locs → lv_has ls 2 [(0, .ref q0)] → wX3_loop_b58  P s0 s1 u → W p l e ({ frames := 3, cells := 0, slots := 0, locals := 63 } : Room) s m ([.ref q0] : List Value).toArray below meth c H locs 0 0 (MQ below (va_Qv P (fun u t => va_P D vwCl (WP cB cI q0 q1 q2 q3 q4 q5 q6 q7 q8 q9 u) t.heap) A) ([.ref q0] : List Value).toArray s 0 0 A) (F0 m 58 ls [.int s1, .int s0]) := by
    intro s0 s1 u H locs ls hP hD hS hl hw
    unfold wX3_loop_b58 at hw
    refine lv_icmp_ne (tgt := 65) hx hb dX3_loop_58 (by decide) (fun c9 => ?_) (fun c9 => ?_)
    · replace hw := hw.2 c9
      refine lv_iconst (v := (0 : Int32)) hx hb dX3_loop_65 (by decide) ?_
      exact b66 (0 : Int32) u H locs ls hP hD hS (lv_sub hl [0] rfl) hw
    · replace hw := hw.1 c9
      exact b61 u H locs ls hP hD hS (lv_sub hl [0] rfl) hw
  unfold wX3_loop at hw
  obtain ⟨H, eH⟩ : ∃ H, H = s.heap := ⟨_, rfl⟩
  obtain ⟨locs, eL⟩ : ∃ locs : List Loc, locs = [] := ⟨_, rfl⟩
  replace hP : va_P D vwCl (WP cB cI q0 q1 q2 q3 q4 q5 q6 q7 q8 q9 u) H := by rw [eH]; exact hP
  replace hS : va_S A s.heap H locs := by rw [eH, eL]; exact hS
  suffices hgo : W p l e ({ frames := 3, cells := 0, slots := 0, locals := 63 } : Room) s m ([.ref q0] : List Value).toArray below meth c H locs 0 0 (MQ below (va_Qv P (fun u t => va_P D vwCl (WP cB cI q0 q1 q2 q3 q4 q5 q6 q7 q8 q9 u) t.heap) A) ([.ref q0] : List Value).toArray s 0 0 A) (F0 m 0 ls []) by rw [eH, eL] at hgo; exact hgo
  clear eH eL
  refine lv_aload_n hx hb dX3_loop_0 rfl (lv_at hl 0 rfl) ?_
  refine va_get (D := D) (ci := 3) (v := .ref q4) (C := RX3) (T := TX3) (N := 8) hx hb hts i_X3 hown hK hP 0 rfl rfl 1 (by decide) f_21 (fun _ h9 => h9) rfl dX3_loop_1 ?_
  refine lv_iconst (v := (1 : Int32)) hx hb dX3_loop_4 (by decide) ?_
  refine lv_aload_n hx hb dX3_loop_5 rfl (lv_at hl 0 rfl) ?_
  refine va_get (D := D) (ci := 3) (v := .ref q4) (C := RX3) (T := TX3) (N := 8) hx hb hts i_X3 hown hK hP 0 rfl rfl 1 (by decide) f_21 (fun _ h9 => h9) rfl dX3_loop_6 ?_
  refine lv_iconst (v := (1 : Int32)) hx hb dX3_loop_9 (by decide) ?_
  refine cl_Vi (As := [.int (1 : Int32)]) (rest := [.int (1 : Int32), .ref q4]) (st := [.int (1 : Int32), .ref q4, .int (1 : Int32), .ref q4]) S hK hA hP hD hS (fr_P_R u) (kcX4_word l D cB cI q4 q5 q6 H.size (1 : Int32) (p_regs u) _ hw) (cwV 1 hts gX3_loop_X4_word rfl rfl rfl (by decide +kernel) ⟨Nat.le_of_ble_eq_true rfl, Nat.le_of_ble_eq_true rfl⟩) tru_h tru_b 4 rfl rfl rfl rfl rfl hl.1 (Nat.le_of_ble_eq_true rfl) dX3_loop_10 ⟨Nat.zero_le _, Nat.zero_le _⟩ (fun r2 u1 H locs hP hD hS hw => ?_)
  replace hP : va_P D vwCl (WP cB cI q0 q1 q2 q3 q4 q5 q6 q7 q8 q9 (ps_regs u u1)) H := hP
  replace hD : va_D A (WP cB cI q0 q1 q2 q3 q4 q5 q6 q7 q8 q9 (ps_regs u u1)) := hD
  refine lv_iconst (v := (1 : Int32)) hx hb dX3_loop_13 (by decide) ?_
  refine lv_isub hx hb dX3_loop_14 ?_
  refine cl_Vv (As := [.int (1 : Int32), .int (r2 - (1 : Int32))]) (rest := []) (st := [.int (r2 - (1 : Int32)), .int (1 : Int32), .ref q4]) S hK hA hP hD hS (fr_P_R (ps_regs u u1)) (kcX4_setWord l D cB cI q4 q5 q6 H.size (1 : Int32) (r2 - (1 : Int32)) u1 _ hw) (cwV 2 hts gX3_loop_X4_setWord rfl rfl rfl (by decide +kernel) ⟨Nat.le_of_ble_eq_true rfl, Nat.le_of_ble_eq_true rfl⟩) tru_h tru_b 4 rfl rfl rfl rfl rfl hl.1 (Nat.le_of_ble_eq_true rfl) dX3_loop_15 ⟨Nat.zero_le _, Nat.zero_le _⟩ (fun u3 H locs hP hD hS hw => ?_)
  replace hP : va_P D vwCl (WP cB cI q0 q1 q2 q3 q4 q5 q6 q7 q8 q9 (ps_regs u u3)) H := hP
  replace hD : va_D A (WP cB cI q0 q1 q2 q3 q4 q5 q6 q7 q8 q9 (ps_regs u u3)) := hD
  refine lv_aload_n hx hb dX3_loop_18 rfl (lv_at hl 0 rfl) ?_
  refine va_get (D := D) (ci := 3) (v := .ref q8) (C := RX3) (T := TX3) (N := 8) hx hb hts i_X3 hown hK hP 0 rfl rfl 3 (by decide) f_35 (fun _ h9 => h9) rfl dX3_loop_19 ?_
  refine va_get (D := D) (ci := 1) (v := .int (c_number (p_code u))) (C := RX1) (T := TX1) (N := 12) hx hb hts i_X1 hown hK hP 8 rfl rfl 1 (by decide) f_47 (fun _ h9 => h9) rfl dX3_loop_22 ?_
  refine lv_sipush (v := (226 : Int32)) hx hb dX3_loop_25 (by decide) ?_
  refine lv_icmp_eq (tgt := 61) hx hb dX3_loop_28 (by decide) (fun c5 => ?_) (fun c5 => ?_)
  · replace hw := hw.1 c5
    exact b61 (ps_regs u u3) H locs ls hP hD hS (lv_sub hl [0] rfl) hw
  · replace hw := hw.2 c5
    refine lv_aload_n hx hb dX3_loop_31 rfl (lv_at hl 0 rfl) ?_
    refine va_get (D := D) (ci := 3) (v := .ref q7) (C := RX3) (T := TX3) (N := 8) hx hb hts i_X3 hown hK hP 0 rfl rfl 2 (by decide) f_28 (fun _ h9 => h9) rfl dX3_loop_32 ?_
    refine lv_bipush (v := (64 : Int32)) hx hb dX3_loop_35 (by decide) ?_
    refine cl_Vi (As := [.int (64 : Int32)]) (rest := []) (st := [.int (64 : Int32), .ref q7]) S hK hA hP hD hS (fr_P_A (ps_regs u u3)) (kcX0_has l D cB cI q7 H.size (64 : Int32) (p_flags u) _ hw) (cwV 1 hts gX3_loop_X0_has rfl rfl rfl (by decide +kernel) ⟨Nat.le_of_ble_eq_true rfl, Nat.le_of_ble_eq_true rfl⟩) tru_h tru_b 7 rfl rfl rfl rfl rfl hl.1 (Nat.le_of_ble_eq_true rfl) dX3_loop_37 ⟨Nat.zero_le _, Nat.zero_le _⟩ (fun r7 u6 H locs hP hD hS hw => ?_)
    replace hP : va_P D vwCl (WP cB cI q0 q1 q2 q3 q4 q5 q6 q7 q8 q9 (ps_flags (ps_regs u u3) u6)) H := hP
    replace hD : va_D A (WP cB cI q0 q1 q2 q3 q4 q5 q6 q7 q8 q9 (ps_flags (ps_regs u u3) u6)) := hD
    refine lv_aload_n hx hb dX3_loop_40 rfl (lv_at hl 0 rfl) ?_
    refine va_get (D := D) (ci := 3) (v := .ref q8) (C := RX3) (T := TX3) (N := 8) hx hb hts i_X3 hown hK hP 0 rfl rfl 3 (by decide) f_35 (fun _ h9 => h9) rfl dX3_loop_41 ?_
    refine va_get (D := D) (ci := 1) (v := .int (c_number (p_code u))) (C := RX1) (T := TX1) (N := 12) hx hb hts i_X1 hown hK hP 8 rfl rfl 1 (by decide) f_47 (fun _ h9 => h9) rfl dX3_loop_44 ?_
    refine lv_sipush (v := (225 : Int32)) hx hb dX3_loop_47 (by decide) ?_
    refine lv_icmp_ne (tgt := 57) hx hb dX3_loop_50 (by decide) (fun c8 => ?_) (fun c8 => ?_)
    · replace hw := hw.2 c8
      refine lv_iconst (v := (0 : Int32)) hx hb dX3_loop_57 (by decide) ?_
      exact b58 r7 (0 : Int32) (ps_flags (ps_regs u u3) u6) H locs ls hP hD hS (lv_sub hl [0] rfl) hw
    · replace hw := hw.1 c8
      refine lv_iconst (v := (1 : Int32)) hx hb dX3_loop_53 (by decide) ?_
      refine lv_goto (tgt := 58) hx hb dX3_loop_54 (by decide) ?_
      exact b58 r7 (1 : Int32) (ps_flags (ps_regs u u3) u6) H locs ls hP hD hS (lv_sub hl [0] rfl) hw
-- X3_usePort
def wX3_usePort_b59 (a1 : Int32) (P : SP → Prop) (x2 : Int32) (s1 : Int32) (u : SP) : Prop := (wX3_giveA s1 x2 u (fun u21 => (P u21)))
def wX3_usePort_b25 (a1 : Int32) (P : SP → Prop) (x2 : Int32) (s0 : Int32) (u : SP) : Prop := ((s0 = (0 : Int32) → ((x2 = (0 : Int32) → (wX3_portByte a1 u (fun r16 u15 => (wX3_usePort_b59 a1 P x2 r16 u15)))) ∧ (¬ x2 = (0 : Int32) → (wX3_portByte a1 u (fun r18 u17 => (wX3_portByte (a1 + (1 : Int32)) u17 (fun r20 u19 => (wX3_usePort_b59 a1 P x2 (r18 ||| (r20 <<< ((8 : Int32) &&& 31))) u19)))))))) ∧ (¬ s0 = (0 : Int32) → (wX3_a (0 : Int32) u (fun r6 u5 => (wX3_givePort a1 r6 u5 (fun u7 => ((x2 = (0 : Int32) → (P u7)) ∧ (¬ x2 = (0 : Int32) → (wX3_a (1 : Int32) u7 (fun r11 u10 => (wX3_givePort (a1 + (1 : Int32)) (r11 >>> ((8 : Int32) &&& 31)) u10 (fun u12 => (P u12)))))))))))))
def wX3_usePort (a1 : Int32) (u : SP) (P : SP → Prop) : Prop := (wX1_wide  (p_code u) (fun r2 u1 => ((((c_number u1) &&& (2 : Int32)) = (0 : Int32) → (wX3_usePort_b25 a1 P r2 (0 : Int32) (ps_code u u1))) ∧ (¬ ((c_number u1) &&& (2 : Int32)) = (0 : Int32) → (wX3_usePort_b25 a1 P r2 (1 : Int32) (ps_code u u1))))))
set_option maxHeartbeats 4000000 in
set_option maxRecDepth 100000 in
theorem kcX3_usePort (l : Launch) (D : va_G) (cB cI : ClassId) (q0 q1 q2 q3 q4 q5 q6 q7 q8 q9 : Nat) (sz : Nat) (a1 : Int32) (u : SP) (P : SP → Prop) (hw : wX3_usePort a1 u P) : Met l yX3_usePort wsX3_usePort ({ frames := 2, cells := 0, slots := 0, locals := 45 } : Room) (va_Pc [.ref q0, .int a1] (Pcw D (tyA cB cI) (WP cB cI q0 q1 q2 q3 q4 q5 q6 q7 q8 q9 u) sz Tru)) (va_Qv P (fun u t => va_P D vwCl (WP cB cI q0 q1 q2 q3 q4 q5 q6 q7 q8 q9 u) t.heap) (va_A (WP cB cI q0 q1 q2 q3 q4 q5 q6 q7 q8 q9 u) sz)) 0 0 (va_A (WP cB cI q0 q1 q2 q3 q4 q5 q6 q7 q8 q9 u) sz) := by
  refine en_ (cc := cX3_usePort) (maxL := 4) (ret := none) (own := RX3) (lv := [(0, .ref q0), (1, .int a1)]) (Qf := fun A => va_Qv P (fun u t => va_P D vwCl (WP cB cI q0 q1 q2 q3 q4 q5 q6 q7 q8 q9 u) t.heap) A) (by decide) rfl rfl (Nat.le_of_ble_eq_true rfl) rfl ?_
  intro p e s m below meth c A ls S hr hlk hname hsz hP hK hD hA hSub hS hE hl
  have hx := S.1
  have hb := S.2.1
  have hown := S.2.2.2.1
  have hts := S.2.2.2.2
  have i_X1 : ∀ w ∈ u_ws RX1 TX1 12, w ∈ wsX3_usePort := by decide +kernel
  have i_X3 : ∀ w ∈ u_ws RX3 TX3 8, w ∈ wsX3_usePort := by decide +kernel
  have f_35 := hts (.fieldLink RX3 35 "MachineCore$Processor" "code" "LMachineCore$Code;") (by decide +kernel)
  have f_47 := hts (.fieldLink RX3 47 "MachineCore$Code" "number" "I") (by decide +kernel)
  have b59 : ∀ (x2 : Int32) (s1 : Int32) (u : SP) (H : Heap) (locs : List Loc) (ls : Array Slot), va_P D vwCl (WP cB cI q0 q1 q2 q3 q4 q5 q6 q7 q8 q9 u) H → va_D A (WP cB cI q0 q1 q2 q3 q4 q5 q6 q7 q8 q9 u) → va_S A s.heap H locs → lv_has ls 4 [(2, .int x2)] → wX3_usePort_b59 a1 P x2 s1 u → W p l e ({ frames := 2, cells := 0, slots := 0, locals := 45 } : Room) s m ([.ref q0, .int a1] : List Value).toArray below meth c H locs 0 0 (MQ below (va_Qv P (fun u t => va_P D vwCl (WP cB cI q0 q1 q2 q3 q4 q5 q6 q7 q8 q9 u) t.heap) A) ([.ref q0, .int a1] : List Value).toArray s 0 0 A) (F0 m 59 ls [.int s1, .ref q0]) := by
    intro x2 s1 u H locs ls hP hD hS hl hw
    unfold wX3_usePort_b59 at hw
    refine lv_iload_n hx hb dX3_usePort_59 rfl (lv_at hl 0 rfl) ?_
    refine cl_Vv (As := [.int s1, .int x2]) (rest := []) (st := [.int x2, .int s1, .ref q0]) S hK hA hP hD hS (fr_P u) (kcX3_giveA l D cB cI q0 q1 q2 q3 q4 q5 q6 q7 q8 q9 H.size s1 x2 u _ hw) (cwV 2 hts gX3_usePort_X3_giveA rfl rfl rfl (by decide +kernel) ⟨Nat.le_of_ble_eq_true rfl, Nat.le_of_ble_eq_true rfl⟩) tru_h tru_b 0 rfl rfl rfl rfl rfl hl.1 (Nat.le_of_ble_eq_true rfl) dX3_usePort_60 ⟨Nat.zero_le _, Nat.zero_le _⟩ (fun u21 H locs hP hD hS hw => ?_)
    replace hP : va_P D vwCl (WP cB cI q0 q1 q2 q3 q4 q5 q6 q7 q8 q9 u21) H := hP
    replace hD : va_D A (WP cB cI q0 q1 q2 q3 q4 q5 q6 q7 q8 q9 u21) := hD
    exact rt_v (wo := (fun v => WP cB cI q0 q1 q2 q3 q4 q5 q6 q7 q8 q9 v)) S hr hlk u21 hP hS hw dX3_usePort_63
  have b25 : ∀ (x2 : Int32) (s0 : Int32) (u : SP) (H : Heap) (locs : List Loc) (ls : Array Slot), va_P D vwCl (WP cB cI q0 q1 q2 q3 q4 q5 q6 q7 q8 q9 u) H → va_D A (WP cB cI q0 q1 q2 q3 q4 q5 q6 q7 q8 q9 u) → va_S A s.heap H locs → lv_has ls 4 [(0, .ref q0), (1, .int a1), (2, .int x2)] → wX3_usePort_b25 a1 P x2 s0 u → W p l e ({ frames := 2, cells := 0, slots := 0, locals := 45 } : Room) s m ([.ref q0, .int a1] : List Value).toArray below meth c H locs 0 0 (MQ below (va_Qv P (fun u t => va_P D vwCl (WP cB cI q0 q1 q2 q3 q4 q5 q6 q7 q8 q9 u) t.heap) A) ([.ref q0, .int a1] : List Value).toArray s 0 0 A) (F0 m 25 ls [.int s0]) := by
    intro x2 s0 u H locs ls hP hD hS hl hw
    unfold wX3_usePort_b25 at hw
    refine lv_istore_n (lv' := [(3, .int s0), (0, .ref q0), (1, .int a1), (2, .int x2)]) hx hb dX3_usePort_25 rfl hl (by decide) rfl (fun ls hl => ?_)
    refine lv_iload_n hx hb dX3_usePort_26 rfl (lv_at hl 0 rfl) ?_
    refine lv_if_ne (tgt := 64) hx hb dX3_usePort_27 (by decide) (fun c4 => ?_) (fun c4 => ?_)
    · replace hw := hw.2 c4
      refine lv_aload_n hx hb dX3_usePort_64 rfl (lv_at hl 1 rfl) ?_
      refine lv_iload_n hx hb dX3_usePort_65 rfl (lv_at hl 2 rfl) ?_
      refine lv_aload_n hx hb dX3_usePort_66 rfl (lv_at hl 1 rfl) ?_
      refine lv_iconst (v := (0 : Int32)) hx hb dX3_usePort_67 (by decide) ?_
      refine cl_Vi (As := [.int (0 : Int32)]) (rest := [.int a1, .ref q0]) (st := [.int (0 : Int32), .ref q0, .int a1, .ref q0]) S hK hA hP hD hS (fr_P u) (kcX3_a l D cB cI q0 q1 q2 q3 q4 q5 q6 q7 q8 q9 H.size (0 : Int32) u _ hw) (cwV 1 hts gX3_usePort_X3_a rfl rfl rfl (by decide +kernel) ⟨Nat.le_of_ble_eq_true rfl, Nat.le_of_ble_eq_true rfl⟩) tru_h tru_b 0 rfl rfl rfl rfl rfl hl.1 (Nat.le_of_ble_eq_true rfl) dX3_usePort_68 ⟨Nat.zero_le _, Nat.zero_le _⟩ (fun r6 u5 H locs hP hD hS hw => ?_)
      replace hP : va_P D vwCl (WP cB cI q0 q1 q2 q3 q4 q5 q6 q7 q8 q9 u5) H := hP
      replace hD : va_D A (WP cB cI q0 q1 q2 q3 q4 q5 q6 q7 q8 q9 u5) := hD
      refine cl_Vv (As := [.int a1, .int r6]) (rest := []) (st := [.int r6, .int a1, .ref q0]) S hK hA hP hD hS (fr_P u5) (kcX3_givePort l D cB cI q0 q1 q2 q3 q4 q5 q6 q7 q8 q9 H.size a1 r6 u5 _ hw) (cwV 2 hts gX3_usePort_X3_givePort rfl rfl rfl (by decide +kernel) ⟨Nat.le_of_ble_eq_true rfl, Nat.le_of_ble_eq_true rfl⟩) tru_h tru_b 0 rfl rfl rfl rfl rfl hl.1 (Nat.le_of_ble_eq_true rfl) dX3_usePort_71 ⟨Nat.zero_le _, Nat.zero_le _⟩ (fun u7 H locs hP hD hS hw => ?_)
      replace hP : va_P D vwCl (WP cB cI q0 q1 q2 q3 q4 q5 q6 q7 q8 q9 u7) H := hP
      replace hD : va_D A (WP cB cI q0 q1 q2 q3 q4 q5 q6 q7 q8 q9 u7) := hD
      refine lv_iload_n hx hb dX3_usePort_74 rfl (lv_at hl 3 rfl) ?_
      refine lv_if_eq (tgt := 93) hx hb dX3_usePort_75 (by decide) (fun c9 => ?_) (fun c9 => ?_)
      · replace hw := hw.1 c9
        exact rt_v (wo := (fun v => WP cB cI q0 q1 q2 q3 q4 q5 q6 q7 q8 q9 v)) S hr hlk u7 hP hS hw dX3_usePort_93
      · replace hw := hw.2 c9
        refine lv_aload_n hx hb dX3_usePort_78 rfl (lv_at hl 1 rfl) ?_
        refine lv_iload_n hx hb dX3_usePort_79 rfl (lv_at hl 2 rfl) ?_
        refine lv_iconst (v := (1 : Int32)) hx hb dX3_usePort_80 (by decide) ?_
        refine lv_iadd hx hb dX3_usePort_81 ?_
        refine lv_aload_n hx hb dX3_usePort_82 rfl (lv_at hl 1 rfl) ?_
        refine lv_iconst (v := (1 : Int32)) hx hb dX3_usePort_83 (by decide) ?_
        refine cl_Vi (As := [.int (1 : Int32)]) (rest := [.int (a1 + (1 : Int32)), .ref q0]) (st := [.int (1 : Int32), .ref q0, .int (a1 + (1 : Int32)), .ref q0]) S hK hA hP hD hS (fr_P u7) (kcX3_a l D cB cI q0 q1 q2 q3 q4 q5 q6 q7 q8 q9 H.size (1 : Int32) u7 _ hw) (cwV 1 hts gX3_usePort_X3_a rfl rfl rfl (by decide +kernel) ⟨Nat.le_of_ble_eq_true rfl, Nat.le_of_ble_eq_true rfl⟩) tru_h tru_b 0 rfl rfl rfl rfl rfl hl.1 (Nat.le_of_ble_eq_true rfl) dX3_usePort_84 ⟨Nat.zero_le _, Nat.zero_le _⟩ (fun r11 u10 H locs hP hD hS hw => ?_)
        replace hP : va_P D vwCl (WP cB cI q0 q1 q2 q3 q4 q5 q6 q7 q8 q9 u10) H := hP
        replace hD : va_D A (WP cB cI q0 q1 q2 q3 q4 q5 q6 q7 q8 q9 u10) := hD
        refine lv_bipush (v := (8 : Int32)) hx hb dX3_usePort_87 (by decide) ?_
        refine lv_ishr hx hb dX3_usePort_89 ?_
        refine cl_Vv (As := [.int (a1 + (1 : Int32)), .int (r11 >>> ((8 : Int32) &&& 31))]) (rest := []) (st := [.int (r11 >>> ((8 : Int32) &&& 31)), .int (a1 + (1 : Int32)), .ref q0]) S hK hA hP hD hS (fr_P u10) (kcX3_givePort l D cB cI q0 q1 q2 q3 q4 q5 q6 q7 q8 q9 H.size (a1 + (1 : Int32)) (r11 >>> ((8 : Int32) &&& 31)) u10 _ hw) (cwV 2 hts gX3_usePort_X3_givePort rfl rfl rfl (by decide +kernel) ⟨Nat.le_of_ble_eq_true rfl, Nat.le_of_ble_eq_true rfl⟩) tru_h tru_b 0 rfl rfl rfl rfl rfl hl.1 (Nat.le_of_ble_eq_true rfl) dX3_usePort_90 ⟨Nat.zero_le _, Nat.zero_le _⟩ (fun u12 H locs hP hD hS hw => ?_)
        replace hP : va_P D vwCl (WP cB cI q0 q1 q2 q3 q4 q5 q6 q7 q8 q9 u12) H := hP
        replace hD : va_D A (WP cB cI q0 q1 q2 q3 q4 q5 q6 q7 q8 q9 u12) := hD
        exact rt_v (wo := (fun v => WP cB cI q0 q1 q2 q3 q4 q5 q6 q7 q8 q9 v)) S hr hlk u12 hP hS hw dX3_usePort_93
    · replace hw := hw.1 c4
      refine lv_aload_n hx hb dX3_usePort_30 rfl (lv_at hl 1 rfl) ?_
      refine lv_iload_n hx hb dX3_usePort_31 rfl (lv_at hl 3 rfl) ?_
      refine lv_if_eq (tgt := 54) hx hb dX3_usePort_32 (by decide) (fun c14 => ?_) (fun c14 => ?_)
      · replace hw := hw.1 c14
        refine lv_aload_n hx hb dX3_usePort_54 rfl (lv_at hl 1 rfl) ?_
        refine lv_iload_n hx hb dX3_usePort_55 rfl (lv_at hl 2 rfl) ?_
        refine cl_Vi (As := [.int a1]) (rest := [.ref q0]) (st := [.int a1, .ref q0, .ref q0]) S hK hA hP hD hS (fr_P u) (kcX3_portByte l D cB cI q0 q1 q2 q3 q4 q5 q6 q7 q8 q9 H.size a1 u _ hw) (cwV 1 hts gX3_usePort_X3_portByte rfl rfl rfl (by decide +kernel) ⟨Nat.le_of_ble_eq_true rfl, Nat.le_of_ble_eq_true rfl⟩) tru_h tru_b 0 rfl rfl rfl rfl rfl hl.1 (Nat.le_of_ble_eq_true rfl) dX3_usePort_56 ⟨Nat.zero_le _, Nat.zero_le _⟩ (fun r16 u15 H locs hP hD hS hw => ?_)
        replace hP : va_P D vwCl (WP cB cI q0 q1 q2 q3 q4 q5 q6 q7 q8 q9 u15) H := hP
        replace hD : va_D A (WP cB cI q0 q1 q2 q3 q4 q5 q6 q7 q8 q9 u15) := hD
        exact b59 x2 r16 u15 H locs ls hP hD hS (lv_sub hl [3] rfl) hw
      · replace hw := hw.2 c14
        refine lv_aload_n hx hb dX3_usePort_35 rfl (lv_at hl 1 rfl) ?_
        refine lv_iload_n hx hb dX3_usePort_36 rfl (lv_at hl 2 rfl) ?_
        refine cl_Vi (As := [.int a1]) (rest := [.ref q0]) (st := [.int a1, .ref q0, .ref q0]) S hK hA hP hD hS (fr_P u) (kcX3_portByte l D cB cI q0 q1 q2 q3 q4 q5 q6 q7 q8 q9 H.size a1 u _ hw) (cwV 1 hts gX3_usePort_X3_portByte rfl rfl rfl (by decide +kernel) ⟨Nat.le_of_ble_eq_true rfl, Nat.le_of_ble_eq_true rfl⟩) tru_h tru_b 0 rfl rfl rfl rfl rfl hl.1 (Nat.le_of_ble_eq_true rfl) dX3_usePort_37 ⟨Nat.zero_le _, Nat.zero_le _⟩ (fun r18 u17 H locs hP hD hS hw => ?_)
        replace hP : va_P D vwCl (WP cB cI q0 q1 q2 q3 q4 q5 q6 q7 q8 q9 u17) H := hP
        replace hD : va_D A (WP cB cI q0 q1 q2 q3 q4 q5 q6 q7 q8 q9 u17) := hD
        refine lv_aload_n hx hb dX3_usePort_40 rfl (lv_at hl 1 rfl) ?_
        refine lv_iload_n hx hb dX3_usePort_41 rfl (lv_at hl 2 rfl) ?_
        refine lv_iconst (v := (1 : Int32)) hx hb dX3_usePort_42 (by decide) ?_
        refine lv_iadd hx hb dX3_usePort_43 ?_
        refine cl_Vi (As := [.int (a1 + (1 : Int32))]) (rest := [.int r18, .ref q0]) (st := [.int (a1 + (1 : Int32)), .ref q0, .int r18, .ref q0]) S hK hA hP hD hS (fr_P u17) (kcX3_portByte l D cB cI q0 q1 q2 q3 q4 q5 q6 q7 q8 q9 H.size (a1 + (1 : Int32)) u17 _ hw) (cwV 1 hts gX3_usePort_X3_portByte rfl rfl rfl (by decide +kernel) ⟨Nat.le_of_ble_eq_true rfl, Nat.le_of_ble_eq_true rfl⟩) tru_h tru_b 0 rfl rfl rfl rfl rfl hl.1 (Nat.le_of_ble_eq_true rfl) dX3_usePort_44 ⟨Nat.zero_le _, Nat.zero_le _⟩ (fun r20 u19 H locs hP hD hS hw => ?_)
        replace hP : va_P D vwCl (WP cB cI q0 q1 q2 q3 q4 q5 q6 q7 q8 q9 u19) H := hP
        replace hD : va_D A (WP cB cI q0 q1 q2 q3 q4 q5 q6 q7 q8 q9 u19) := hD
        refine lv_bipush (v := (8 : Int32)) hx hb dX3_usePort_47 (by decide) ?_
        refine lv_ishl hx hb dX3_usePort_49 ?_
        refine lv_ior hx hb dX3_usePort_50 ?_
        refine lv_goto (tgt := 59) hx hb dX3_usePort_51 (by decide) ?_
        exact b59 x2 (r18 ||| (r20 <<< ((8 : Int32) &&& 31))) u19 H locs ls hP hD hS (lv_sub hl [3] rfl) hw
  unfold wX3_usePort at hw
  obtain ⟨H, eH⟩ : ∃ H, H = s.heap := ⟨_, rfl⟩
  obtain ⟨locs, eL⟩ : ∃ locs : List Loc, locs = [] := ⟨_, rfl⟩
  replace hP : va_P D vwCl (WP cB cI q0 q1 q2 q3 q4 q5 q6 q7 q8 q9 u) H := by rw [eH]; exact hP
  replace hS : va_S A s.heap H locs := by rw [eH, eL]; exact hS
  suffices hgo : W p l e ({ frames := 2, cells := 0, slots := 0, locals := 45 } : Room) s m ([.ref q0, .int a1] : List Value).toArray below meth c H locs 0 0 (MQ below (va_Qv P (fun u t => va_P D vwCl (WP cB cI q0 q1 q2 q3 q4 q5 q6 q7 q8 q9 u) t.heap) A) ([.ref q0, .int a1] : List Value).toArray s 0 0 A) (F0 m 0 ls []) by rw [eH, eL] at hgo; exact hgo
  clear eH eL
  refine lv_aload_n hx hb dX3_usePort_0 rfl (lv_at hl 0 rfl) ?_
  refine va_get (D := D) (ci := 3) (v := .ref q8) (C := RX3) (T := TX3) (N := 8) hx hb hts i_X3 hown hK hP 0 rfl rfl 3 (by decide) f_35 (fun _ h9 => h9) rfl dX3_usePort_1 ?_
  refine cl_Vi (As := []) (rest := []) (st := [.ref q8]) S hK hA hP hD hS (fr_P_C u) (kcX1_wide l D cB cI q8 H.size  (p_code u) _ hw) (cwV 0 hts gX3_usePort_X1_wide rfl rfl rfl (by decide +kernel) ⟨Nat.le_of_ble_eq_true rfl, Nat.le_of_ble_eq_true rfl⟩) tru_h tru_b 8 rfl rfl rfl rfl rfl hl.1 (Nat.le_of_ble_eq_true rfl) dX3_usePort_4 ⟨Nat.zero_le _, Nat.zero_le _⟩ (fun r2 u1 H locs hP hD hS hw => ?_)
  replace hP : va_P D vwCl (WP cB cI q0 q1 q2 q3 q4 q5 q6 q7 q8 q9 (ps_code u u1)) H := hP
  replace hD : va_D A (WP cB cI q0 q1 q2 q3 q4 q5 q6 q7 q8 q9 (ps_code u u1)) := hD
  refine lv_istore_n (lv' := [(2, .int r2), (0, .ref q0), (1, .int a1)]) hx hb dX3_usePort_7 rfl hl (by decide) rfl (fun ls hl => ?_)
  refine lv_aload_n hx hb dX3_usePort_8 rfl (lv_at hl 1 rfl) ?_
  refine va_get (D := D) (ci := 3) (v := .ref q8) (C := RX3) (T := TX3) (N := 8) hx hb hts i_X3 hown hK hP 0 rfl rfl 3 (by decide) f_35 (fun _ h9 => h9) rfl dX3_usePort_9 ?_
  refine va_get (D := D) (ci := 1) (v := .int (c_number u1)) (C := RX1) (T := TX1) (N := 12) hx hb hts i_X1 hown hK hP 8 rfl rfl 1 (by decide) f_47 (fun _ h9 => h9) rfl dX3_usePort_12 ?_
  refine lv_iconst (v := (2 : Int32)) hx hb dX3_usePort_15 (by decide) ?_
  refine lv_iand hx hb dX3_usePort_16 ?_
  refine lv_if_eq (tgt := 24) hx hb dX3_usePort_17 (by decide) (fun c3 => ?_) (fun c3 => ?_)
  · replace hw := hw.1 c3
    refine lv_iconst (v := (0 : Int32)) hx hb dX3_usePort_24 (by decide) ?_
    exact b25 r2 (0 : Int32) (ps_code u u1) H locs ls hP hD hS (lv_sub hl [1, 2, 0] rfl) hw
  · replace hw := hw.2 c3
    refine lv_iconst (v := (1 : Int32)) hx hb dX3_usePort_20 (by decide) ?_
    refine lv_goto (tgt := 25) hx hb dX3_usePort_21 (by decide) ?_
    exact b25 r2 (1 : Int32) (ps_code u u1) H locs ls hP hD hS (lv_sub hl [1, 2, 0] rfl) hw
-- X3_loopAndPortCodes
def wX3_loopAndPortCodes_b198  (P : SP → Prop) (s1 : Int32) (u : SP) : Prop := (wX3_usePort s1 u (fun u33 => (P u33)))
def wX3_loopAndPortCodes_b166  (P : SP → Prop)  (u : SP) : Prop := (((232 : Int32) ≤ (c_number (p_code u)) → (wX4_word (2 : Int32) (p_regs u) (fun r32 u31 => (wX3_loopAndPortCodes_b198  P r32 (ps_regs u u31))))) ∧ (¬ (232 : Int32) ≤ (c_number (p_code u)) → (wX3_loopAndPortCodes_b198  P (c_first (p_code u)) u)))
def wX3_loopAndPortCodes_b92  (P : SP → Prop) (s1 : Int32) (u : SP) : Prop := (wX3_jumpIf s1 u (fun u28 => (P u28)))
def wX3_loopAndPortCodes_b68  (P : SP → Prop)  (u : SP) : Prop := (wX3_loop  u (fun u26 => (P u26)))
def wX3_loopAndPortCodes  (u : SP) (P : SP → Prop) : Prop := (((c_number (p_code u)) = (224 : Int32) → (wX3_loopAndPortCodes_b68  P u)) ∧ (¬ (c_number (p_code u)) = (224 : Int32) → (((c_number (p_code u)) = (225 : Int32) → (wX3_loopAndPortCodes_b68  P u)) ∧ (¬ (c_number (p_code u)) = (225 : Int32) → (((c_number (p_code u)) = (226 : Int32) → (wX3_loopAndPortCodes_b68  P u)) ∧ (¬ (c_number (p_code u)) = (226 : Int32) → (((c_number (p_code u)) = (227 : Int32) → (wX4_word (1 : Int32) (p_regs u) (fun r6 u5 => ((r6 = (0 : Int32) → (wX3_loopAndPortCodes_b92  P (1 : Int32) (ps_regs u u5))) ∧ (¬ r6 = (0 : Int32) → (wX3_loopAndPortCodes_b92  P (0 : Int32) (ps_regs u u5))))))) ∧ (¬ (c_number (p_code u)) = (227 : Int32) → (((c_number (p_code u)) = (228 : Int32) → (wX3_loopAndPortCodes_b166  P u)) ∧ (¬ (c_number (p_code u)) = (228 : Int32) → (((c_number (p_code u)) = (229 : Int32) → (wX3_loopAndPortCodes_b166  P u)) ∧ (¬ (c_number (p_code u)) = (229 : Int32) → (((c_number (p_code u)) = (230 : Int32) → (wX3_loopAndPortCodes_b166  P u)) ∧ (¬ (c_number (p_code u)) = (230 : Int32) → (((c_number (p_code u)) = (231 : Int32) → (wX3_loopAndPortCodes_b166  P u)) ∧ (¬ (c_number (p_code u)) = (231 : Int32) → (((c_number (p_code u)) = (232 : Int32) → (wX3_push (r_ip (p_regs u)) u (fun u13 => (wX3_jump (c_first (p_code u13)) u13 (fun u15 => (P u15)))))) ∧ (¬ (c_number (p_code u)) = (232 : Int32) → (((c_number (p_code u)) = (233 : Int32) → (wX3_jump (c_first (p_code u)) u (fun u18 => (P u18)))) ∧ (¬ (c_number (p_code u)) = (233 : Int32) → (((c_number (p_code u)) = (234 : Int32) → (wX3_jumpFar (c_first (p_code u)) (c_second (p_code u)) u (fun u21 => (P u21)))) ∧ (¬ (c_number (p_code u)) = (234 : Int32) → (((c_number (p_code u)) = (235 : Int32) → (wX3_jumpIf (1 : Int32) u (fun u24 => (P u24)))) ∧ (¬ (c_number (p_code u)) = (235 : Int32) → (wX3_loopAndPortCodes_b166  P u)))))))))))))))))))))))))
set_option maxHeartbeats 4000000 in
set_option maxRecDepth 100000 in
theorem kcX3_loopAndPortCodes (l : Launch) (D : va_G) (cB cI : ClassId) (q0 q1 q2 q3 q4 q5 q6 q7 q8 q9 : Nat) (sz : Nat)  (u : SP) (P : SP → Prop) (hw : wX3_loopAndPortCodes  u P) : Met l yX3_loopAndPortCodes wsX3_loopAndPortCodes ({ frames := 4, cells := 0, slots := 0, locals := 84 } : Room) (va_Pc [.ref q0] (Pcw D (tyA cB cI) (WP cB cI q0 q1 q2 q3 q4 q5 q6 q7 q8 q9 u) sz Tru)) (va_Qv P (fun u t => va_P D vwCl (WP cB cI q0 q1 q2 q3 q4 q5 q6 q7 q8 q9 u) t.heap) (va_A (WP cB cI q0 q1 q2 q3 q4 q5 q6 q7 q8 q9 u) sz)) 0 0 (va_A (WP cB cI q0 q1 q2 q3 q4 q5 q6 q7 q8 q9 u) sz) := by
  refine en_ (cc := cX3_loopAndPortCodes) (maxL := 1) (ret := none) (own := RX3) (lv := [(0, .ref q0)]) (Qf := fun A => va_Qv P (fun u t => va_P D vwCl (WP cB cI q0 q1 q2 q3 q4 q5 q6 q7 q8 q9 u) t.heap) A) (by decide) rfl rfl (Nat.le_of_ble_eq_true rfl) rfl ?_
  intro p e s m below meth c A ls S hr hlk hname hsz hP hK hD hA hSub hS hE hl
  have hx := S.1
  have hb := S.2.1
  have hown := S.2.2.2.1
  have hts := S.2.2.2.2
  have i_X1 : ∀ w ∈ u_ws RX1 TX1 12, w ∈ wsX3_loopAndPortCodes := by decide +kernel
  have i_X3 : ∀ w ∈ u_ws RX3 TX3 8, w ∈ wsX3_loopAndPortCodes := by decide +kernel
  have i_X4 : ∀ w ∈ u_ws RX4 TX4 3, w ∈ wsX3_loopAndPortCodes := by decide +kernel
  have f_21 := hts (.fieldLink RX3 21 "MachineCore$Processor" "registers" "LMachineCore$Registers;") (by decide +kernel)
  have f_35 := hts (.fieldLink RX3 35 "MachineCore$Processor" "code" "LMachineCore$Code;") (by decide +kernel)
  have f_47 := hts (.fieldLink RX3 47 "MachineCore$Code" "number" "I") (by decide +kernel)
  have f_83 := hts (.fieldLink RX3 83 "MachineCore$Code" "first" "I") (by decide +kernel)
  have f_121 := hts (.fieldLink RX3 121 "MachineCore$Registers" "ip" "I") (by decide +kernel)
  have f_221 := hts (.fieldLink RX3 221 "MachineCore$Code" "second" "I") (by decide +kernel)
  have b198 : ∀ (s1 : Int32) (u : SP) (H : Heap) (locs : List Loc) (ls : Array Slot), va_P D vwCl (WP cB cI q0 q1 q2 q3 q4 q5 q6 q7 q8 q9 u) H → va_D A (WP cB cI q0 q1 q2 q3 q4 q5 q6 q7 q8 q9 u) → va_S A s.heap H locs → lv_has ls 1 [] → wX3_loopAndPortCodes_b198  P s1 u → W p l e ({ frames := 4, cells := 0, slots := 0, locals := 84 } : Room) s m ([.ref q0] : List Value).toArray below meth c H locs 0 0 (MQ below (va_Qv P (fun u t => va_P D vwCl (WP cB cI q0 q1 q2 q3 q4 q5 q6 q7 q8 q9 u) t.heap) A) ([.ref q0] : List Value).toArray s 0 0 A) (F0 m 198 ls [.int s1, .ref q0]) := by
    intro s1 u H locs ls hP hD hS hl hw
    unfold wX3_loopAndPortCodes_b198 at hw
    refine cl_Vv (As := [.int s1]) (rest := []) (st := [.int s1, .ref q0]) S hK hA hP hD hS (fr_P u) (kcX3_usePort l D cB cI q0 q1 q2 q3 q4 q5 q6 q7 q8 q9 H.size s1 u _ hw) (cwV 1 hts gX3_loopAndPortCodes_X3_usePort rfl rfl rfl (by decide +kernel) ⟨Nat.le_of_ble_eq_true rfl, Nat.le_of_ble_eq_true rfl⟩) tru_h tru_b 0 rfl rfl rfl rfl rfl hl.1 (Nat.le_of_ble_eq_true rfl) dX3_loopAndPortCodes_198 ⟨Nat.zero_le _, Nat.zero_le _⟩ (fun u33 H locs hP hD hS hw => ?_)
    replace hP : va_P D vwCl (WP cB cI q0 q1 q2 q3 q4 q5 q6 q7 q8 q9 u33) H := hP
    replace hD : va_D A (WP cB cI q0 q1 q2 q3 q4 q5 q6 q7 q8 q9 u33) := hD
    exact rt_v (wo := (fun v => WP cB cI q0 q1 q2 q3 q4 q5 q6 q7 q8 q9 v)) S hr hlk u33 hP hS hw dX3_loopAndPortCodes_201
  have b166 : ∀  (u : SP) (H : Heap) (locs : List Loc) (ls : Array Slot), va_P D vwCl (WP cB cI q0 q1 q2 q3 q4 q5 q6 q7 q8 q9 u) H → va_D A (WP cB cI q0 q1 q2 q3 q4 q5 q6 q7 q8 q9 u) → va_S A s.heap H locs → lv_has ls 1 [(0, .ref q0)] → wX3_loopAndPortCodes_b166  P u → W p l e ({ frames := 4, cells := 0, slots := 0, locals := 84 } : Room) s m ([.ref q0] : List Value).toArray below meth c H locs 0 0 (MQ below (va_Qv P (fun u t => va_P D vwCl (WP cB cI q0 q1 q2 q3 q4 q5 q6 q7 q8 q9 u) t.heap) A) ([.ref q0] : List Value).toArray s 0 0 A) (F0 m 166 ls []) := by
    intro u H locs ls hP hD hS hl hw
    unfold wX3_loopAndPortCodes_b166 at hw
    refine lv_aload_n hx hb dX3_loopAndPortCodes_166 rfl (lv_at hl 0 rfl) ?_
    refine lv_aload_n hx hb dX3_loopAndPortCodes_167 rfl (lv_at hl 0 rfl) ?_
    refine va_get (D := D) (ci := 3) (v := .ref q8) (C := RX3) (T := TX3) (N := 8) hx hb hts i_X3 hown hK hP 0 rfl rfl 3 (by decide) f_35 (fun _ h9 => h9) rfl dX3_loopAndPortCodes_168 ?_
    refine va_get (D := D) (ci := 1) (v := .int (c_number (p_code u))) (C := RX1) (T := TX1) (N := 12) hx hb hts i_X1 hown hK hP 8 rfl rfl 1 (by decide) f_47 (fun _ h9 => h9) rfl dX3_loopAndPortCodes_171 ?_
    refine lv_sipush (v := (232 : Int32)) hx hb dX3_loopAndPortCodes_174 (by decide) ?_
    refine lv_icmp_ge (tgt := 190) hx hb dX3_loopAndPortCodes_177 (by decide) (fun c30 => ?_) (fun c30 => ?_)
    · replace hw := hw.1 c30
      refine lv_aload_n hx hb dX3_loopAndPortCodes_190 rfl (lv_at hl 0 rfl) ?_
      refine va_get (D := D) (ci := 3) (v := .ref q4) (C := RX3) (T := TX3) (N := 8) hx hb hts i_X3 hown hK hP 0 rfl rfl 1 (by decide) f_21 (fun _ h9 => h9) rfl dX3_loopAndPortCodes_191 ?_
      refine lv_iconst (v := (2 : Int32)) hx hb dX3_loopAndPortCodes_194 (by decide) ?_
      refine cl_Vi (As := [.int (2 : Int32)]) (rest := [.ref q0]) (st := [.int (2 : Int32), .ref q4, .ref q0]) S hK hA hP hD hS (fr_P_R u) (kcX4_word l D cB cI q4 q5 q6 H.size (2 : Int32) (p_regs u) _ hw) (cwV 1 hts gX3_loopAndPortCodes_X4_word rfl rfl rfl (by decide +kernel) ⟨Nat.le_of_ble_eq_true rfl, Nat.le_of_ble_eq_true rfl⟩) tru_h tru_b 4 rfl rfl rfl rfl rfl hl.1 (Nat.le_of_ble_eq_true rfl) dX3_loopAndPortCodes_195 ⟨Nat.zero_le _, Nat.zero_le _⟩ (fun r32 u31 H locs hP hD hS hw => ?_)
      replace hP : va_P D vwCl (WP cB cI q0 q1 q2 q3 q4 q5 q6 q7 q8 q9 (ps_regs u u31)) H := hP
      replace hD : va_D A (WP cB cI q0 q1 q2 q3 q4 q5 q6 q7 q8 q9 (ps_regs u u31)) := hD
      exact b198 r32 (ps_regs u u31) H locs ls hP hD hS (lv_sub hl [] rfl) hw
    · replace hw := hw.2 c30
      refine lv_aload_n hx hb dX3_loopAndPortCodes_180 rfl (lv_at hl 0 rfl) ?_
      refine va_get (D := D) (ci := 3) (v := .ref q8) (C := RX3) (T := TX3) (N := 8) hx hb hts i_X3 hown hK hP 0 rfl rfl 3 (by decide) f_35 (fun _ h9 => h9) rfl dX3_loopAndPortCodes_181 ?_
      refine va_get (D := D) (ci := 1) (v := .int (c_first (p_code u))) (C := RX1) (T := TX1) (N := 12) hx hb hts i_X1 hown hK hP 8 rfl rfl 9 (by decide) f_83 (fun _ h9 => h9) rfl dX3_loopAndPortCodes_184 ?_
      refine lv_goto (tgt := 198) hx hb dX3_loopAndPortCodes_187 (by decide) ?_
      exact b198 (c_first (p_code u)) u H locs ls hP hD hS (lv_sub hl [] rfl) hw
  have b92 : ∀ (s1 : Int32) (u : SP) (H : Heap) (locs : List Loc) (ls : Array Slot), va_P D vwCl (WP cB cI q0 q1 q2 q3 q4 q5 q6 q7 q8 q9 u) H → va_D A (WP cB cI q0 q1 q2 q3 q4 q5 q6 q7 q8 q9 u) → va_S A s.heap H locs → lv_has ls 1 [] → wX3_loopAndPortCodes_b92  P s1 u → W p l e ({ frames := 4, cells := 0, slots := 0, locals := 84 } : Room) s m ([.ref q0] : List Value).toArray below meth c H locs 0 0 (MQ below (va_Qv P (fun u t => va_P D vwCl (WP cB cI q0 q1 q2 q3 q4 q5 q6 q7 q8 q9 u) t.heap) A) ([.ref q0] : List Value).toArray s 0 0 A) (F0 m 92 ls [.int s1, .ref q0]) := by
    intro s1 u H locs ls hP hD hS hl hw
    unfold wX3_loopAndPortCodes_b92 at hw
    refine cl_Vv (As := [.int s1]) (rest := []) (st := [.int s1, .ref q0]) S hK hA hP hD hS (fr_P u) (kcX3_jumpIf l D cB cI q0 q1 q2 q3 q4 q5 q6 q7 q8 q9 H.size s1 u _ hw) (cwV 1 hts gX3_loopAndPortCodes_X3_jumpIf rfl rfl rfl (by decide +kernel) ⟨Nat.le_of_ble_eq_true rfl, Nat.le_of_ble_eq_true rfl⟩) tru_h tru_b 0 rfl rfl rfl rfl rfl hl.1 (Nat.le_of_ble_eq_true rfl) dX3_loopAndPortCodes_92 ⟨Nat.zero_le _, Nat.zero_le _⟩ (fun u28 H locs hP hD hS hw => ?_)
    replace hP : va_P D vwCl (WP cB cI q0 q1 q2 q3 q4 q5 q6 q7 q8 q9 u28) H := hP
    replace hD : va_D A (WP cB cI q0 q1 q2 q3 q4 q5 q6 q7 q8 q9 u28) := hD
    refine lv_goto (tgt := 201) hx hb dX3_loopAndPortCodes_95 (by decide) ?_
    exact rt_v (wo := (fun v => WP cB cI q0 q1 q2 q3 q4 q5 q6 q7 q8 q9 v)) S hr hlk u28 hP hS hw dX3_loopAndPortCodes_201
  have b68 : ∀  (u : SP) (H : Heap) (locs : List Loc) (ls : Array Slot), va_P D vwCl (WP cB cI q0 q1 q2 q3 q4 q5 q6 q7 q8 q9 u) H → va_D A (WP cB cI q0 q1 q2 q3 q4 q5 q6 q7 q8 q9 u) → va_S A s.heap H locs → lv_has ls 1 [(0, .ref q0)] → wX3_loopAndPortCodes_b68  P u → W p l e ({ frames := 4, cells := 0, slots := 0, locals := 84 } : Room) s m ([.ref q0] : List Value).toArray below meth c H locs 0 0 (MQ below (va_Qv P (fun u t => va_P D vwCl (WP cB cI q0 q1 q2 q3 q4 q5 q6 q7 q8 q9 u) t.heap) A) ([.ref q0] : List Value).toArray s 0 0 A) (F0 m 68 ls []) := by
    intro u H locs ls hP hD hS hl hw
    unfold wX3_loopAndPortCodes_b68 at hw
    refine lv_aload_n hx hb dX3_loopAndPortCodes_68 rfl (lv_at hl 0 rfl) ?_
    refine cl_Vv (As := []) (rest := []) (st := [.ref q0]) S hK hA hP hD hS (fr_P u) (kcX3_loop l D cB cI q0 q1 q2 q3 q4 q5 q6 q7 q8 q9 H.size  u _ hw) (cwV 0 hts gX3_loopAndPortCodes_X3_loop rfl rfl rfl (by decide +kernel) ⟨Nat.le_of_ble_eq_true rfl, Nat.le_of_ble_eq_true rfl⟩) tru_h tru_b 0 rfl rfl rfl rfl rfl hl.1 (Nat.le_of_ble_eq_true rfl) dX3_loopAndPortCodes_69 ⟨Nat.zero_le _, Nat.zero_le _⟩ (fun u26 H locs hP hD hS hw => ?_)
    replace hP : va_P D vwCl (WP cB cI q0 q1 q2 q3 q4 q5 q6 q7 q8 q9 u26) H := hP
    replace hD : va_D A (WP cB cI q0 q1 q2 q3 q4 q5 q6 q7 q8 q9 u26) := hD
    refine lv_goto (tgt := 201) hx hb dX3_loopAndPortCodes_72 (by decide) ?_
    exact rt_v (wo := (fun v => WP cB cI q0 q1 q2 q3 q4 q5 q6 q7 q8 q9 v)) S hr hlk u26 hP hS hw dX3_loopAndPortCodes_201
  unfold wX3_loopAndPortCodes at hw
  obtain ⟨H, eH⟩ : ∃ H, H = s.heap := ⟨_, rfl⟩
  obtain ⟨locs, eL⟩ : ∃ locs : List Loc, locs = [] := ⟨_, rfl⟩
  replace hP : va_P D vwCl (WP cB cI q0 q1 q2 q3 q4 q5 q6 q7 q8 q9 u) H := by rw [eH]; exact hP
  replace hS : va_S A s.heap H locs := by rw [eH, eL]; exact hS
  suffices hgo : W p l e ({ frames := 4, cells := 0, slots := 0, locals := 84 } : Room) s m ([.ref q0] : List Value).toArray below meth c H locs 0 0 (MQ below (va_Qv P (fun u t => va_P D vwCl (WP cB cI q0 q1 q2 q3 q4 q5 q6 q7 q8 q9 u) t.heap) A) ([.ref q0] : List Value).toArray s 0 0 A) (F0 m 0 ls []) by rw [eH, eL] at hgo; exact hgo
  clear eH eL
  refine lv_aload_n hx hb dX3_loopAndPortCodes_0 rfl (lv_at hl 0 rfl) ?_
  refine va_get (D := D) (ci := 3) (v := .ref q8) (C := RX3) (T := TX3) (N := 8) hx hb hts i_X3 hown hK hP 0 rfl rfl 3 (by decide) f_35 (fun _ h9 => h9) rfl dX3_loopAndPortCodes_1 ?_
  refine va_get (D := D) (ci := 1) (v := .int (c_number (p_code u))) (C := RX1) (T := TX1) (N := 12) hx hb hts i_X1 hown hK hP 8 rfl rfl 1 (by decide) f_47 (fun _ h9 => h9) rfl dX3_loopAndPortCodes_4 ?_
  by_cases c1 : (c_number (p_code u)) = (224 : Int32)
  · replace hw := hw.1 c1
    refine lv_tableIn (off := 61) (tgt := 68) hx hb dX3_loopAndPortCodes_7 (by rw [c1]; decide) (by rw [c1]; decide) (by rw [c1]; rfl) (by decide) ?_
    exact b68 u H locs ls hP hD hS (lv_sub hl [0] rfl) hw
  replace hw := hw.2 c1
  by_cases c2 : (c_number (p_code u)) = (225 : Int32)
  · replace hw := hw.1 c2
    refine lv_tableIn (off := 61) (tgt := 68) hx hb dX3_loopAndPortCodes_7 (by rw [c2]; decide) (by rw [c2]; decide) (by rw [c2]; rfl) (by decide) ?_
    exact b68 u H locs ls hP hD hS (lv_sub hl [0] rfl) hw
  replace hw := hw.2 c2
  by_cases c3 : (c_number (p_code u)) = (226 : Int32)
  · replace hw := hw.1 c3
    refine lv_tableIn (off := 61) (tgt := 68) hx hb dX3_loopAndPortCodes_7 (by rw [c3]; decide) (by rw [c3]; decide) (by rw [c3]; rfl) (by decide) ?_
    exact b68 u H locs ls hP hD hS (lv_sub hl [0] rfl) hw
  replace hw := hw.2 c3
  by_cases c4 : (c_number (p_code u)) = (227 : Int32)
  · replace hw := hw.1 c4
    refine lv_tableIn (off := 68) (tgt := 75) hx hb dX3_loopAndPortCodes_7 (by rw [c4]; decide) (by rw [c4]; decide) (by rw [c4]; rfl) (by decide) ?_
    refine lv_aload_n hx hb dX3_loopAndPortCodes_75 rfl (lv_at hl 0 rfl) ?_
    refine lv_aload_n hx hb dX3_loopAndPortCodes_76 rfl (lv_at hl 0 rfl) ?_
    refine va_get (D := D) (ci := 3) (v := .ref q4) (C := RX3) (T := TX3) (N := 8) hx hb hts i_X3 hown hK hP 0 rfl rfl 1 (by decide) f_21 (fun _ h9 => h9) rfl dX3_loopAndPortCodes_77 ?_
    refine lv_iconst (v := (1 : Int32)) hx hb dX3_loopAndPortCodes_80 (by decide) ?_
    refine cl_Vi (As := [.int (1 : Int32)]) (rest := [.ref q0]) (st := [.int (1 : Int32), .ref q4, .ref q0]) S hK hA hP hD hS (fr_P_R u) (kcX4_word l D cB cI q4 q5 q6 H.size (1 : Int32) (p_regs u) _ hw) (cwV 1 hts gX3_loopAndPortCodes_X4_word rfl rfl rfl (by decide +kernel) ⟨Nat.le_of_ble_eq_true rfl, Nat.le_of_ble_eq_true rfl⟩) tru_h tru_b 4 rfl rfl rfl rfl rfl hl.1 (Nat.le_of_ble_eq_true rfl) dX3_loopAndPortCodes_81 ⟨Nat.zero_le _, Nat.zero_le _⟩ (fun r6 u5 H locs hP hD hS hw => ?_)
    replace hP : va_P D vwCl (WP cB cI q0 q1 q2 q3 q4 q5 q6 q7 q8 q9 (ps_regs u u5)) H := hP
    replace hD : va_D A (WP cB cI q0 q1 q2 q3 q4 q5 q6 q7 q8 q9 (ps_regs u u5)) := hD
    refine lv_if_ne (tgt := 91) hx hb dX3_loopAndPortCodes_84 (by decide) (fun c7 => ?_) (fun c7 => ?_)
    · replace hw := hw.2 c7
      refine lv_iconst (v := (0 : Int32)) hx hb dX3_loopAndPortCodes_91 (by decide) ?_
      exact b92 (0 : Int32) (ps_regs u u5) H locs ls hP hD hS (lv_sub hl [] rfl) hw
    · replace hw := hw.1 c7
      refine lv_iconst (v := (1 : Int32)) hx hb dX3_loopAndPortCodes_87 (by decide) ?_
      refine lv_goto (tgt := 92) hx hb dX3_loopAndPortCodes_88 (by decide) ?_
      exact b92 (1 : Int32) (ps_regs u u5) H locs ls hP hD hS (lv_sub hl [] rfl) hw
  replace hw := hw.2 c4
  by_cases c8 : (c_number (p_code u)) = (228 : Int32)
  · replace hw := hw.1 c8
    refine lv_tableIn (off := 159) (tgt := 166) hx hb dX3_loopAndPortCodes_7 (by rw [c8]; decide) (by rw [c8]; decide) (by rw [c8]; rfl) (by decide) ?_
    exact b166 u H locs ls hP hD hS (lv_sub hl [0] rfl) hw
  replace hw := hw.2 c8
  by_cases c9 : (c_number (p_code u)) = (229 : Int32)
  · replace hw := hw.1 c9
    refine lv_tableIn (off := 159) (tgt := 166) hx hb dX3_loopAndPortCodes_7 (by rw [c9]; decide) (by rw [c9]; decide) (by rw [c9]; rfl) (by decide) ?_
    exact b166 u H locs ls hP hD hS (lv_sub hl [0] rfl) hw
  replace hw := hw.2 c9
  by_cases c10 : (c_number (p_code u)) = (230 : Int32)
  · replace hw := hw.1 c10
    refine lv_tableIn (off := 159) (tgt := 166) hx hb dX3_loopAndPortCodes_7 (by rw [c10]; decide) (by rw [c10]; decide) (by rw [c10]; rfl) (by decide) ?_
    exact b166 u H locs ls hP hD hS (lv_sub hl [0] rfl) hw
  replace hw := hw.2 c10
  by_cases c11 : (c_number (p_code u)) = (231 : Int32)
  · replace hw := hw.1 c11
    refine lv_tableIn (off := 159) (tgt := 166) hx hb dX3_loopAndPortCodes_7 (by rw [c11]; decide) (by rw [c11]; decide) (by rw [c11]; rfl) (by decide) ?_
    exact b166 u H locs ls hP hD hS (lv_sub hl [0] rfl) hw
  replace hw := hw.2 c11
  by_cases c12 : (c_number (p_code u)) = (232 : Int32)
  · replace hw := hw.1 c12
    refine lv_tableIn (off := 91) (tgt := 98) hx hb dX3_loopAndPortCodes_7 (by rw [c12]; decide) (by rw [c12]; decide) (by rw [c12]; rfl) (by decide) ?_
    refine lv_aload_n hx hb dX3_loopAndPortCodes_98 rfl (lv_at hl 0 rfl) ?_
    refine lv_aload_n hx hb dX3_loopAndPortCodes_99 rfl (lv_at hl 0 rfl) ?_
    refine va_get (D := D) (ci := 3) (v := .ref q4) (C := RX3) (T := TX3) (N := 8) hx hb hts i_X3 hown hK hP 0 rfl rfl 1 (by decide) f_21 (fun _ h9 => h9) rfl dX3_loopAndPortCodes_100 ?_
    refine va_get (D := D) (ci := 4) (v := .int (r_ip (p_regs u))) (C := RX4) (T := TX4) (N := 3) hx hb hts i_X4 hown hK hP 4 rfl rfl 2 (by decide) f_121 (fun _ h9 => h9) rfl dX3_loopAndPortCodes_103 ?_
    refine cl_Vv (As := [.int (r_ip (p_regs u))]) (rest := []) (st := [.int (r_ip (p_regs u)), .ref q0]) S hK hA hP hD hS (fr_P u) (kcX3_push l D cB cI q0 q1 q2 q3 q4 q5 q6 q7 q8 q9 H.size (r_ip (p_regs u)) u _ hw) (cwV 1 hts gX3_loopAndPortCodes_X3_push rfl rfl rfl (by decide +kernel) ⟨Nat.le_of_ble_eq_true rfl, Nat.le_of_ble_eq_true rfl⟩) tru_h tru_b 0 rfl rfl rfl rfl rfl hl.1 (Nat.le_of_ble_eq_true rfl) dX3_loopAndPortCodes_106 ⟨Nat.zero_le _, Nat.zero_le _⟩ (fun u13 H locs hP hD hS hw => ?_)
    replace hP : va_P D vwCl (WP cB cI q0 q1 q2 q3 q4 q5 q6 q7 q8 q9 u13) H := hP
    replace hD : va_D A (WP cB cI q0 q1 q2 q3 q4 q5 q6 q7 q8 q9 u13) := hD
    refine lv_aload_n hx hb dX3_loopAndPortCodes_109 rfl (lv_at hl 0 rfl) ?_
    refine lv_aload_n hx hb dX3_loopAndPortCodes_110 rfl (lv_at hl 0 rfl) ?_
    refine va_get (D := D) (ci := 3) (v := .ref q8) (C := RX3) (T := TX3) (N := 8) hx hb hts i_X3 hown hK hP 0 rfl rfl 3 (by decide) f_35 (fun _ h9 => h9) rfl dX3_loopAndPortCodes_111 ?_
    refine va_get (D := D) (ci := 1) (v := .int (c_first (p_code u13))) (C := RX1) (T := TX1) (N := 12) hx hb hts i_X1 hown hK hP 8 rfl rfl 9 (by decide) f_83 (fun _ h9 => h9) rfl dX3_loopAndPortCodes_114 ?_
    refine cl_Vv (As := [.int (c_first (p_code u13))]) (rest := []) (st := [.int (c_first (p_code u13)), .ref q0]) S hK hA hP hD hS (fr_P u13) (kcX3_jump l D cB cI q0 q1 q2 q3 q4 q5 q6 q7 q8 q9 H.size (c_first (p_code u13)) u13 _ hw) (cwV 1 hts gX3_loopAndPortCodes_X3_jump rfl rfl rfl (by decide +kernel) ⟨Nat.le_of_ble_eq_true rfl, Nat.le_of_ble_eq_true rfl⟩) tru_h tru_b 0 rfl rfl rfl rfl rfl hl.1 (Nat.le_of_ble_eq_true rfl) dX3_loopAndPortCodes_117 ⟨Nat.zero_le _, Nat.zero_le _⟩ (fun u15 H locs hP hD hS hw => ?_)
    replace hP : va_P D vwCl (WP cB cI q0 q1 q2 q3 q4 q5 q6 q7 q8 q9 u15) H := hP
    replace hD : va_D A (WP cB cI q0 q1 q2 q3 q4 q5 q6 q7 q8 q9 u15) := hD
    refine lv_goto (tgt := 201) hx hb dX3_loopAndPortCodes_120 (by decide) ?_
    exact rt_v (wo := (fun v => WP cB cI q0 q1 q2 q3 q4 q5 q6 q7 q8 q9 v)) S hr hlk u15 hP hS hw dX3_loopAndPortCodes_201
  replace hw := hw.2 c12
  by_cases c17 : (c_number (p_code u)) = (233 : Int32)
  · replace hw := hw.1 c17
    refine lv_tableIn (off := 116) (tgt := 123) hx hb dX3_loopAndPortCodes_7 (by rw [c17]; decide) (by rw [c17]; decide) (by rw [c17]; rfl) (by decide) ?_
    refine lv_aload_n hx hb dX3_loopAndPortCodes_123 rfl (lv_at hl 0 rfl) ?_
    refine lv_aload_n hx hb dX3_loopAndPortCodes_124 rfl (lv_at hl 0 rfl) ?_
    refine va_get (D := D) (ci := 3) (v := .ref q8) (C := RX3) (T := TX3) (N := 8) hx hb hts i_X3 hown hK hP 0 rfl rfl 3 (by decide) f_35 (fun _ h9 => h9) rfl dX3_loopAndPortCodes_125 ?_
    refine va_get (D := D) (ci := 1) (v := .int (c_first (p_code u))) (C := RX1) (T := TX1) (N := 12) hx hb hts i_X1 hown hK hP 8 rfl rfl 9 (by decide) f_83 (fun _ h9 => h9) rfl dX3_loopAndPortCodes_128 ?_
    refine cl_Vv (As := [.int (c_first (p_code u))]) (rest := []) (st := [.int (c_first (p_code u)), .ref q0]) S hK hA hP hD hS (fr_P u) (kcX3_jump l D cB cI q0 q1 q2 q3 q4 q5 q6 q7 q8 q9 H.size (c_first (p_code u)) u _ hw) (cwV 1 hts gX3_loopAndPortCodes_X3_jump rfl rfl rfl (by decide +kernel) ⟨Nat.le_of_ble_eq_true rfl, Nat.le_of_ble_eq_true rfl⟩) tru_h tru_b 0 rfl rfl rfl rfl rfl hl.1 (Nat.le_of_ble_eq_true rfl) dX3_loopAndPortCodes_131 ⟨Nat.zero_le _, Nat.zero_le _⟩ (fun u18 H locs hP hD hS hw => ?_)
    replace hP : va_P D vwCl (WP cB cI q0 q1 q2 q3 q4 q5 q6 q7 q8 q9 u18) H := hP
    replace hD : va_D A (WP cB cI q0 q1 q2 q3 q4 q5 q6 q7 q8 q9 u18) := hD
    refine lv_goto (tgt := 201) hx hb dX3_loopAndPortCodes_134 (by decide) ?_
    exact rt_v (wo := (fun v => WP cB cI q0 q1 q2 q3 q4 q5 q6 q7 q8 q9 v)) S hr hlk u18 hP hS hw dX3_loopAndPortCodes_201
  replace hw := hw.2 c17
  by_cases c20 : (c_number (p_code u)) = (234 : Int32)
  · replace hw := hw.1 c20
    refine lv_tableIn (off := 130) (tgt := 137) hx hb dX3_loopAndPortCodes_7 (by rw [c20]; decide) (by rw [c20]; decide) (by rw [c20]; rfl) (by decide) ?_
    refine lv_aload_n hx hb dX3_loopAndPortCodes_137 rfl (lv_at hl 0 rfl) ?_
    refine lv_aload_n hx hb dX3_loopAndPortCodes_138 rfl (lv_at hl 0 rfl) ?_
    refine va_get (D := D) (ci := 3) (v := .ref q8) (C := RX3) (T := TX3) (N := 8) hx hb hts i_X3 hown hK hP 0 rfl rfl 3 (by decide) f_35 (fun _ h9 => h9) rfl dX3_loopAndPortCodes_139 ?_
    refine va_get (D := D) (ci := 1) (v := .int (c_first (p_code u))) (C := RX1) (T := TX1) (N := 12) hx hb hts i_X1 hown hK hP 8 rfl rfl 9 (by decide) f_83 (fun _ h9 => h9) rfl dX3_loopAndPortCodes_142 ?_
    refine lv_aload_n hx hb dX3_loopAndPortCodes_145 rfl (lv_at hl 0 rfl) ?_
    refine va_get (D := D) (ci := 3) (v := .ref q8) (C := RX3) (T := TX3) (N := 8) hx hb hts i_X3 hown hK hP 0 rfl rfl 3 (by decide) f_35 (fun _ h9 => h9) rfl dX3_loopAndPortCodes_146 ?_
    refine va_get (D := D) (ci := 1) (v := .int (c_second (p_code u))) (C := RX1) (T := TX1) (N := 12) hx hb hts i_X1 hown hK hP 8 rfl rfl 10 (by decide) f_221 (fun _ h9 => h9) rfl dX3_loopAndPortCodes_149 ?_
    refine cl_Vv (As := [.int (c_first (p_code u)), .int (c_second (p_code u))]) (rest := []) (st := [.int (c_second (p_code u)), .int (c_first (p_code u)), .ref q0]) S hK hA hP hD hS (fr_P u) (kcX3_jumpFar l D cB cI q0 q1 q2 q3 q4 q5 q6 q7 q8 q9 H.size (c_first (p_code u)) (c_second (p_code u)) u _ hw) (cwV 2 hts gX3_loopAndPortCodes_X3_jumpFar rfl rfl rfl (by decide +kernel) ⟨Nat.le_of_ble_eq_true rfl, Nat.le_of_ble_eq_true rfl⟩) tru_h tru_b 0 rfl rfl rfl rfl rfl hl.1 (Nat.le_of_ble_eq_true rfl) dX3_loopAndPortCodes_152 ⟨Nat.zero_le _, Nat.zero_le _⟩ (fun u21 H locs hP hD hS hw => ?_)
    replace hP : va_P D vwCl (WP cB cI q0 q1 q2 q3 q4 q5 q6 q7 q8 q9 u21) H := hP
    replace hD : va_D A (WP cB cI q0 q1 q2 q3 q4 q5 q6 q7 q8 q9 u21) := hD
    refine lv_goto (tgt := 201) hx hb dX3_loopAndPortCodes_155 (by decide) ?_
    exact rt_v (wo := (fun v => WP cB cI q0 q1 q2 q3 q4 q5 q6 q7 q8 q9 v)) S hr hlk u21 hP hS hw dX3_loopAndPortCodes_201
  replace hw := hw.2 c20
  by_cases c23 : (c_number (p_code u)) = (235 : Int32)
  · replace hw := hw.1 c23
    refine lv_tableIn (off := 151) (tgt := 158) hx hb dX3_loopAndPortCodes_7 (by rw [c23]; decide) (by rw [c23]; decide) (by rw [c23]; rfl) (by decide) ?_
    refine lv_aload_n hx hb dX3_loopAndPortCodes_158 rfl (lv_at hl 0 rfl) ?_
    refine lv_iconst (v := (1 : Int32)) hx hb dX3_loopAndPortCodes_159 (by decide) ?_
    refine cl_Vv (As := [.int (1 : Int32)]) (rest := []) (st := [.int (1 : Int32), .ref q0]) S hK hA hP hD hS (fr_P u) (kcX3_jumpIf l D cB cI q0 q1 q2 q3 q4 q5 q6 q7 q8 q9 H.size (1 : Int32) u _ hw) (cwV 1 hts gX3_loopAndPortCodes_X3_jumpIf rfl rfl rfl (by decide +kernel) ⟨Nat.le_of_ble_eq_true rfl, Nat.le_of_ble_eq_true rfl⟩) tru_h tru_b 0 rfl rfl rfl rfl rfl hl.1 (Nat.le_of_ble_eq_true rfl) dX3_loopAndPortCodes_160 ⟨Nat.zero_le _, Nat.zero_le _⟩ (fun u24 H locs hP hD hS hw => ?_)
    replace hP : va_P D vwCl (WP cB cI q0 q1 q2 q3 q4 q5 q6 q7 q8 q9 u24) H := hP
    replace hD : va_D A (WP cB cI q0 q1 q2 q3 q4 q5 q6 q7 q8 q9 u24) := hD
    refine lv_goto (tgt := 201) hx hb dX3_loopAndPortCodes_163 (by decide) ?_
    exact rt_v (wo := (fun v => WP cB cI q0 q1 q2 q3 q4 q5 q6 q7 q8 q9 v)) S hr hlk u24 hP hS hw dX3_loopAndPortCodes_201
  replace hw := hw.2 c23
  refine lv_tableOut (tgt := 166) hx hb dX3_loopAndPortCodes_7 (by have e_c1 : ¬ ((c_number (p_code u)) : Int32).toInt = 224 := sw_ne c1; have e_c2 : ¬ ((c_number (p_code u)) : Int32).toInt = 225 := sw_ne c2; have e_c3 : ¬ ((c_number (p_code u)) : Int32).toInt = 226 := sw_ne c3; have e_c4 : ¬ ((c_number (p_code u)) : Int32).toInt = 227 := sw_ne c4; have e_c8 : ¬ ((c_number (p_code u)) : Int32).toInt = 228 := sw_ne c8; have e_c9 : ¬ ((c_number (p_code u)) : Int32).toInt = 229 := sw_ne c9; have e_c10 : ¬ ((c_number (p_code u)) : Int32).toInt = 230 := sw_ne c10; have e_c11 : ¬ ((c_number (p_code u)) : Int32).toInt = 231 := sw_ne c11; have e_c12 : ¬ ((c_number (p_code u)) : Int32).toInt = 232 := sw_ne c12; have e_c17 : ¬ ((c_number (p_code u)) : Int32).toInt = 233 := sw_ne c17; have e_c20 : ¬ ((c_number (p_code u)) : Int32).toInt = 234 := sw_ne c20; have e_c23 : ¬ ((c_number (p_code u)) : Int32).toInt = 235 := sw_ne c23; omega) (by decide) ?_
  exact b166 u H locs ls hP hD hS (lv_sub hl [0] rfl) hw
-- X3_exchangeE
def wX3_exchangeE (a1 : Int32) (u : SP) (P : SP → Prop) : Prop := (wX3_e a1 u (fun r2 u1 => (wX4_value (c_r (p_code u1)) a1 (p_regs u1) (fun r4 u3 => (wX3_giveE r4 a1 (ps_regs u1 u3) (fun u5 => (wX4_give (c_r (p_code u5)) r2 a1 (p_regs u5) (fun u7 => (P (ps_regs u5 u7))))))))))
set_option maxHeartbeats 4000000 in
set_option maxRecDepth 100000 in
theorem kcX3_exchangeE (l : Launch) (D : va_G) (cB cI : ClassId) (q0 q1 q2 q3 q4 q5 q6 q7 q8 q9 : Nat) (sz : Nat) (a1 : Int32) (u : SP) (P : SP → Prop) (hw : wX3_exchangeE a1 u P) : Met l yX3_exchangeE wsX3_exchangeE ({ frames := 3, cells := 0, slots := 0, locals := 69 } : Room) (va_Pc [.ref q0, .int a1] (Pcw D (tyA cB cI) (WP cB cI q0 q1 q2 q3 q4 q5 q6 q7 q8 q9 u) sz Tru)) (va_Qv P (fun u t => va_P D vwCl (WP cB cI q0 q1 q2 q3 q4 q5 q6 q7 q8 q9 u) t.heap) (va_A (WP cB cI q0 q1 q2 q3 q4 q5 q6 q7 q8 q9 u) sz)) 0 0 (va_A (WP cB cI q0 q1 q2 q3 q4 q5 q6 q7 q8 q9 u) sz) := by
  refine en_ (cc := cX3_exchangeE) (maxL := 3) (ret := none) (own := RX3) (lv := [(0, .ref q0), (1, .int a1)]) (Qf := fun A => va_Qv P (fun u t => va_P D vwCl (WP cB cI q0 q1 q2 q3 q4 q5 q6 q7 q8 q9 u) t.heap) A) (by decide) rfl rfl (Nat.le_of_ble_eq_true rfl) rfl ?_
  intro p e s m below meth c A ls S hr hlk hname hsz hP hK hD hA hSub hS hE hl
  have hx := S.1
  have hb := S.2.1
  have hown := S.2.2.2.1
  have hts := S.2.2.2.2
  have i_X1 : ∀ w ∈ u_ws RX1 TX1 12, w ∈ wsX3_exchangeE := by decide +kernel
  have i_X3 : ∀ w ∈ u_ws RX3 TX3 8, w ∈ wsX3_exchangeE := by decide +kernel
  have f_21 := hts (.fieldLink RX3 21 "MachineCore$Processor" "registers" "LMachineCore$Registers;") (by decide +kernel)
  have f_35 := hts (.fieldLink RX3 35 "MachineCore$Processor" "code" "LMachineCore$Code;") (by decide +kernel)
  have f_191 := hts (.fieldLink RX3 191 "MachineCore$Code" "r" "I") (by decide +kernel)
  unfold wX3_exchangeE at hw
  obtain ⟨H, eH⟩ : ∃ H, H = s.heap := ⟨_, rfl⟩
  obtain ⟨locs, eL⟩ : ∃ locs : List Loc, locs = [] := ⟨_, rfl⟩
  replace hP : va_P D vwCl (WP cB cI q0 q1 q2 q3 q4 q5 q6 q7 q8 q9 u) H := by rw [eH]; exact hP
  replace hS : va_S A s.heap H locs := by rw [eH, eL]; exact hS
  suffices hgo : W p l e ({ frames := 3, cells := 0, slots := 0, locals := 69 } : Room) s m ([.ref q0, .int a1] : List Value).toArray below meth c H locs 0 0 (MQ below (va_Qv P (fun u t => va_P D vwCl (WP cB cI q0 q1 q2 q3 q4 q5 q6 q7 q8 q9 u) t.heap) A) ([.ref q0, .int a1] : List Value).toArray s 0 0 A) (F0 m 0 ls []) by rw [eH, eL] at hgo; exact hgo
  clear eH eL
  refine lv_aload_n hx hb dX3_exchangeE_0 rfl (lv_at hl 0 rfl) ?_
  refine lv_iload_n hx hb dX3_exchangeE_1 rfl (lv_at hl 1 rfl) ?_
  refine cl_Vi (As := [.int a1]) (rest := []) (st := [.int a1, .ref q0]) S hK hA hP hD hS (fr_P u) (kcX3_e l D cB cI q0 q1 q2 q3 q4 q5 q6 q7 q8 q9 H.size a1 u _ hw) (cwV 1 hts gX3_exchangeE_X3_e rfl rfl rfl (by decide +kernel) ⟨Nat.le_of_ble_eq_true rfl, Nat.le_of_ble_eq_true rfl⟩) tru_h tru_b 0 rfl rfl rfl rfl rfl hl.1 (Nat.le_of_ble_eq_true rfl) dX3_exchangeE_2 ⟨Nat.zero_le _, Nat.zero_le _⟩ (fun r2 u1 H locs hP hD hS hw => ?_)
  replace hP : va_P D vwCl (WP cB cI q0 q1 q2 q3 q4 q5 q6 q7 q8 q9 u1) H := hP
  replace hD : va_D A (WP cB cI q0 q1 q2 q3 q4 q5 q6 q7 q8 q9 u1) := hD
  refine lv_istore_n (lv' := [(2, .int r2), (0, .ref q0), (1, .int a1)]) hx hb dX3_exchangeE_5 rfl hl (by decide) rfl (fun ls hl => ?_)
  refine lv_aload_n hx hb dX3_exchangeE_6 rfl (lv_at hl 1 rfl) ?_
  refine lv_aload_n hx hb dX3_exchangeE_7 rfl (lv_at hl 1 rfl) ?_
  refine va_get (D := D) (ci := 3) (v := .ref q4) (C := RX3) (T := TX3) (N := 8) hx hb hts i_X3 hown hK hP 0 rfl rfl 1 (by decide) f_21 (fun _ h9 => h9) rfl dX3_exchangeE_8 ?_
  refine lv_aload_n hx hb dX3_exchangeE_11 rfl (lv_at hl 1 rfl) ?_
  refine va_get (D := D) (ci := 3) (v := .ref q8) (C := RX3) (T := TX3) (N := 8) hx hb hts i_X3 hown hK hP 0 rfl rfl 3 (by decide) f_35 (fun _ h9 => h9) rfl dX3_exchangeE_12 ?_
  refine va_get (D := D) (ci := 1) (v := .int (c_r (p_code u1))) (C := RX1) (T := TX1) (N := 12) hx hb hts i_X1 hown hK hP 8 rfl rfl 5 (by decide) f_191 (fun _ h9 => h9) rfl dX3_exchangeE_15 ?_
  refine lv_iload_n hx hb dX3_exchangeE_18 rfl (lv_at hl 2 rfl) ?_
  refine cl_Vi (As := [.int (c_r (p_code u1)), .int a1]) (rest := [.ref q0]) (st := [.int a1, .int (c_r (p_code u1)), .ref q4, .ref q0]) S hK hA hP hD hS (fr_P_R u1) (kcX4_value l D cB cI q4 q5 q6 H.size (c_r (p_code u1)) a1 (p_regs u1) _ hw) (cwV 2 hts gX3_exchangeE_X4_value rfl rfl rfl (by decide +kernel) ⟨Nat.le_of_ble_eq_true rfl, Nat.le_of_ble_eq_true rfl⟩) tru_h tru_b 4 rfl rfl rfl rfl rfl hl.1 (Nat.le_of_ble_eq_true rfl) dX3_exchangeE_19 ⟨Nat.zero_le _, Nat.zero_le _⟩ (fun r4 u3 H locs hP hD hS hw => ?_)
  replace hP : va_P D vwCl (WP cB cI q0 q1 q2 q3 q4 q5 q6 q7 q8 q9 (ps_regs u1 u3)) H := hP
  replace hD : va_D A (WP cB cI q0 q1 q2 q3 q4 q5 q6 q7 q8 q9 (ps_regs u1 u3)) := hD
  refine lv_iload_n hx hb dX3_exchangeE_22 rfl (lv_at hl 2 rfl) ?_
  refine cl_Vv (As := [.int r4, .int a1]) (rest := []) (st := [.int a1, .int r4, .ref q0]) S hK hA hP hD hS (fr_P (ps_regs u1 u3)) (kcX3_giveE l D cB cI q0 q1 q2 q3 q4 q5 q6 q7 q8 q9 H.size r4 a1 (ps_regs u1 u3) _ hw) (cwV 2 hts gX3_exchangeE_X3_giveE rfl rfl rfl (by decide +kernel) ⟨Nat.le_of_ble_eq_true rfl, Nat.le_of_ble_eq_true rfl⟩) tru_h tru_b 0 rfl rfl rfl rfl rfl hl.1 (Nat.le_of_ble_eq_true rfl) dX3_exchangeE_23 ⟨Nat.zero_le _, Nat.zero_le _⟩ (fun u5 H locs hP hD hS hw => ?_)
  replace hP : va_P D vwCl (WP cB cI q0 q1 q2 q3 q4 q5 q6 q7 q8 q9 u5) H := hP
  replace hD : va_D A (WP cB cI q0 q1 q2 q3 q4 q5 q6 q7 q8 q9 u5) := hD
  refine lv_aload_n hx hb dX3_exchangeE_26 rfl (lv_at hl 1 rfl) ?_
  refine va_get (D := D) (ci := 3) (v := .ref q4) (C := RX3) (T := TX3) (N := 8) hx hb hts i_X3 hown hK hP 0 rfl rfl 1 (by decide) f_21 (fun _ h9 => h9) rfl dX3_exchangeE_27 ?_
  refine lv_aload_n hx hb dX3_exchangeE_30 rfl (lv_at hl 1 rfl) ?_
  refine va_get (D := D) (ci := 3) (v := .ref q8) (C := RX3) (T := TX3) (N := 8) hx hb hts i_X3 hown hK hP 0 rfl rfl 3 (by decide) f_35 (fun _ h9 => h9) rfl dX3_exchangeE_31 ?_
  refine va_get (D := D) (ci := 1) (v := .int (c_r (p_code u5))) (C := RX1) (T := TX1) (N := 12) hx hb hts i_X1 hown hK hP 8 rfl rfl 5 (by decide) f_191 (fun _ h9 => h9) rfl dX3_exchangeE_34 ?_
  refine lv_iload_n hx hb dX3_exchangeE_37 rfl (lv_at hl 0 rfl) ?_
  refine lv_iload_n hx hb dX3_exchangeE_38 rfl (lv_at hl 2 rfl) ?_
  refine cl_Vv (As := [.int (c_r (p_code u5)), .int r2, .int a1]) (rest := []) (st := [.int a1, .int r2, .int (c_r (p_code u5)), .ref q4]) S hK hA hP hD hS (fr_P_R u5) (kcX4_give l D cB cI q4 q5 q6 H.size (c_r (p_code u5)) r2 a1 (p_regs u5) _ hw) (cwV 3 hts gX3_exchangeE_X4_give rfl rfl rfl (by decide +kernel) ⟨Nat.le_of_ble_eq_true rfl, Nat.le_of_ble_eq_true rfl⟩) tru_h tru_b 4 rfl rfl rfl rfl rfl hl.1 (Nat.le_of_ble_eq_true rfl) dX3_exchangeE_39 ⟨Nat.zero_le _, Nat.zero_le _⟩ (fun u7 H locs hP hD hS hw => ?_)
  replace hP : va_P D vwCl (WP cB cI q0 q1 q2 q3 q4 q5 q6 q7 q8 q9 (ps_regs u5 u7)) H := hP
  replace hD : va_D A (WP cB cI q0 q1 q2 q3 q4 q5 q6 q7 q8 q9 (ps_regs u5 u7)) := hD
  exact rt_v (wo := (fun v => WP cB cI q0 q1 q2 q3 q4 q5 q6 q7 q8 q9 v)) S hr hlk (ps_regs u5 u7) hP hS hw dX3_exchangeE_42
-- X3_operateE
def wX3_operateE (a1 : Int32) (a2 : Int32) (a3 : Int32) (u : SP) (P : SP → Prop) : Prop := (wX3_e a3 u (fun r2 u1 => (wX0_operation a1 r2 a2 a3 (p_flags u1) (fun r4 u3 => ((a1 = (7 : Int32) → (P (ps_flags u1 u3))) ∧ (¬ a1 = (7 : Int32) → ((a1 = (8 : Int32) → (P (ps_flags u1 u3))) ∧ (¬ a1 = (8 : Int32) → (wX3_giveE r4 a3 (ps_flags u1 u3) (fun u7 => (P u7)))))))))))
set_option maxHeartbeats 4000000 in
set_option maxRecDepth 100000 in
theorem kcX3_operateE (l : Launch) (D : va_G) (cB cI : ClassId) (q0 q1 q2 q3 q4 q5 q6 q7 q8 q9 : Nat) (sz : Nat) (a1 : Int32) (a2 : Int32) (a3 : Int32) (u : SP) (P : SP → Prop) (hw : wX3_operateE a1 a2 a3 u P) : Met l yX3_operateE wsX3_operateE ({ frames := 4, cells := 0, slots := 0, locals := 96 } : Room) (va_Pc [.ref q0, .int a1, .int a2, .int a3] (Pcw D (tyA cB cI) (WP cB cI q0 q1 q2 q3 q4 q5 q6 q7 q8 q9 u) sz Tru)) (va_Qv P (fun u t => va_P D vwCl (WP cB cI q0 q1 q2 q3 q4 q5 q6 q7 q8 q9 u) t.heap) (va_A (WP cB cI q0 q1 q2 q3 q4 q5 q6 q7 q8 q9 u) sz)) 0 0 (va_A (WP cB cI q0 q1 q2 q3 q4 q5 q6 q7 q8 q9 u) sz) := by
  refine en_ (cc := cX3_operateE) (maxL := 5) (ret := none) (own := RX3) (lv := [(0, .ref q0), (1, .int a1), (2, .int a2), (3, .int a3)]) (Qf := fun A => va_Qv P (fun u t => va_P D vwCl (WP cB cI q0 q1 q2 q3 q4 q5 q6 q7 q8 q9 u) t.heap) A) (by decide) rfl rfl (Nat.le_of_ble_eq_true rfl) rfl ?_
  intro p e s m below meth c A ls S hr hlk hname hsz hP hK hD hA hSub hS hE hl
  have hx := S.1
  have hb := S.2.1
  have hown := S.2.2.2.1
  have hts := S.2.2.2.2
  have i_X3 : ∀ w ∈ u_ws RX3 TX3 8, w ∈ wsX3_operateE := by decide +kernel
  have f_28 := hts (.fieldLink RX3 28 "MachineCore$Processor" "arithmetic" "LMachineCore$Arithmetic;") (by decide +kernel)
  unfold wX3_operateE at hw
  obtain ⟨H, eH⟩ : ∃ H, H = s.heap := ⟨_, rfl⟩
  obtain ⟨locs, eL⟩ : ∃ locs : List Loc, locs = [] := ⟨_, rfl⟩
  replace hP : va_P D vwCl (WP cB cI q0 q1 q2 q3 q4 q5 q6 q7 q8 q9 u) H := by rw [eH]; exact hP
  replace hS : va_S A s.heap H locs := by rw [eH, eL]; exact hS
  suffices hgo : W p l e ({ frames := 4, cells := 0, slots := 0, locals := 96 } : Room) s m ([.ref q0, .int a1, .int a2, .int a3] : List Value).toArray below meth c H locs 0 0 (MQ below (va_Qv P (fun u t => va_P D vwCl (WP cB cI q0 q1 q2 q3 q4 q5 q6 q7 q8 q9 u) t.heap) A) ([.ref q0, .int a1, .int a2, .int a3] : List Value).toArray s 0 0 A) (F0 m 0 ls []) by rw [eH, eL] at hgo; exact hgo
  clear eH eL
  refine lv_aload_n hx hb dX3_operateE_0 rfl (lv_at hl 0 rfl) ?_
  refine va_get (D := D) (ci := 3) (v := .ref q7) (C := RX3) (T := TX3) (N := 8) hx hb hts i_X3 hown hK hP 0 rfl rfl 2 (by decide) f_28 (fun _ h9 => h9) rfl dX3_operateE_1 ?_
  refine lv_iload_n hx hb dX3_operateE_4 rfl (lv_at hl 1 rfl) ?_
  refine lv_aload_n hx hb dX3_operateE_5 rfl (lv_at hl 0 rfl) ?_
  refine lv_iload_n hx hb dX3_operateE_6 rfl (lv_at hl 3 rfl) ?_
  refine cl_Vi (As := [.int a3]) (rest := [.int a1, .ref q7]) (st := [.int a3, .ref q0, .int a1, .ref q7]) S hK hA hP hD hS (fr_P u) (kcX3_e l D cB cI q0 q1 q2 q3 q4 q5 q6 q7 q8 q9 H.size a3 u _ hw) (cwV 1 hts gX3_operateE_X3_e rfl rfl rfl (by decide +kernel) ⟨Nat.le_of_ble_eq_true rfl, Nat.le_of_ble_eq_true rfl⟩) tru_h tru_b 0 rfl rfl rfl rfl rfl hl.1 (Nat.le_of_ble_eq_true rfl) dX3_operateE_7 ⟨Nat.zero_le _, Nat.zero_le _⟩ (fun r2 u1 H locs hP hD hS hw => ?_)
  replace hP : va_P D vwCl (WP cB cI q0 q1 q2 q3 q4 q5 q6 q7 q8 q9 u1) H := hP
  replace hD : va_D A (WP cB cI q0 q1 q2 q3 q4 q5 q6 q7 q8 q9 u1) := hD
  refine lv_iload_n hx hb dX3_operateE_10 rfl (lv_at hl 2 rfl) ?_
  refine lv_iload_n hx hb dX3_operateE_11 rfl (lv_at hl 3 rfl) ?_
  refine cl_Vi (As := [.int a1, .int r2, .int a2, .int a3]) (rest := []) (st := [.int a3, .int a2, .int r2, .int a1, .ref q7]) S hK hA hP hD hS (fr_P_A u1) (kcX0_operation l D cB cI q7 H.size a1 r2 a2 a3 (p_flags u1) _ hw) (cwV 4 hts gX3_operateE_X0_operation rfl rfl rfl (by decide +kernel) ⟨Nat.le_of_ble_eq_true rfl, Nat.le_of_ble_eq_true rfl⟩) tru_h tru_b 7 rfl rfl rfl rfl rfl hl.1 (Nat.le_of_ble_eq_true rfl) dX3_operateE_12 ⟨Nat.zero_le _, Nat.zero_le _⟩ (fun r4 u3 H locs hP hD hS hw => ?_)
  replace hP : va_P D vwCl (WP cB cI q0 q1 q2 q3 q4 q5 q6 q7 q8 q9 (ps_flags u1 u3)) H := hP
  replace hD : va_D A (WP cB cI q0 q1 q2 q3 q4 q5 q6 q7 q8 q9 (ps_flags u1 u3)) := hD
  refine lv_istore (lv' := [(4, .int r4), (0, .ref q0), (1, .int a1), (2, .int a2), (3, .int a3)]) hx hb dX3_operateE_15 hl (by decide) rfl (fun ls hl => ?_)
  refine lv_iload_n hx hb dX3_operateE_17 rfl (lv_at hl 2 rfl) ?_
  refine lv_bipush (v := (7 : Int32)) hx hb dX3_operateE_18 (by decide) ?_
  refine lv_icmp_eq (tgt := 36) hx hb dX3_operateE_20 (by decide) (fun c5 => ?_) (fun c5 => ?_)
  · replace hw := hw.1 c5
    exact rt_v (wo := (fun v => WP cB cI q0 q1 q2 q3 q4 q5 q6 q7 q8 q9 v)) S hr hlk (ps_flags u1 u3) hP hS hw dX3_operateE_36
  · replace hw := hw.2 c5
    refine lv_iload_n hx hb dX3_operateE_23 rfl (lv_at hl 2 rfl) ?_
    refine lv_bipush (v := (8 : Int32)) hx hb dX3_operateE_24 (by decide) ?_
    refine lv_icmp_eq (tgt := 36) hx hb dX3_operateE_26 (by decide) (fun c6 => ?_) (fun c6 => ?_)
    · replace hw := hw.1 c6
      exact rt_v (wo := (fun v => WP cB cI q0 q1 q2 q3 q4 q5 q6 q7 q8 q9 v)) S hr hlk (ps_flags u1 u3) hP hS hw dX3_operateE_36
    · replace hw := hw.2 c6
      refine lv_aload_n hx hb dX3_operateE_29 rfl (lv_at hl 1 rfl) ?_
      refine lv_iload hx hb dX3_operateE_30 (lv_at hl 0 rfl) ?_
      refine lv_iload_n hx hb dX3_operateE_32 rfl (lv_at hl 4 rfl) ?_
      refine cl_Vv (As := [.int r4, .int a3]) (rest := []) (st := [.int a3, .int r4, .ref q0]) S hK hA hP hD hS (fr_P (ps_flags u1 u3)) (kcX3_giveE l D cB cI q0 q1 q2 q3 q4 q5 q6 q7 q8 q9 H.size r4 a3 (ps_flags u1 u3) _ hw) (cwV 2 hts gX3_operateE_X3_giveE rfl rfl rfl (by decide +kernel) ⟨Nat.le_of_ble_eq_true rfl, Nat.le_of_ble_eq_true rfl⟩) tru_h tru_b 0 rfl rfl rfl rfl rfl hl.1 (Nat.le_of_ble_eq_true rfl) dX3_operateE_33 ⟨Nat.zero_le _, Nat.zero_le _⟩ (fun u7 H locs hP hD hS hw => ?_)
      replace hP : va_P D vwCl (WP cB cI q0 q1 q2 q3 q4 q5 q6 q7 q8 q9 u7) H := hP
      replace hD : va_D A (WP cB cI q0 q1 q2 q3 q4 q5 q6 q7 q8 q9 u7) := hD
      exact rt_v (wo := (fun v => WP cB cI q0 q1 q2 q3 q4 q5 q6 q7 q8 q9 v)) S hr hlk u7 hP hS hw dX3_operateE_36
-- X3_operandCodes
def wX3_operandCodes_b195  (P : SP → Prop) (x1 : Int32) (u : SP) : Prop := (wX3_e x1 u (fun r49 u48 => (wX4_give (c_r (p_code u)) r49 x1 (p_regs u48) (fun u50 => (P (ps_regs u48 u50))))))
def wX3_operandCodes_b172  (P : SP → Prop) (x1 : Int32) (u : SP) : Prop := (wX4_value (c_r (p_code u)) x1 (p_regs u) (fun r45 u44 => (wX3_giveE r45 x1 (ps_regs u u44) (fun u46 => (P u46)))))
def wX3_operandCodes_b164  (P : SP → Prop) (x1 : Int32) (u : SP) : Prop := (wX3_exchangeE x1 u (fun u42 => (P u42)))
def wX3_operandCodes_b139  (P : SP → Prop) (x1 : Int32) (u : SP) : Prop := (wX4_value (c_r (p_code u)) x1 (p_regs u) (fun r39 u38 => (wX3_operateE (8 : Int32) r39 x1 (ps_regs u u38) (fun u40 => (P u40)))))
def wX3_operandCodes_b88  (P : SP → Prop) (x1 : Int32) (u : SP) : Prop := (wX3_operateE (c_r (p_code u)) (c_first (p_code u)) x1 u (fun u36 => (P u36)))
def wX3_operandCodes  (u : SP) (P : SP → Prop) : Prop := (wX1_wide  (p_code u) (fun r2 u1 => (((c_number u1) = (128 : Int32) → (wX3_operandCodes_b88  P r2 (ps_code u u1))) ∧ (¬ (c_number u1) = (128 : Int32) → (((c_number u1) = (129 : Int32) → (wX3_operandCodes_b88  P r2 (ps_code u u1))) ∧ (¬ (c_number u1) = (129 : Int32) → (((c_number u1) = (130 : Int32) → (wX3_operandCodes_b88  P r2 (ps_code u u1))) ∧ (¬ (c_number u1) = (130 : Int32) → (((c_number u1) = (131 : Int32) → (wX0_signed (c_first u1) (0 : Int32) () (fun r8 u7 => (wX3_operateE (c_r u1) (r8 &&& (65535 : Int32)) (1 : Int32) (ps_code u u1) (fun u9 => (P u9)))))) ∧ (¬ (c_number u1) = (131 : Int32) → (((c_number u1) = (132 : Int32) → (wX3_operandCodes_b139  P r2 (ps_code u u1))) ∧ (¬ (c_number u1) = (132 : Int32) → (((c_number u1) = (133 : Int32) → (wX3_operandCodes_b139  P r2 (ps_code u u1))) ∧ (¬ (c_number u1) = (133 : Int32) → (((c_number u1) = (134 : Int32) → (wX3_operandCodes_b164  P r2 (ps_code u u1))) ∧ (¬ (c_number u1) = (134 : Int32) → (((c_number u1) = (135 : Int32) → (wX3_operandCodes_b164  P r2 (ps_code u u1))) ∧ (¬ (c_number u1) = (135 : Int32) → (((c_number u1) = (136 : Int32) → (wX3_operandCodes_b172  P r2 (ps_code u u1))) ∧ (¬ (c_number u1) = (136 : Int32) → (((c_number u1) = (137 : Int32) → (wX3_operandCodes_b172  P r2 (ps_code u u1))) ∧ (¬ (c_number u1) = (137 : Int32) → (((c_number u1) = (138 : Int32) → (wX3_operandCodes_b195  P r2 (ps_code u u1))) ∧ (¬ (c_number u1) = (138 : Int32) → (((c_number u1) = (139 : Int32) → (wX3_operandCodes_b195  P r2 (ps_code u u1))) ∧ (¬ (c_number u1) = (139 : Int32) → (((c_number u1) = (140 : Int32) → (wX4_segment (c_r u1) (p_regs u) (fun r21 u20 => (wX3_giveE r21 (1 : Int32) (ps_code (ps_regs u u20) u1) (fun u22 => (P u22)))))) ∧ (¬ (c_number u1) = (140 : Int32) → (((c_number u1) = (141 : Int32) → (wX4_setWord (c_r u1) (c_offset u1) (p_regs u) (fun u25 => (P (ps_code (ps_regs u u25) u1))))) ∧ (¬ (c_number u1) = (141 : Int32) → (((c_number u1) = (142 : Int32) → (wX3_e (1 : Int32) (ps_code u u1) (fun r29 u28 => (wX4_setSegment (c_r u1) r29 (p_regs u28) (fun u30 => (P (ps_regs u28 u30))))))) ∧ (¬ (c_number u1) = (142 : Int32) → (wX3_pop  (ps_code u u1) (fun r33 u32 => (wX3_giveE r33 (1 : Int32) u32 (fun u34 => (P u34)))))))))))))))))))))))))))))))))))))
set_option maxHeartbeats 4000000 in
set_option maxRecDepth 100000 in
theorem kcX3_operandCodes (l : Launch) (D : va_G) (cB cI : ClassId) (q0 q1 q2 q3 q4 q5 q6 q7 q8 q9 : Nat) (sz : Nat)  (u : SP) (P : SP → Prop) (hw : wX3_operandCodes  u P) : Met l yX3_operandCodes wsX3_operandCodes ({ frames := 5, cells := 0, slots := 0, locals := 120 } : Room) (va_Pc [.ref q0] (Pcw D (tyA cB cI) (WP cB cI q0 q1 q2 q3 q4 q5 q6 q7 q8 q9 u) sz Tru)) (va_Qv P (fun u t => va_P D vwCl (WP cB cI q0 q1 q2 q3 q4 q5 q6 q7 q8 q9 u) t.heap) (va_A (WP cB cI q0 q1 q2 q3 q4 q5 q6 q7 q8 q9 u) sz)) 0 0 (va_A (WP cB cI q0 q1 q2 q3 q4 q5 q6 q7 q8 q9 u) sz) := by
  refine en_ (cc := cX3_operandCodes) (maxL := 2) (ret := none) (own := RX3) (lv := [(0, .ref q0)]) (Qf := fun A => va_Qv P (fun u t => va_P D vwCl (WP cB cI q0 q1 q2 q3 q4 q5 q6 q7 q8 q9 u) t.heap) A) (by decide) rfl rfl (Nat.le_of_ble_eq_true rfl) rfl ?_
  intro p e s m below meth c A ls S hr hlk hname hsz hP hK hD hA hSub hS hE hl
  have hx := S.1
  have hb := S.2.1
  have hown := S.2.2.2.1
  have hts := S.2.2.2.2
  have i_X1 : ∀ w ∈ u_ws RX1 TX1 12, w ∈ wsX3_operandCodes := by decide +kernel
  have i_X3 : ∀ w ∈ u_ws RX3 TX3 8, w ∈ wsX3_operandCodes := by decide +kernel
  have f_21 := hts (.fieldLink RX3 21 "MachineCore$Processor" "registers" "LMachineCore$Registers;") (by decide +kernel)
  have f_35 := hts (.fieldLink RX3 35 "MachineCore$Processor" "code" "LMachineCore$Code;") (by decide +kernel)
  have f_47 := hts (.fieldLink RX3 47 "MachineCore$Code" "number" "I") (by decide +kernel)
  have f_83 := hts (.fieldLink RX3 83 "MachineCore$Code" "first" "I") (by decide +kernel)
  have f_165 := hts (.fieldLink RX3 165 "MachineCore$Code" "offset" "I") (by decide +kernel)
  have f_191 := hts (.fieldLink RX3 191 "MachineCore$Code" "r" "I") (by decide +kernel)
  have k_217 := hts (.constant RX3 217 (65535)) (by decide +kernel)
  have b195 : ∀ (x1 : Int32) (u : SP) (H : Heap) (locs : List Loc) (ls : Array Slot), va_P D vwCl (WP cB cI q0 q1 q2 q3 q4 q5 q6 q7 q8 q9 u) H → va_D A (WP cB cI q0 q1 q2 q3 q4 q5 q6 q7 q8 q9 u) → va_S A s.heap H locs → lv_has ls 2 [(0, .ref q0), (1, .int x1)] → wX3_operandCodes_b195  P x1 u → W p l e ({ frames := 5, cells := 0, slots := 0, locals := 120 } : Room) s m ([.ref q0] : List Value).toArray below meth c H locs 0 0 (MQ below (va_Qv P (fun u t => va_P D vwCl (WP cB cI q0 q1 q2 q3 q4 q5 q6 q7 q8 q9 u) t.heap) A) ([.ref q0] : List Value).toArray s 0 0 A) (F0 m 195 ls []) := by
    intro x1 u H locs ls hP hD hS hl hw
    unfold wX3_operandCodes_b195 at hw
    refine lv_aload_n hx hb dX3_operandCodes_195 rfl (lv_at hl 0 rfl) ?_
    refine va_get (D := D) (ci := 3) (v := .ref q4) (C := RX3) (T := TX3) (N := 8) hx hb hts i_X3 hown hK hP 0 rfl rfl 1 (by decide) f_21 (fun _ h9 => h9) rfl dX3_operandCodes_196 ?_
    refine lv_aload_n hx hb dX3_operandCodes_199 rfl (lv_at hl 0 rfl) ?_
    refine va_get (D := D) (ci := 3) (v := .ref q8) (C := RX3) (T := TX3) (N := 8) hx hb hts i_X3 hown hK hP 0 rfl rfl 3 (by decide) f_35 (fun _ h9 => h9) rfl dX3_operandCodes_200 ?_
    refine va_get (D := D) (ci := 1) (v := .int (c_r (p_code u))) (C := RX1) (T := TX1) (N := 12) hx hb hts i_X1 hown hK hP 8 rfl rfl 5 (by decide) f_191 (fun _ h9 => h9) rfl dX3_operandCodes_203 ?_
    refine lv_aload_n hx hb dX3_operandCodes_206 rfl (lv_at hl 0 rfl) ?_
    refine lv_iload_n hx hb dX3_operandCodes_207 rfl (lv_at hl 1 rfl) ?_
    refine cl_Vi (As := [.int x1]) (rest := [.int (c_r (p_code u)), .ref q4]) (st := [.int x1, .ref q0, .int (c_r (p_code u)), .ref q4]) S hK hA hP hD hS (fr_P u) (kcX3_e l D cB cI q0 q1 q2 q3 q4 q5 q6 q7 q8 q9 H.size x1 u _ hw) (cwV 1 hts gX3_operandCodes_X3_e rfl rfl rfl (by decide +kernel) ⟨Nat.le_of_ble_eq_true rfl, Nat.le_of_ble_eq_true rfl⟩) tru_h tru_b 0 rfl rfl rfl rfl rfl hl.1 (Nat.le_of_ble_eq_true rfl) dX3_operandCodes_208 ⟨Nat.zero_le _, Nat.zero_le _⟩ (fun r49 u48 H locs hP hD hS hw => ?_)
    replace hP : va_P D vwCl (WP cB cI q0 q1 q2 q3 q4 q5 q6 q7 q8 q9 u48) H := hP
    replace hD : va_D A (WP cB cI q0 q1 q2 q3 q4 q5 q6 q7 q8 q9 u48) := hD
    refine lv_iload_n hx hb dX3_operandCodes_211 rfl (lv_at hl 1 rfl) ?_
    refine cl_Vv (As := [.int (c_r (p_code u)), .int r49, .int x1]) (rest := []) (st := [.int x1, .int r49, .int (c_r (p_code u)), .ref q4]) S hK hA hP hD hS (fr_P_R u48) (kcX4_give l D cB cI q4 q5 q6 H.size (c_r (p_code u)) r49 x1 (p_regs u48) _ hw) (cwV 3 hts gX3_operandCodes_X4_give rfl rfl rfl (by decide +kernel) ⟨Nat.le_of_ble_eq_true rfl, Nat.le_of_ble_eq_true rfl⟩) tru_h tru_b 4 rfl rfl rfl rfl rfl hl.1 (Nat.le_of_ble_eq_true rfl) dX3_operandCodes_212 ⟨Nat.zero_le _, Nat.zero_le _⟩ (fun u50 H locs hP hD hS hw => ?_)
    replace hP : va_P D vwCl (WP cB cI q0 q1 q2 q3 q4 q5 q6 q7 q8 q9 (ps_regs u48 u50)) H := hP
    replace hD : va_D A (WP cB cI q0 q1 q2 q3 q4 q5 q6 q7 q8 q9 (ps_regs u48 u50)) := hD
    refine lv_goto (tgt := 295) hx hb dX3_operandCodes_215 (by decide) ?_
    exact rt_v (wo := (fun v => WP cB cI q0 q1 q2 q3 q4 q5 q6 q7 q8 q9 v)) S hr hlk (ps_regs u48 u50) hP hS hw dX3_operandCodes_295
  have b172 : ∀ (x1 : Int32) (u : SP) (H : Heap) (locs : List Loc) (ls : Array Slot), va_P D vwCl (WP cB cI q0 q1 q2 q3 q4 q5 q6 q7 q8 q9 u) H → va_D A (WP cB cI q0 q1 q2 q3 q4 q5 q6 q7 q8 q9 u) → va_S A s.heap H locs → lv_has ls 2 [(0, .ref q0), (1, .int x1)] → wX3_operandCodes_b172  P x1 u → W p l e ({ frames := 5, cells := 0, slots := 0, locals := 120 } : Room) s m ([.ref q0] : List Value).toArray below meth c H locs 0 0 (MQ below (va_Qv P (fun u t => va_P D vwCl (WP cB cI q0 q1 q2 q3 q4 q5 q6 q7 q8 q9 u) t.heap) A) ([.ref q0] : List Value).toArray s 0 0 A) (F0 m 172 ls []) := by
    intro x1 u H locs ls hP hD hS hl hw
    unfold wX3_operandCodes_b172 at hw
    refine lv_aload_n hx hb dX3_operandCodes_172 rfl (lv_at hl 0 rfl) ?_
    refine lv_aload_n hx hb dX3_operandCodes_173 rfl (lv_at hl 0 rfl) ?_
    refine va_get (D := D) (ci := 3) (v := .ref q4) (C := RX3) (T := TX3) (N := 8) hx hb hts i_X3 hown hK hP 0 rfl rfl 1 (by decide) f_21 (fun _ h9 => h9) rfl dX3_operandCodes_174 ?_
    refine lv_aload_n hx hb dX3_operandCodes_177 rfl (lv_at hl 0 rfl) ?_
    refine va_get (D := D) (ci := 3) (v := .ref q8) (C := RX3) (T := TX3) (N := 8) hx hb hts i_X3 hown hK hP 0 rfl rfl 3 (by decide) f_35 (fun _ h9 => h9) rfl dX3_operandCodes_178 ?_
    refine va_get (D := D) (ci := 1) (v := .int (c_r (p_code u))) (C := RX1) (T := TX1) (N := 12) hx hb hts i_X1 hown hK hP 8 rfl rfl 5 (by decide) f_191 (fun _ h9 => h9) rfl dX3_operandCodes_181 ?_
    refine lv_iload_n hx hb dX3_operandCodes_184 rfl (lv_at hl 1 rfl) ?_
    refine cl_Vi (As := [.int (c_r (p_code u)), .int x1]) (rest := [.ref q0]) (st := [.int x1, .int (c_r (p_code u)), .ref q4, .ref q0]) S hK hA hP hD hS (fr_P_R u) (kcX4_value l D cB cI q4 q5 q6 H.size (c_r (p_code u)) x1 (p_regs u) _ hw) (cwV 2 hts gX3_operandCodes_X4_value rfl rfl rfl (by decide +kernel) ⟨Nat.le_of_ble_eq_true rfl, Nat.le_of_ble_eq_true rfl⟩) tru_h tru_b 4 rfl rfl rfl rfl rfl hl.1 (Nat.le_of_ble_eq_true rfl) dX3_operandCodes_185 ⟨Nat.zero_le _, Nat.zero_le _⟩ (fun r45 u44 H locs hP hD hS hw => ?_)
    replace hP : va_P D vwCl (WP cB cI q0 q1 q2 q3 q4 q5 q6 q7 q8 q9 (ps_regs u u44)) H := hP
    replace hD : va_D A (WP cB cI q0 q1 q2 q3 q4 q5 q6 q7 q8 q9 (ps_regs u u44)) := hD
    refine lv_iload_n hx hb dX3_operandCodes_188 rfl (lv_at hl 1 rfl) ?_
    refine cl_Vv (As := [.int r45, .int x1]) (rest := []) (st := [.int x1, .int r45, .ref q0]) S hK hA hP hD hS (fr_P (ps_regs u u44)) (kcX3_giveE l D cB cI q0 q1 q2 q3 q4 q5 q6 q7 q8 q9 H.size r45 x1 (ps_regs u u44) _ hw) (cwV 2 hts gX3_operandCodes_X3_giveE rfl rfl rfl (by decide +kernel) ⟨Nat.le_of_ble_eq_true rfl, Nat.le_of_ble_eq_true rfl⟩) tru_h tru_b 0 rfl rfl rfl rfl rfl hl.1 (Nat.le_of_ble_eq_true rfl) dX3_operandCodes_189 ⟨Nat.zero_le _, Nat.zero_le _⟩ (fun u46 H locs hP hD hS hw => ?_)
    replace hP : va_P D vwCl (WP cB cI q0 q1 q2 q3 q4 q5 q6 q7 q8 q9 u46) H := hP
    replace hD : va_D A (WP cB cI q0 q1 q2 q3 q4 q5 q6 q7 q8 q9 u46) := hD
    refine lv_goto (tgt := 295) hx hb dX3_operandCodes_192 (by decide) ?_
    exact rt_v (wo := (fun v => WP cB cI q0 q1 q2 q3 q4 q5 q6 q7 q8 q9 v)) S hr hlk u46 hP hS hw dX3_operandCodes_295
  have b164 : ∀ (x1 : Int32) (u : SP) (H : Heap) (locs : List Loc) (ls : Array Slot), va_P D vwCl (WP cB cI q0 q1 q2 q3 q4 q5 q6 q7 q8 q9 u) H → va_D A (WP cB cI q0 q1 q2 q3 q4 q5 q6 q7 q8 q9 u) → va_S A s.heap H locs → lv_has ls 2 [(0, .ref q0), (1, .int x1)] → wX3_operandCodes_b164  P x1 u → W p l e ({ frames := 5, cells := 0, slots := 0, locals := 120 } : Room) s m ([.ref q0] : List Value).toArray below meth c H locs 0 0 (MQ below (va_Qv P (fun u t => va_P D vwCl (WP cB cI q0 q1 q2 q3 q4 q5 q6 q7 q8 q9 u) t.heap) A) ([.ref q0] : List Value).toArray s 0 0 A) (F0 m 164 ls []) := by
    intro x1 u H locs ls hP hD hS hl hw
    unfold wX3_operandCodes_b164 at hw
    refine lv_aload_n hx hb dX3_operandCodes_164 rfl (lv_at hl 0 rfl) ?_
    refine lv_iload_n hx hb dX3_operandCodes_165 rfl (lv_at hl 1 rfl) ?_
    refine cl_Vv (As := [.int x1]) (rest := []) (st := [.int x1, .ref q0]) S hK hA hP hD hS (fr_P u) (kcX3_exchangeE l D cB cI q0 q1 q2 q3 q4 q5 q6 q7 q8 q9 H.size x1 u _ hw) (cwV 1 hts gX3_operandCodes_X3_exchangeE rfl rfl rfl (by decide +kernel) ⟨Nat.le_of_ble_eq_true rfl, Nat.le_of_ble_eq_true rfl⟩) tru_h tru_b 0 rfl rfl rfl rfl rfl hl.1 (Nat.le_of_ble_eq_true rfl) dX3_operandCodes_166 ⟨Nat.zero_le _, Nat.zero_le _⟩ (fun u42 H locs hP hD hS hw => ?_)
    replace hP : va_P D vwCl (WP cB cI q0 q1 q2 q3 q4 q5 q6 q7 q8 q9 u42) H := hP
    replace hD : va_D A (WP cB cI q0 q1 q2 q3 q4 q5 q6 q7 q8 q9 u42) := hD
    refine lv_goto (tgt := 295) hx hb dX3_operandCodes_169 (by decide) ?_
    exact rt_v (wo := (fun v => WP cB cI q0 q1 q2 q3 q4 q5 q6 q7 q8 q9 v)) S hr hlk u42 hP hS hw dX3_operandCodes_295
  have b139 : ∀ (x1 : Int32) (u : SP) (H : Heap) (locs : List Loc) (ls : Array Slot), va_P D vwCl (WP cB cI q0 q1 q2 q3 q4 q5 q6 q7 q8 q9 u) H → va_D A (WP cB cI q0 q1 q2 q3 q4 q5 q6 q7 q8 q9 u) → va_S A s.heap H locs → lv_has ls 2 [(0, .ref q0), (1, .int x1)] → wX3_operandCodes_b139  P x1 u → W p l e ({ frames := 5, cells := 0, slots := 0, locals := 120 } : Room) s m ([.ref q0] : List Value).toArray below meth c H locs 0 0 (MQ below (va_Qv P (fun u t => va_P D vwCl (WP cB cI q0 q1 q2 q3 q4 q5 q6 q7 q8 q9 u) t.heap) A) ([.ref q0] : List Value).toArray s 0 0 A) (F0 m 139 ls []) := by
    intro x1 u H locs ls hP hD hS hl hw
    unfold wX3_operandCodes_b139 at hw
    refine lv_aload_n hx hb dX3_operandCodes_139 rfl (lv_at hl 0 rfl) ?_
    refine lv_bipush (v := (8 : Int32)) hx hb dX3_operandCodes_140 (by decide) ?_
    refine lv_aload_n hx hb dX3_operandCodes_142 rfl (lv_at hl 0 rfl) ?_
    refine va_get (D := D) (ci := 3) (v := .ref q4) (C := RX3) (T := TX3) (N := 8) hx hb hts i_X3 hown hK hP 0 rfl rfl 1 (by decide) f_21 (fun _ h9 => h9) rfl dX3_operandCodes_143 ?_
    refine lv_aload_n hx hb dX3_operandCodes_146 rfl (lv_at hl 0 rfl) ?_
    refine va_get (D := D) (ci := 3) (v := .ref q8) (C := RX3) (T := TX3) (N := 8) hx hb hts i_X3 hown hK hP 0 rfl rfl 3 (by decide) f_35 (fun _ h9 => h9) rfl dX3_operandCodes_147 ?_
    refine va_get (D := D) (ci := 1) (v := .int (c_r (p_code u))) (C := RX1) (T := TX1) (N := 12) hx hb hts i_X1 hown hK hP 8 rfl rfl 5 (by decide) f_191 (fun _ h9 => h9) rfl dX3_operandCodes_150 ?_
    refine lv_iload_n hx hb dX3_operandCodes_153 rfl (lv_at hl 1 rfl) ?_
    refine cl_Vi (As := [.int (c_r (p_code u)), .int x1]) (rest := [.int (8 : Int32), .ref q0]) (st := [.int x1, .int (c_r (p_code u)), .ref q4, .int (8 : Int32), .ref q0]) S hK hA hP hD hS (fr_P_R u) (kcX4_value l D cB cI q4 q5 q6 H.size (c_r (p_code u)) x1 (p_regs u) _ hw) (cwV 2 hts gX3_operandCodes_X4_value rfl rfl rfl (by decide +kernel) ⟨Nat.le_of_ble_eq_true rfl, Nat.le_of_ble_eq_true rfl⟩) tru_h tru_b 4 rfl rfl rfl rfl rfl hl.1 (Nat.le_of_ble_eq_true rfl) dX3_operandCodes_154 ⟨Nat.zero_le _, Nat.zero_le _⟩ (fun r39 u38 H locs hP hD hS hw => ?_)
    replace hP : va_P D vwCl (WP cB cI q0 q1 q2 q3 q4 q5 q6 q7 q8 q9 (ps_regs u u38)) H := hP
    replace hD : va_D A (WP cB cI q0 q1 q2 q3 q4 q5 q6 q7 q8 q9 (ps_regs u u38)) := hD
    refine lv_iload_n hx hb dX3_operandCodes_157 rfl (lv_at hl 1 rfl) ?_
    refine cl_Vv (As := [.int (8 : Int32), .int r39, .int x1]) (rest := []) (st := [.int x1, .int r39, .int (8 : Int32), .ref q0]) S hK hA hP hD hS (fr_P (ps_regs u u38)) (kcX3_operateE l D cB cI q0 q1 q2 q3 q4 q5 q6 q7 q8 q9 H.size (8 : Int32) r39 x1 (ps_regs u u38) _ hw) (cwV 3 hts gX3_operandCodes_X3_operateE rfl rfl rfl (by decide +kernel) ⟨Nat.le_of_ble_eq_true rfl, Nat.le_of_ble_eq_true rfl⟩) tru_h tru_b 0 rfl rfl rfl rfl rfl hl.1 (Nat.le_of_ble_eq_true rfl) dX3_operandCodes_158 ⟨Nat.zero_le _, Nat.zero_le _⟩ (fun u40 H locs hP hD hS hw => ?_)
    replace hP : va_P D vwCl (WP cB cI q0 q1 q2 q3 q4 q5 q6 q7 q8 q9 u40) H := hP
    replace hD : va_D A (WP cB cI q0 q1 q2 q3 q4 q5 q6 q7 q8 q9 u40) := hD
    refine lv_goto (tgt := 295) hx hb dX3_operandCodes_161 (by decide) ?_
    exact rt_v (wo := (fun v => WP cB cI q0 q1 q2 q3 q4 q5 q6 q7 q8 q9 v)) S hr hlk u40 hP hS hw dX3_operandCodes_295
  have b88 : ∀ (x1 : Int32) (u : SP) (H : Heap) (locs : List Loc) (ls : Array Slot), va_P D vwCl (WP cB cI q0 q1 q2 q3 q4 q5 q6 q7 q8 q9 u) H → va_D A (WP cB cI q0 q1 q2 q3 q4 q5 q6 q7 q8 q9 u) → va_S A s.heap H locs → lv_has ls 2 [(0, .ref q0), (1, .int x1)] → wX3_operandCodes_b88  P x1 u → W p l e ({ frames := 5, cells := 0, slots := 0, locals := 120 } : Room) s m ([.ref q0] : List Value).toArray below meth c H locs 0 0 (MQ below (va_Qv P (fun u t => va_P D vwCl (WP cB cI q0 q1 q2 q3 q4 q5 q6 q7 q8 q9 u) t.heap) A) ([.ref q0] : List Value).toArray s 0 0 A) (F0 m 88 ls []) := by
    intro x1 u H locs ls hP hD hS hl hw
    unfold wX3_operandCodes_b88 at hw
    refine lv_aload_n hx hb dX3_operandCodes_88 rfl (lv_at hl 0 rfl) ?_
    refine lv_aload_n hx hb dX3_operandCodes_89 rfl (lv_at hl 0 rfl) ?_
    refine va_get (D := D) (ci := 3) (v := .ref q8) (C := RX3) (T := TX3) (N := 8) hx hb hts i_X3 hown hK hP 0 rfl rfl 3 (by decide) f_35 (fun _ h9 => h9) rfl dX3_operandCodes_90 ?_
    refine va_get (D := D) (ci := 1) (v := .int (c_r (p_code u))) (C := RX1) (T := TX1) (N := 12) hx hb hts i_X1 hown hK hP 8 rfl rfl 5 (by decide) f_191 (fun _ h9 => h9) rfl dX3_operandCodes_93 ?_
    refine lv_aload_n hx hb dX3_operandCodes_96 rfl (lv_at hl 0 rfl) ?_
    refine va_get (D := D) (ci := 3) (v := .ref q8) (C := RX3) (T := TX3) (N := 8) hx hb hts i_X3 hown hK hP 0 rfl rfl 3 (by decide) f_35 (fun _ h9 => h9) rfl dX3_operandCodes_97 ?_
    refine va_get (D := D) (ci := 1) (v := .int (c_first (p_code u))) (C := RX1) (T := TX1) (N := 12) hx hb hts i_X1 hown hK hP 8 rfl rfl 9 (by decide) f_83 (fun _ h9 => h9) rfl dX3_operandCodes_100 ?_
    refine lv_iload_n hx hb dX3_operandCodes_103 rfl (lv_at hl 1 rfl) ?_
    refine cl_Vv (As := [.int (c_r (p_code u)), .int (c_first (p_code u)), .int x1]) (rest := []) (st := [.int x1, .int (c_first (p_code u)), .int (c_r (p_code u)), .ref q0]) S hK hA hP hD hS (fr_P u) (kcX3_operateE l D cB cI q0 q1 q2 q3 q4 q5 q6 q7 q8 q9 H.size (c_r (p_code u)) (c_first (p_code u)) x1 u _ hw) (cwV 3 hts gX3_operandCodes_X3_operateE rfl rfl rfl (by decide +kernel) ⟨Nat.le_of_ble_eq_true rfl, Nat.le_of_ble_eq_true rfl⟩) tru_h tru_b 0 rfl rfl rfl rfl rfl hl.1 (Nat.le_of_ble_eq_true rfl) dX3_operandCodes_104 ⟨Nat.zero_le _, Nat.zero_le _⟩ (fun u36 H locs hP hD hS hw => ?_)
    replace hP : va_P D vwCl (WP cB cI q0 q1 q2 q3 q4 q5 q6 q7 q8 q9 u36) H := hP
    replace hD : va_D A (WP cB cI q0 q1 q2 q3 q4 q5 q6 q7 q8 q9 u36) := hD
    refine lv_goto (tgt := 295) hx hb dX3_operandCodes_107 (by decide) ?_
    exact rt_v (wo := (fun v => WP cB cI q0 q1 q2 q3 q4 q5 q6 q7 q8 q9 v)) S hr hlk u36 hP hS hw dX3_operandCodes_295
  unfold wX3_operandCodes at hw
  obtain ⟨H, eH⟩ : ∃ H, H = s.heap := ⟨_, rfl⟩
  obtain ⟨locs, eL⟩ : ∃ locs : List Loc, locs = [] := ⟨_, rfl⟩
  replace hP : va_P D vwCl (WP cB cI q0 q1 q2 q3 q4 q5 q6 q7 q8 q9 u) H := by rw [eH]; exact hP
  replace hS : va_S A s.heap H locs := by rw [eH, eL]; exact hS
  suffices hgo : W p l e ({ frames := 5, cells := 0, slots := 0, locals := 120 } : Room) s m ([.ref q0] : List Value).toArray below meth c H locs 0 0 (MQ below (va_Qv P (fun u t => va_P D vwCl (WP cB cI q0 q1 q2 q3 q4 q5 q6 q7 q8 q9 u) t.heap) A) ([.ref q0] : List Value).toArray s 0 0 A) (F0 m 0 ls []) by rw [eH, eL] at hgo; exact hgo
  clear eH eL
  refine lv_aload_n hx hb dX3_operandCodes_0 rfl (lv_at hl 0 rfl) ?_
  refine va_get (D := D) (ci := 3) (v := .ref q8) (C := RX3) (T := TX3) (N := 8) hx hb hts i_X3 hown hK hP 0 rfl rfl 3 (by decide) f_35 (fun _ h9 => h9) rfl dX3_operandCodes_1 ?_
  refine cl_Vi (As := []) (rest := []) (st := [.ref q8]) S hK hA hP hD hS (fr_P_C u) (kcX1_wide l D cB cI q8 H.size  (p_code u) _ hw) (cwV 0 hts gX3_operandCodes_X1_wide rfl rfl rfl (by decide +kernel) ⟨Nat.le_of_ble_eq_true rfl, Nat.le_of_ble_eq_true rfl⟩) tru_h tru_b 8 rfl rfl rfl rfl rfl hl.1 (Nat.le_of_ble_eq_true rfl) dX3_operandCodes_4 ⟨Nat.zero_le _, Nat.zero_le _⟩ (fun r2 u1 H locs hP hD hS hw => ?_)
  replace hP : va_P D vwCl (WP cB cI q0 q1 q2 q3 q4 q5 q6 q7 q8 q9 (ps_code u u1)) H := hP
  replace hD : va_D A (WP cB cI q0 q1 q2 q3 q4 q5 q6 q7 q8 q9 (ps_code u u1)) := hD
  refine lv_istore_n (lv' := [(1, .int r2), (0, .ref q0)]) hx hb dX3_operandCodes_7 rfl hl (by decide) rfl (fun ls hl => ?_)
  refine lv_aload_n hx hb dX3_operandCodes_8 rfl (lv_at hl 1 rfl) ?_
  refine va_get (D := D) (ci := 3) (v := .ref q8) (C := RX3) (T := TX3) (N := 8) hx hb hts i_X3 hown hK hP 0 rfl rfl 3 (by decide) f_35 (fun _ h9 => h9) rfl dX3_operandCodes_9 ?_
  refine va_get (D := D) (ci := 1) (v := .int (c_number u1)) (C := RX1) (T := TX1) (N := 12) hx hb hts i_X1 hown hK hP 8 rfl rfl 1 (by decide) f_47 (fun _ h9 => h9) rfl dX3_operandCodes_12 ?_
  by_cases c3 : (c_number u1) = (128 : Int32)
  · replace hw := hw.1 c3
    refine lv_tableIn (off := 73) (tgt := 88) hx hb dX3_operandCodes_15 (by rw [c3]; decide) (by rw [c3]; decide) (by rw [c3]; rfl) (by decide) ?_
    exact b88 r2 (ps_code u u1) H locs ls hP hD hS (lv_sub hl [1, 0] rfl) hw
  replace hw := hw.2 c3
  by_cases c4 : (c_number u1) = (129 : Int32)
  · replace hw := hw.1 c4
    refine lv_tableIn (off := 73) (tgt := 88) hx hb dX3_operandCodes_15 (by rw [c4]; decide) (by rw [c4]; decide) (by rw [c4]; rfl) (by decide) ?_
    exact b88 r2 (ps_code u u1) H locs ls hP hD hS (lv_sub hl [1, 0] rfl) hw
  replace hw := hw.2 c4
  by_cases c5 : (c_number u1) = (130 : Int32)
  · replace hw := hw.1 c5
    refine lv_tableIn (off := 73) (tgt := 88) hx hb dX3_operandCodes_15 (by rw [c5]; decide) (by rw [c5]; decide) (by rw [c5]; rfl) (by decide) ?_
    exact b88 r2 (ps_code u u1) H locs ls hP hD hS (lv_sub hl [1, 0] rfl) hw
  replace hw := hw.2 c5
  by_cases c6 : (c_number u1) = (131 : Int32)
  · replace hw := hw.1 c6
    refine lv_tableIn (off := 95) (tgt := 110) hx hb dX3_operandCodes_15 (by rw [c6]; decide) (by rw [c6]; decide) (by rw [c6]; rfl) (by decide) ?_
    refine lv_aload_n hx hb dX3_operandCodes_110 rfl (lv_at hl 1 rfl) ?_
    refine lv_aload_n hx hb dX3_operandCodes_111 rfl (lv_at hl 1 rfl) ?_
    refine va_get (D := D) (ci := 3) (v := .ref q8) (C := RX3) (T := TX3) (N := 8) hx hb hts i_X3 hown hK hP 0 rfl rfl 3 (by decide) f_35 (fun _ h9 => h9) rfl dX3_operandCodes_112 ?_
    refine va_get (D := D) (ci := 1) (v := .int (c_r u1)) (C := RX1) (T := TX1) (N := 12) hx hb hts i_X1 hown hK hP 8 rfl rfl 5 (by decide) f_191 (fun _ h9 => h9) rfl dX3_operandCodes_115 ?_
    refine lv_aload_n hx hb dX3_operandCodes_118 rfl (lv_at hl 1 rfl) ?_
    refine va_get (D := D) (ci := 3) (v := .ref q8) (C := RX3) (T := TX3) (N := 8) hx hb hts i_X3 hown hK hP 0 rfl rfl 3 (by decide) f_35 (fun _ h9 => h9) rfl dX3_operandCodes_119 ?_
    refine va_get (D := D) (ci := 1) (v := .int (c_first u1)) (C := RX1) (T := TX1) (N := 12) hx hb hts i_X1 hown hK hP 8 rfl rfl 9 (by decide) f_83 (fun _ h9 => h9) rfl dX3_operandCodes_122 ?_
    refine lv_iconst (v := (0 : Int32)) hx hb dX3_operandCodes_125 (by decide) ?_
    refine cl_Si (As := [.int (c_first u1), .int (0 : Int32)]) (rest := [.int (c_r u1), .ref q0]) (st := [.int (0 : Int32), .int (c_first u1), .int (c_r u1), .ref q0]) S hK hA hP hD hS Fr_nil (kcX0_signed l D cB cI  H.size (c_first u1) (0 : Int32) () _ hw) (va_cwS 2 hts gX3_operandCodes_X0_signed rfl rfl rfl (by decide +kernel) ⟨Nat.le_of_ble_eq_true rfl, Nat.le_of_ble_eq_true rfl⟩) tru_h tru_b rfl rfl hl.1 (Nat.le_of_ble_eq_true rfl) dX3_operandCodes_126 ⟨Nat.zero_le _, Nat.zero_le _⟩ (fun r8 u7 H locs hP hD hS hw => ?_)
    replace hP : va_P D vwCl (WP cB cI q0 q1 q2 q3 q4 q5 q6 q7 q8 q9 (ps_code u u1)) H := hP
    replace hD : va_D A (WP cB cI q0 q1 q2 q3 q4 q5 q6 q7 q8 q9 (ps_code u u1)) := hD
    refine lv_ldc (v := (65535 : Int32)) hx hb hown k_217 dX3_operandCodes_129 ?_
    refine lv_iand hx hb dX3_operandCodes_131 ?_
    refine lv_iconst (v := (1 : Int32)) hx hb dX3_operandCodes_132 (by decide) ?_
    refine cl_Vv (As := [.int (c_r u1), .int (r8 &&& (65535 : Int32)), .int (1 : Int32)]) (rest := []) (st := [.int (1 : Int32), .int (r8 &&& (65535 : Int32)), .int (c_r u1), .ref q0]) S hK hA hP hD hS (fr_P (ps_code u u1)) (kcX3_operateE l D cB cI q0 q1 q2 q3 q4 q5 q6 q7 q8 q9 H.size (c_r u1) (r8 &&& (65535 : Int32)) (1 : Int32) (ps_code u u1) _ hw) (cwV 3 hts gX3_operandCodes_X3_operateE rfl rfl rfl (by decide +kernel) ⟨Nat.le_of_ble_eq_true rfl, Nat.le_of_ble_eq_true rfl⟩) tru_h tru_b 0 rfl rfl rfl rfl rfl hl.1 (Nat.le_of_ble_eq_true rfl) dX3_operandCodes_133 ⟨Nat.zero_le _, Nat.zero_le _⟩ (fun u9 H locs hP hD hS hw => ?_)
    replace hP : va_P D vwCl (WP cB cI q0 q1 q2 q3 q4 q5 q6 q7 q8 q9 u9) H := hP
    replace hD : va_D A (WP cB cI q0 q1 q2 q3 q4 q5 q6 q7 q8 q9 u9) := hD
    refine lv_goto (tgt := 295) hx hb dX3_operandCodes_136 (by decide) ?_
    exact rt_v (wo := (fun v => WP cB cI q0 q1 q2 q3 q4 q5 q6 q7 q8 q9 v)) S hr hlk u9 hP hS hw dX3_operandCodes_295
  replace hw := hw.2 c6
  by_cases c11 : (c_number u1) = (132 : Int32)
  · replace hw := hw.1 c11
    refine lv_tableIn (off := 124) (tgt := 139) hx hb dX3_operandCodes_15 (by rw [c11]; decide) (by rw [c11]; decide) (by rw [c11]; rfl) (by decide) ?_
    exact b139 r2 (ps_code u u1) H locs ls hP hD hS (lv_sub hl [1, 0] rfl) hw
  replace hw := hw.2 c11
  by_cases c12 : (c_number u1) = (133 : Int32)
  · replace hw := hw.1 c12
    refine lv_tableIn (off := 124) (tgt := 139) hx hb dX3_operandCodes_15 (by rw [c12]; decide) (by rw [c12]; decide) (by rw [c12]; rfl) (by decide) ?_
    exact b139 r2 (ps_code u u1) H locs ls hP hD hS (lv_sub hl [1, 0] rfl) hw
  replace hw := hw.2 c12
  by_cases c13 : (c_number u1) = (134 : Int32)
  · replace hw := hw.1 c13
    refine lv_tableIn (off := 149) (tgt := 164) hx hb dX3_operandCodes_15 (by rw [c13]; decide) (by rw [c13]; decide) (by rw [c13]; rfl) (by decide) ?_
    exact b164 r2 (ps_code u u1) H locs ls hP hD hS (lv_sub hl [1, 0] rfl) hw
  replace hw := hw.2 c13
  by_cases c14 : (c_number u1) = (135 : Int32)
  · replace hw := hw.1 c14
    refine lv_tableIn (off := 149) (tgt := 164) hx hb dX3_operandCodes_15 (by rw [c14]; decide) (by rw [c14]; decide) (by rw [c14]; rfl) (by decide) ?_
    exact b164 r2 (ps_code u u1) H locs ls hP hD hS (lv_sub hl [1, 0] rfl) hw
  replace hw := hw.2 c14
  by_cases c15 : (c_number u1) = (136 : Int32)
  · replace hw := hw.1 c15
    refine lv_tableIn (off := 157) (tgt := 172) hx hb dX3_operandCodes_15 (by rw [c15]; decide) (by rw [c15]; decide) (by rw [c15]; rfl) (by decide) ?_
    exact b172 r2 (ps_code u u1) H locs ls hP hD hS (lv_sub hl [1, 0] rfl) hw
  replace hw := hw.2 c15
  by_cases c16 : (c_number u1) = (137 : Int32)
  · replace hw := hw.1 c16
    refine lv_tableIn (off := 157) (tgt := 172) hx hb dX3_operandCodes_15 (by rw [c16]; decide) (by rw [c16]; decide) (by rw [c16]; rfl) (by decide) ?_
    exact b172 r2 (ps_code u u1) H locs ls hP hD hS (lv_sub hl [1, 0] rfl) hw
  replace hw := hw.2 c16
  by_cases c17 : (c_number u1) = (138 : Int32)
  · replace hw := hw.1 c17
    refine lv_tableIn (off := 180) (tgt := 195) hx hb dX3_operandCodes_15 (by rw [c17]; decide) (by rw [c17]; decide) (by rw [c17]; rfl) (by decide) ?_
    exact b195 r2 (ps_code u u1) H locs ls hP hD hS (lv_sub hl [1, 0] rfl) hw
  replace hw := hw.2 c17
  by_cases c18 : (c_number u1) = (139 : Int32)
  · replace hw := hw.1 c18
    refine lv_tableIn (off := 180) (tgt := 195) hx hb dX3_operandCodes_15 (by rw [c18]; decide) (by rw [c18]; decide) (by rw [c18]; rfl) (by decide) ?_
    exact b195 r2 (ps_code u u1) H locs ls hP hD hS (lv_sub hl [1, 0] rfl) hw
  replace hw := hw.2 c18
  by_cases c19 : (c_number u1) = (140 : Int32)
  · replace hw := hw.1 c19
    refine lv_tableIn (off := 203) (tgt := 218) hx hb dX3_operandCodes_15 (by rw [c19]; decide) (by rw [c19]; decide) (by rw [c19]; rfl) (by decide) ?_
    refine lv_aload_n hx hb dX3_operandCodes_218 rfl (lv_at hl 1 rfl) ?_
    refine lv_aload_n hx hb dX3_operandCodes_219 rfl (lv_at hl 1 rfl) ?_
    refine va_get (D := D) (ci := 3) (v := .ref q4) (C := RX3) (T := TX3) (N := 8) hx hb hts i_X3 hown hK hP 0 rfl rfl 1 (by decide) f_21 (fun _ h9 => h9) rfl dX3_operandCodes_220 ?_
    refine lv_aload_n hx hb dX3_operandCodes_223 rfl (lv_at hl 1 rfl) ?_
    refine va_get (D := D) (ci := 3) (v := .ref q8) (C := RX3) (T := TX3) (N := 8) hx hb hts i_X3 hown hK hP 0 rfl rfl 3 (by decide) f_35 (fun _ h9 => h9) rfl dX3_operandCodes_224 ?_
    refine va_get (D := D) (ci := 1) (v := .int (c_r u1)) (C := RX1) (T := TX1) (N := 12) hx hb hts i_X1 hown hK hP 8 rfl rfl 5 (by decide) f_191 (fun _ h9 => h9) rfl dX3_operandCodes_227 ?_
    refine cl_Vi (As := [.int (c_r u1)]) (rest := [.ref q0]) (st := [.int (c_r u1), .ref q4, .ref q0]) S hK hA hP hD hS (fr_P_R (ps_code u u1)) (kcX4_segment l D cB cI q4 q5 q6 H.size (c_r u1) (p_regs u) _ hw) (cwV 1 hts gX3_operandCodes_X4_segment rfl rfl rfl (by decide +kernel) ⟨Nat.le_of_ble_eq_true rfl, Nat.le_of_ble_eq_true rfl⟩) tru_h tru_b 4 rfl rfl rfl rfl rfl hl.1 (Nat.le_of_ble_eq_true rfl) dX3_operandCodes_230 ⟨Nat.zero_le _, Nat.zero_le _⟩ (fun r21 u20 H locs hP hD hS hw => ?_)
    replace hP : va_P D vwCl (WP cB cI q0 q1 q2 q3 q4 q5 q6 q7 q8 q9 (ps_code (ps_regs u u20) u1)) H := hP
    replace hD : va_D A (WP cB cI q0 q1 q2 q3 q4 q5 q6 q7 q8 q9 (ps_code (ps_regs u u20) u1)) := hD
    refine lv_iconst (v := (1 : Int32)) hx hb dX3_operandCodes_233 (by decide) ?_
    refine cl_Vv (As := [.int r21, .int (1 : Int32)]) (rest := []) (st := [.int (1 : Int32), .int r21, .ref q0]) S hK hA hP hD hS (fr_P (ps_code (ps_regs u u20) u1)) (kcX3_giveE l D cB cI q0 q1 q2 q3 q4 q5 q6 q7 q8 q9 H.size r21 (1 : Int32) (ps_code (ps_regs u u20) u1) _ hw) (cwV 2 hts gX3_operandCodes_X3_giveE rfl rfl rfl (by decide +kernel) ⟨Nat.le_of_ble_eq_true rfl, Nat.le_of_ble_eq_true rfl⟩) tru_h tru_b 0 rfl rfl rfl rfl rfl hl.1 (Nat.le_of_ble_eq_true rfl) dX3_operandCodes_234 ⟨Nat.zero_le _, Nat.zero_le _⟩ (fun u22 H locs hP hD hS hw => ?_)
    replace hP : va_P D vwCl (WP cB cI q0 q1 q2 q3 q4 q5 q6 q7 q8 q9 u22) H := hP
    replace hD : va_D A (WP cB cI q0 q1 q2 q3 q4 q5 q6 q7 q8 q9 u22) := hD
    refine lv_goto (tgt := 295) hx hb dX3_operandCodes_237 (by decide) ?_
    exact rt_v (wo := (fun v => WP cB cI q0 q1 q2 q3 q4 q5 q6 q7 q8 q9 v)) S hr hlk u22 hP hS hw dX3_operandCodes_295
  replace hw := hw.2 c19
  by_cases c24 : (c_number u1) = (141 : Int32)
  · replace hw := hw.1 c24
    refine lv_tableIn (off := 225) (tgt := 240) hx hb dX3_operandCodes_15 (by rw [c24]; decide) (by rw [c24]; decide) (by rw [c24]; rfl) (by decide) ?_
    refine lv_aload_n hx hb dX3_operandCodes_240 rfl (lv_at hl 1 rfl) ?_
    refine va_get (D := D) (ci := 3) (v := .ref q4) (C := RX3) (T := TX3) (N := 8) hx hb hts i_X3 hown hK hP 0 rfl rfl 1 (by decide) f_21 (fun _ h9 => h9) rfl dX3_operandCodes_241 ?_
    refine lv_aload_n hx hb dX3_operandCodes_244 rfl (lv_at hl 1 rfl) ?_
    refine va_get (D := D) (ci := 3) (v := .ref q8) (C := RX3) (T := TX3) (N := 8) hx hb hts i_X3 hown hK hP 0 rfl rfl 3 (by decide) f_35 (fun _ h9 => h9) rfl dX3_operandCodes_245 ?_
    refine va_get (D := D) (ci := 1) (v := .int (c_r u1)) (C := RX1) (T := TX1) (N := 12) hx hb hts i_X1 hown hK hP 8 rfl rfl 5 (by decide) f_191 (fun _ h9 => h9) rfl dX3_operandCodes_248 ?_
    refine lv_aload_n hx hb dX3_operandCodes_251 rfl (lv_at hl 1 rfl) ?_
    refine va_get (D := D) (ci := 3) (v := .ref q8) (C := RX3) (T := TX3) (N := 8) hx hb hts i_X3 hown hK hP 0 rfl rfl 3 (by decide) f_35 (fun _ h9 => h9) rfl dX3_operandCodes_252 ?_
    refine va_get (D := D) (ci := 1) (v := .int (c_offset u1)) (C := RX1) (T := TX1) (N := 12) hx hb hts i_X1 hown hK hP 8 rfl rfl 8 (by decide) f_165 (fun _ h9 => h9) rfl dX3_operandCodes_255 ?_
    refine cl_Vv (As := [.int (c_r u1), .int (c_offset u1)]) (rest := []) (st := [.int (c_offset u1), .int (c_r u1), .ref q4]) S hK hA hP hD hS (fr_P_R (ps_code u u1)) (kcX4_setWord l D cB cI q4 q5 q6 H.size (c_r u1) (c_offset u1) (p_regs u) _ hw) (cwV 2 hts gX3_operandCodes_X4_setWord rfl rfl rfl (by decide +kernel) ⟨Nat.le_of_ble_eq_true rfl, Nat.le_of_ble_eq_true rfl⟩) tru_h tru_b 4 rfl rfl rfl rfl rfl hl.1 (Nat.le_of_ble_eq_true rfl) dX3_operandCodes_258 ⟨Nat.zero_le _, Nat.zero_le _⟩ (fun u25 H locs hP hD hS hw => ?_)
    replace hP : va_P D vwCl (WP cB cI q0 q1 q2 q3 q4 q5 q6 q7 q8 q9 (ps_code (ps_regs u u25) u1)) H := hP
    replace hD : va_D A (WP cB cI q0 q1 q2 q3 q4 q5 q6 q7 q8 q9 (ps_code (ps_regs u u25) u1)) := hD
    refine lv_goto (tgt := 295) hx hb dX3_operandCodes_261 (by decide) ?_
    exact rt_v (wo := (fun v => WP cB cI q0 q1 q2 q3 q4 q5 q6 q7 q8 q9 v)) S hr hlk (ps_code (ps_regs u u25) u1) hP hS hw dX3_operandCodes_295
  replace hw := hw.2 c24
  by_cases c27 : (c_number u1) = (142 : Int32)
  · replace hw := hw.1 c27
    refine lv_tableIn (off := 249) (tgt := 264) hx hb dX3_operandCodes_15 (by rw [c27]; decide) (by rw [c27]; decide) (by rw [c27]; rfl) (by decide) ?_
    refine lv_aload_n hx hb dX3_operandCodes_264 rfl (lv_at hl 1 rfl) ?_
    refine va_get (D := D) (ci := 3) (v := .ref q4) (C := RX3) (T := TX3) (N := 8) hx hb hts i_X3 hown hK hP 0 rfl rfl 1 (by decide) f_21 (fun _ h9 => h9) rfl dX3_operandCodes_265 ?_
    refine lv_aload_n hx hb dX3_operandCodes_268 rfl (lv_at hl 1 rfl) ?_
    refine va_get (D := D) (ci := 3) (v := .ref q8) (C := RX3) (T := TX3) (N := 8) hx hb hts i_X3 hown hK hP 0 rfl rfl 3 (by decide) f_35 (fun _ h9 => h9) rfl dX3_operandCodes_269 ?_
    refine va_get (D := D) (ci := 1) (v := .int (c_r u1)) (C := RX1) (T := TX1) (N := 12) hx hb hts i_X1 hown hK hP 8 rfl rfl 5 (by decide) f_191 (fun _ h9 => h9) rfl dX3_operandCodes_272 ?_
    refine lv_aload_n hx hb dX3_operandCodes_275 rfl (lv_at hl 1 rfl) ?_
    refine lv_iconst (v := (1 : Int32)) hx hb dX3_operandCodes_276 (by decide) ?_
    refine cl_Vi (As := [.int (1 : Int32)]) (rest := [.int (c_r u1), .ref q4]) (st := [.int (1 : Int32), .ref q0, .int (c_r u1), .ref q4]) S hK hA hP hD hS (fr_P (ps_code u u1)) (kcX3_e l D cB cI q0 q1 q2 q3 q4 q5 q6 q7 q8 q9 H.size (1 : Int32) (ps_code u u1) _ hw) (cwV 1 hts gX3_operandCodes_X3_e rfl rfl rfl (by decide +kernel) ⟨Nat.le_of_ble_eq_true rfl, Nat.le_of_ble_eq_true rfl⟩) tru_h tru_b 0 rfl rfl rfl rfl rfl hl.1 (Nat.le_of_ble_eq_true rfl) dX3_operandCodes_277 ⟨Nat.zero_le _, Nat.zero_le _⟩ (fun r29 u28 H locs hP hD hS hw => ?_)
    replace hP : va_P D vwCl (WP cB cI q0 q1 q2 q3 q4 q5 q6 q7 q8 q9 u28) H := hP
    replace hD : va_D A (WP cB cI q0 q1 q2 q3 q4 q5 q6 q7 q8 q9 u28) := hD
    refine cl_Vv (As := [.int (c_r u1), .int r29]) (rest := []) (st := [.int r29, .int (c_r u1), .ref q4]) S hK hA hP hD hS (fr_P_R u28) (kcX4_setSegment l D cB cI q4 q5 q6 H.size (c_r u1) r29 (p_regs u28) _ hw) (cwV 2 hts gX3_operandCodes_X4_setSegment rfl rfl rfl (by decide +kernel) ⟨Nat.le_of_ble_eq_true rfl, Nat.le_of_ble_eq_true rfl⟩) tru_h tru_b 4 rfl rfl rfl rfl rfl hl.1 (Nat.le_of_ble_eq_true rfl) dX3_operandCodes_280 ⟨Nat.zero_le _, Nat.zero_le _⟩ (fun u30 H locs hP hD hS hw => ?_)
    replace hP : va_P D vwCl (WP cB cI q0 q1 q2 q3 q4 q5 q6 q7 q8 q9 (ps_regs u28 u30)) H := hP
    replace hD : va_D A (WP cB cI q0 q1 q2 q3 q4 q5 q6 q7 q8 q9 (ps_regs u28 u30)) := hD
    refine lv_goto (tgt := 295) hx hb dX3_operandCodes_283 (by decide) ?_
    exact rt_v (wo := (fun v => WP cB cI q0 q1 q2 q3 q4 q5 q6 q7 q8 q9 v)) S hr hlk (ps_regs u28 u30) hP hS hw dX3_operandCodes_295
  replace hw := hw.2 c27
  refine lv_tableOut (tgt := 286) hx hb dX3_operandCodes_15 (by have e_c3 : ¬ ((c_number u1) : Int32).toInt = 128 := sw_ne c3; have e_c4 : ¬ ((c_number u1) : Int32).toInt = 129 := sw_ne c4; have e_c5 : ¬ ((c_number u1) : Int32).toInt = 130 := sw_ne c5; have e_c6 : ¬ ((c_number u1) : Int32).toInt = 131 := sw_ne c6; have e_c11 : ¬ ((c_number u1) : Int32).toInt = 132 := sw_ne c11; have e_c12 : ¬ ((c_number u1) : Int32).toInt = 133 := sw_ne c12; have e_c13 : ¬ ((c_number u1) : Int32).toInt = 134 := sw_ne c13; have e_c14 : ¬ ((c_number u1) : Int32).toInt = 135 := sw_ne c14; have e_c15 : ¬ ((c_number u1) : Int32).toInt = 136 := sw_ne c15; have e_c16 : ¬ ((c_number u1) : Int32).toInt = 137 := sw_ne c16; have e_c17 : ¬ ((c_number u1) : Int32).toInt = 138 := sw_ne c17; have e_c18 : ¬ ((c_number u1) : Int32).toInt = 139 := sw_ne c18; have e_c19 : ¬ ((c_number u1) : Int32).toInt = 140 := sw_ne c19; have e_c24 : ¬ ((c_number u1) : Int32).toInt = 141 := sw_ne c24; have e_c27 : ¬ ((c_number u1) : Int32).toInt = 142 := sw_ne c27; omega) (by decide) ?_
  refine lv_aload_n hx hb dX3_operandCodes_286 rfl (lv_at hl 1 rfl) ?_
  refine lv_aload_n hx hb dX3_operandCodes_287 rfl (lv_at hl 1 rfl) ?_
  refine cl_Vi (As := []) (rest := [.ref q0]) (st := [.ref q0, .ref q0]) S hK hA hP hD hS (fr_P (ps_code u u1)) (kcX3_pop l D cB cI q0 q1 q2 q3 q4 q5 q6 q7 q8 q9 H.size  (ps_code u u1) _ hw) (cwV 0 hts gX3_operandCodes_X3_pop rfl rfl rfl (by decide +kernel) ⟨Nat.le_of_ble_eq_true rfl, Nat.le_of_ble_eq_true rfl⟩) tru_h tru_b 0 rfl rfl rfl rfl rfl hl.1 (Nat.le_of_ble_eq_true rfl) dX3_operandCodes_288 ⟨Nat.zero_le _, Nat.zero_le _⟩ (fun r33 u32 H locs hP hD hS hw => ?_)
  replace hP : va_P D vwCl (WP cB cI q0 q1 q2 q3 q4 q5 q6 q7 q8 q9 u32) H := hP
  replace hD : va_D A (WP cB cI q0 q1 q2 q3 q4 q5 q6 q7 q8 q9 u32) := hD
  refine lv_iconst (v := (1 : Int32)) hx hb dX3_operandCodes_291 (by decide) ?_
  refine cl_Vv (As := [.int r33, .int (1 : Int32)]) (rest := []) (st := [.int (1 : Int32), .int r33, .ref q0]) S hK hA hP hD hS (fr_P u32) (kcX3_giveE l D cB cI q0 q1 q2 q3 q4 q5 q6 q7 q8 q9 H.size r33 (1 : Int32) u32 _ hw) (cwV 2 hts gX3_operandCodes_X3_giveE rfl rfl rfl (by decide +kernel) ⟨Nat.le_of_ble_eq_true rfl, Nat.le_of_ble_eq_true rfl⟩) tru_h tru_b 0 rfl rfl rfl rfl rfl hl.1 (Nat.le_of_ble_eq_true rfl) dX3_operandCodes_292 ⟨Nat.zero_le _, Nat.zero_le _⟩ (fun u34 H locs hP hD hS hw => ?_)
  replace hP : va_P D vwCl (WP cB cI q0 q1 q2 q3 q4 q5 q6 q7 q8 q9 u34) H := hP
  replace hD : va_D A (WP cB cI q0 q1 q2 q3 q4 q5 q6 q7 q8 q9 u34) := hD
  exact rt_v (wo := (fun v => WP cB cI q0 q1 q2 q3 q4 q5 q6 q7 q8 q9 v)) S hr hlk u34 hP hS hw dX3_operandCodes_295
