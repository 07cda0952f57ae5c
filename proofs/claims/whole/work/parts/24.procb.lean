-- X3_operationCodes
def wX3_operationCodes_b139  (P : SP → Prop) (x2 : Int32) (x3 : Int32) (u : SP) : Prop := (wX3_a x3 u (fun r38 u37 => (wX0_operation x2 r38 (c_first (p_code u37)) x3 (p_flags u37) (fun r40 u39 => (wX3_giveA r40 x3 (ps_flags u37 u39) (fun u41 => (P u41)))))))
def wX3_operationCodes_b92  (P : SP → Prop) (x2 : Int32) (x3 : Int32) (u : SP) : Prop := (wX4_value (c_r (p_code u)) x3 (p_regs u) (fun r30 u29 => (wX3_e x3 (ps_regs u u29) (fun r32 u31 => (wX0_operation x2 r30 r32 x3 (p_flags u31) (fun r34 u33 => (wX4_give (c_r (p_code u)) r34 x3 (p_regs u31) (fun u35 => (P (ps_flags (ps_regs u31 u35) u33))))))))))
def wX3_operationCodes_b68  (P : SP → Prop) (x2 : Int32) (x3 : Int32) (u : SP) : Prop := (wX4_value (c_r (p_code u)) x3 (p_regs u) (fun r26 u25 => (wX3_operateE x2 r26 x3 (ps_regs u u25) (fun u27 => (P u27)))))
def wX3_operationCodes  (u : SP) (P : SP → Prop) : Prop := (wX1_wide  (p_code u) (fun r2 u1 => ((((c_number (p_code u)) &&& (7 : Int32)) = (0 : Int32) → (wX3_operationCodes_b68  P (((c_number (p_code u)) >>> ((3 : Int32) &&& 31)) &&& (7 : Int32)) r2 (ps_code u u1))) ∧ (¬ ((c_number (p_code u)) &&& (7 : Int32)) = (0 : Int32) → ((((c_number (p_code u)) &&& (7 : Int32)) = (1 : Int32) → (wX3_operationCodes_b68  P (((c_number (p_code u)) >>> ((3 : Int32) &&& 31)) &&& (7 : Int32)) r2 (ps_code u u1))) ∧ (¬ ((c_number (p_code u)) &&& (7 : Int32)) = (1 : Int32) → ((((c_number (p_code u)) &&& (7 : Int32)) = (2 : Int32) → (wX3_operationCodes_b92  P (((c_number (p_code u)) >>> ((3 : Int32) &&& 31)) &&& (7 : Int32)) r2 (ps_code u u1))) ∧ (¬ ((c_number (p_code u)) &&& (7 : Int32)) = (2 : Int32) → ((((c_number (p_code u)) &&& (7 : Int32)) = (3 : Int32) → (wX3_operationCodes_b92  P (((c_number (p_code u)) >>> ((3 : Int32) &&& 31)) &&& (7 : Int32)) r2 (ps_code u u1))) ∧ (¬ ((c_number (p_code u)) &&& (7 : Int32)) = (3 : Int32) → ((((c_number (p_code u)) &&& (7 : Int32)) = (4 : Int32) → (wX3_operationCodes_b139  P (((c_number (p_code u)) >>> ((3 : Int32) &&& 31)) &&& (7 : Int32)) r2 (ps_code u u1))) ∧ (¬ ((c_number (p_code u)) &&& (7 : Int32)) = (4 : Int32) → ((((c_number (p_code u)) &&& (7 : Int32)) = (5 : Int32) → (wX3_operationCodes_b139  P (((c_number (p_code u)) >>> ((3 : Int32) &&& 31)) &&& (7 : Int32)) r2 (ps_code u u1))) ∧ (¬ ((c_number (p_code u)) &&& (7 : Int32)) = (5 : Int32) → ((((c_number (p_code u)) &&& (7 : Int32)) = (6 : Int32) → (wX4_segment (((c_number (p_code u)) >>> ((3 : Int32) &&& 31)) &&& (7 : Int32)) (p_regs u) (fun r11 u10 => (wX3_push r11 (ps_code (ps_regs u u10) u1) (fun u12 => (P u12)))))) ∧ (¬ ((c_number (p_code u)) &&& (7 : Int32)) = (6 : Int32) → (((32 : Int32) ≤ (c_number (p_code u)) → (wX3_a (1 : Int32) (ps_code u u1) (fun r16 u15 => (wX0_adjustment ((((c_number (p_code u)) >>> ((3 : Int32) &&& 31)) &&& (7 : Int32)) &&& (3 : Int32)) r16 (0 : Int32) (p_flags u15) (fun r18 u17 => (wX3_giveA r18 (1 : Int32) (ps_flags u15 u17) (fun u19 => (P u19)))))))) ∧ (¬ (32 : Int32) ≤ (c_number (p_code u)) → (wX3_pop  (ps_code u u1) (fun r22 u21 => (wX4_setSegment (((c_number (p_code u)) >>> ((3 : Int32) &&& 31)) &&& (7 : Int32)) r22 (p_regs u21) (fun u23 => (P (ps_regs u21 u23))))))))))))))))))))))))
set_option maxHeartbeats 4000000 in
set_option maxRecDepth 100000 in
theorem kcX3_operationCodes (l : Launch) (D : va_G) (cB cI : ClassId) (q0 q1 q2 q3 q4 q5 q6 q7 q8 q9 : Nat) (sz : Nat)  (u : SP) (P : SP → Prop) (hw : wX3_operationCodes  u P) : Met l yX3_operationCodes wsX3_operationCodes ({ frames := 5, cells := 0, slots := 0, locals := 120 } : Room) (va_Pc [.ref q0] (Pcw D (tyA cB cI) (WP cB cI q0 q1 q2 q3 q4 q5 q6 q7 q8 q9 u) sz Tru)) (va_Qv P (fun u t => va_P D vwCl (WP cB cI q0 q1 q2 q3 q4 q5 q6 q7 q8 q9 u) t.heap) (va_A (WP cB cI q0 q1 q2 q3 q4 q5 q6 q7 q8 q9 u) sz)) 0 0 (va_A (WP cB cI q0 q1 q2 q3 q4 q5 q6 q7 q8 q9 u) sz) := by
  refine en_ (cc := cX3_operationCodes) (maxL := 4) (ret := none) (own := RX3) (lv := [(0, .ref q0)]) (Qf := fun A => va_Qv P (fun u t => va_P D vwCl (WP cB cI q0 q1 q2 q3 q4 q5 q6 q7 q8 q9 u) t.heap) A) (by decide) rfl rfl (Nat.le_of_ble_eq_true rfl) rfl ?_
  intro p e s m below meth c A ls S hr hlk hname hsz hP hK hD hA hSub hS hE hl
  have hx := S.1
  have hb := S.2.1
  have hown := S.2.2.2.1
  have hts := S.2.2.2.2
  have i_X1 : ∀ w ∈ u_ws RX1 TX1 12, w ∈ wsX3_operationCodes := by decide +kernel
  have i_X3 : ∀ w ∈ u_ws RX3 TX3 8, w ∈ wsX3_operationCodes := by decide +kernel
  have f_21 := hts (.fieldLink RX3 21 "MachineCore$Processor" "registers" "LMachineCore$Registers;") (by decide +kernel)
  have f_28 := hts (.fieldLink RX3 28 "MachineCore$Processor" "arithmetic" "LMachineCore$Arithmetic;") (by decide +kernel)
  have f_35 := hts (.fieldLink RX3 35 "MachineCore$Processor" "code" "LMachineCore$Code;") (by decide +kernel)
  have f_47 := hts (.fieldLink RX3 47 "MachineCore$Code" "number" "I") (by decide +kernel)
  have f_83 := hts (.fieldLink RX3 83 "MachineCore$Code" "first" "I") (by decide +kernel)
  have f_191 := hts (.fieldLink RX3 191 "MachineCore$Code" "r" "I") (by decide +kernel)
  have b139 : ∀ (x2 : Int32) (x3 : Int32) (u : SP) (H : Heap) (locs : List Loc) (ls : Array Slot), va_P D vwCl (WP cB cI q0 q1 q2 q3 q4 q5 q6 q7 q8 q9 u) H → va_D A (WP cB cI q0 q1 q2 q3 q4 q5 q6 q7 q8 q9 u) → va_S A s.heap H locs → lv_has ls 4 [(0, .ref q0), (2, .int x2), (3, .int x3)] → wX3_operationCodes_b139  P x2 x3 u → W p l e ({ frames := 5, cells := 0, slots := 0, locals := 120 } : Room) s m ([.ref q0] : List Value).toArray below meth c H locs 0 0 (MQ below (va_Qv P (fun u t => va_P D vwCl (WP cB cI q0 q1 q2 q3 q4 q5 q6 q7 q8 q9 u) t.heap) A) ([.ref q0] : List Value).toArray s 0 0 A) (F0 m 139 ls []) := by
    intro x2 x3 u H locs ls hP hD hS hl hw
    unfold wX3_operationCodes_b139 at hw
    refine lv_aload_n hx hb dX3_operationCodes_139 rfl (lv_at hl 0 rfl) ?_
    refine lv_aload_n hx hb dX3_operationCodes_140 rfl (lv_at hl 0 rfl) ?_
    refine va_get (D := D) (ci := 3) (v := .ref q7) (C := RX3) (T := TX3) (N := 8) hx hb hts i_X3 hown hK hP 0 rfl rfl 2 (by decide) f_28 (fun _ h9 => h9) rfl dX3_operationCodes_141 ?_
    refine lv_iload_n hx hb dX3_operationCodes_144 rfl (lv_at hl 1 rfl) ?_
    refine lv_aload_n hx hb dX3_operationCodes_145 rfl (lv_at hl 0 rfl) ?_
    refine lv_iload_n hx hb dX3_operationCodes_146 rfl (lv_at hl 2 rfl) ?_
    refine cl_Vi (As := [.int x3]) (rest := [.int x2, .ref q7, .ref q0]) (st := [.int x3, .ref q0, .int x2, .ref q7, .ref q0]) S hK hA hP hD hS (fr_P u) (kcX3_a l D cB cI q0 q1 q2 q3 q4 q5 q6 q7 q8 q9 H.size x3 u _ hw) (cwV 1 hts gX3_operationCodes_X3_a rfl rfl rfl (by decide +kernel) ⟨Nat.le_of_ble_eq_true rfl, Nat.le_of_ble_eq_true rfl⟩) tru_h tru_b 0 rfl rfl rfl rfl rfl hl.1 (Nat.le_of_ble_eq_true rfl) dX3_operationCodes_147 ⟨Nat.zero_le _, Nat.zero_le _⟩ (fun r38 u37 H locs hP hD hS hw => ?_)
    replace hP : va_P D vwCl (WP cB cI q0 q1 q2 q3 q4 q5 q6 q7 q8 q9 u37) H := hP
    replace hD : va_D A (WP cB cI q0 q1 q2 q3 q4 q5 q6 q7 q8 q9 u37) := hD
    refine lv_aload_n hx hb dX3_operationCodes_150 rfl (lv_at hl 0 rfl) ?_
    refine va_get (D := D) (ci := 3) (v := .ref q8) (C := RX3) (T := TX3) (N := 8) hx hb hts i_X3 hown hK hP 0 rfl rfl 3 (by decide) f_35 (fun _ h9 => h9) rfl dX3_operationCodes_151 ?_
    refine va_get (D := D) (ci := 1) (v := .int (c_first (p_code u37))) (C := RX1) (T := TX1) (N := 12) hx hb hts i_X1 hown hK hP 8 rfl rfl 9 (by decide) f_83 (fun _ h9 => h9) rfl dX3_operationCodes_154 ?_
    refine lv_iload_n hx hb dX3_operationCodes_157 rfl (lv_at hl 2 rfl) ?_
    refine cl_Vi (As := [.int x2, .int r38, .int (c_first (p_code u37)), .int x3]) (rest := [.ref q0]) (st := [.int x3, .int (c_first (p_code u37)), .int r38, .int x2, .ref q7, .ref q0]) S hK hA hP hD hS (fr_P_A u37) (kcX0_operation l D cB cI q7 H.size x2 r38 (c_first (p_code u37)) x3 (p_flags u37) _ hw) (cwV 4 hts gX3_operationCodes_X0_operation rfl rfl rfl (by decide +kernel) ⟨Nat.le_of_ble_eq_true rfl, Nat.le_of_ble_eq_true rfl⟩) tru_h tru_b 7 rfl rfl rfl rfl rfl hl.1 (Nat.le_of_ble_eq_true rfl) dX3_operationCodes_158 ⟨Nat.zero_le _, Nat.zero_le _⟩ (fun r40 u39 H locs hP hD hS hw => ?_)
    replace hP : va_P D vwCl (WP cB cI q0 q1 q2 q3 q4 q5 q6 q7 q8 q9 (ps_flags u37 u39)) H := hP
    replace hD : va_D A (WP cB cI q0 q1 q2 q3 q4 q5 q6 q7 q8 q9 (ps_flags u37 u39)) := hD
    refine lv_iload_n hx hb dX3_operationCodes_161 rfl (lv_at hl 2 rfl) ?_
    refine cl_Vv (As := [.int r40, .int x3]) (rest := []) (st := [.int x3, .int r40, .ref q0]) S hK hA hP hD hS (fr_P (ps_flags u37 u39)) (kcX3_giveA l D cB cI q0 q1 q2 q3 q4 q5 q6 q7 q8 q9 H.size r40 x3 (ps_flags u37 u39) _ hw) (cwV 2 hts gX3_operationCodes_X3_giveA rfl rfl rfl (by decide +kernel) ⟨Nat.le_of_ble_eq_true rfl, Nat.le_of_ble_eq_true rfl⟩) tru_h tru_b 0 rfl rfl rfl rfl rfl hl.1 (Nat.le_of_ble_eq_true rfl) dX3_operationCodes_162 ⟨Nat.zero_le _, Nat.zero_le _⟩ (fun u41 H locs hP hD hS hw => ?_)
    replace hP : va_P D vwCl (WP cB cI q0 q1 q2 q3 q4 q5 q6 q7 q8 q9 u41) H := hP
    replace hD : va_D A (WP cB cI q0 q1 q2 q3 q4 q5 q6 q7 q8 q9 u41) := hD
    refine lv_goto (tgt := 225) hx hb dX3_operationCodes_165 (by decide) ?_
    exact rt_v (wo := (fun v => WP cB cI q0 q1 q2 q3 q4 q5 q6 q7 q8 q9 v)) S hr hlk u41 hP hS hw dX3_operationCodes_225
  have b92 : ∀ (x2 : Int32) (x3 : Int32) (u : SP) (H : Heap) (locs : List Loc) (ls : Array Slot), va_P D vwCl (WP cB cI q0 q1 q2 q3 q4 q5 q6 q7 q8 q9 u) H → va_D A (WP cB cI q0 q1 q2 q3 q4 q5 q6 q7 q8 q9 u) → va_S A s.heap H locs → lv_has ls 4 [(0, .ref q0), (2, .int x2), (3, .int x3)] → wX3_operationCodes_b92  P x2 x3 u → W p l e ({ frames := 5, cells := 0, slots := 0, locals := 120 } : Room) s m ([.ref q0] : List Value).toArray below meth c H locs 0 0 (MQ below (va_Qv P (fun u t => va_P D vwCl (WP cB cI q0 q1 q2 q3 q4 q5 q6 q7 q8 q9 u) t.heap) A) ([.ref q0] : List Value).toArray s 0 0 A) (F0 m 92 ls []) := by
    intro x2 x3 u H locs ls hP hD hS hl hw
    unfold wX3_operationCodes_b92 at hw
    refine lv_aload_n hx hb dX3_operationCodes_92 rfl (lv_at hl 0 rfl) ?_
    refine va_get (D := D) (ci := 3) (v := .ref q4) (C := RX3) (T := TX3) (N := 8) hx hb hts i_X3 hown hK hP 0 rfl rfl 1 (by decide) f_21 (fun _ h9 => h9) rfl dX3_operationCodes_93 ?_
    refine lv_aload_n hx hb dX3_operationCodes_96 rfl (lv_at hl 0 rfl) ?_
    refine va_get (D := D) (ci := 3) (v := .ref q8) (C := RX3) (T := TX3) (N := 8) hx hb hts i_X3 hown hK hP 0 rfl rfl 3 (by decide) f_35 (fun _ h9 => h9) rfl dX3_operationCodes_97 ?_
    refine va_get (D := D) (ci := 1) (v := .int (c_r (p_code u))) (C := RX1) (T := TX1) (N := 12) hx hb hts i_X1 hown hK hP 8 rfl rfl 5 (by decide) f_191 (fun _ h9 => h9) rfl dX3_operationCodes_100 ?_
    refine lv_aload_n hx hb dX3_operationCodes_103 rfl (lv_at hl 0 rfl) ?_
    refine va_get (D := D) (ci := 3) (v := .ref q7) (C := RX3) (T := TX3) (N := 8) hx hb hts i_X3 hown hK hP 0 rfl rfl 2 (by decide) f_28 (fun _ h9 => h9) rfl dX3_operationCodes_104 ?_
    refine lv_iload_n hx hb dX3_operationCodes_107 rfl (lv_at hl 1 rfl) ?_
    refine lv_aload_n hx hb dX3_operationCodes_108 rfl (lv_at hl 0 rfl) ?_
    refine va_get (D := D) (ci := 3) (v := .ref q4) (C := RX3) (T := TX3) (N := 8) hx hb hts i_X3 hown hK hP 0 rfl rfl 1 (by decide) f_21 (fun _ h9 => h9) rfl dX3_operationCodes_109 ?_
    refine lv_aload_n hx hb dX3_operationCodes_112 rfl (lv_at hl 0 rfl) ?_
    refine va_get (D := D) (ci := 3) (v := .ref q8) (C := RX3) (T := TX3) (N := 8) hx hb hts i_X3 hown hK hP 0 rfl rfl 3 (by decide) f_35 (fun _ h9 => h9) rfl dX3_operationCodes_113 ?_
    refine va_get (D := D) (ci := 1) (v := .int (c_r (p_code u))) (C := RX1) (T := TX1) (N := 12) hx hb hts i_X1 hown hK hP 8 rfl rfl 5 (by decide) f_191 (fun _ h9 => h9) rfl dX3_operationCodes_116 ?_
    refine lv_iload_n hx hb dX3_operationCodes_119 rfl (lv_at hl 2 rfl) ?_
    refine cl_Vi (As := [.int (c_r (p_code u)), .int x3]) (rest := [.int x2, .ref q7, .int (c_r (p_code u)), .ref q4]) (st := [.int x3, .int (c_r (p_code u)), .ref q4, .int x2, .ref q7, .int (c_r (p_code u)), .ref q4]) S hK hA hP hD hS (fr_P_R u) (kcX4_value l D cB cI q4 q5 q6 H.size (c_r (p_code u)) x3 (p_regs u) _ hw) (cwV 2 hts gX3_operationCodes_X4_value rfl rfl rfl (by decide +kernel) ⟨Nat.le_of_ble_eq_true rfl, Nat.le_of_ble_eq_true rfl⟩) tru_h tru_b 4 rfl rfl rfl rfl rfl hl.1 (Nat.le_of_ble_eq_true rfl) dX3_operationCodes_120 ⟨Nat.zero_le _, Nat.zero_le _⟩ (fun r30 u29 H locs hP hD hS hw => ?_)
    replace hP : va_P D vwCl (WP cB cI q0 q1 q2 q3 q4 q5 q6 q7 q8 q9 (ps_regs u u29)) H := hP
    replace hD : va_D A (WP cB cI q0 q1 q2 q3 q4 q5 q6 q7 q8 q9 (ps_regs u u29)) := hD
    refine lv_aload_n hx hb dX3_operationCodes_123 rfl (lv_at hl 0 rfl) ?_
    refine lv_iload_n hx hb dX3_operationCodes_124 rfl (lv_at hl 2 rfl) ?_
    refine cl_Vi (As := [.int x3]) (rest := [.int r30, .int x2, .ref q7, .int (c_r (p_code u)), .ref q4]) (st := [.int x3, .ref q0, .int r30, .int x2, .ref q7, .int (c_r (p_code u)), .ref q4]) S hK hA hP hD hS (fr_P (ps_regs u u29)) (kcX3_e l D cB cI q0 q1 q2 q3 q4 q5 q6 q7 q8 q9 H.size x3 (ps_regs u u29) _ hw) (cwV 1 hts gX3_operationCodes_X3_e rfl rfl rfl (by decide +kernel) ⟨Nat.le_of_ble_eq_true rfl, Nat.le_of_ble_eq_true rfl⟩) tru_h tru_b 0 rfl rfl rfl rfl rfl hl.1 (Nat.le_of_ble_eq_true rfl) dX3_operationCodes_125 ⟨Nat.zero_le _, Nat.zero_le _⟩ (fun r32 u31 H locs hP hD hS hw => ?_)
    replace hP : va_P D vwCl (WP cB cI q0 q1 q2 q3 q4 q5 q6 q7 q8 q9 u31) H := hP
    replace hD : va_D A (WP cB cI q0 q1 q2 q3 q4 q5 q6 q7 q8 q9 u31) := hD
    refine lv_iload_n hx hb dX3_operationCodes_128 rfl (lv_at hl 2 rfl) ?_
    refine cl_Vi (As := [.int x2, .int r30, .int r32, .int x3]) (rest := [.int (c_r (p_code u)), .ref q4]) (st := [.int x3, .int r32, .int r30, .int x2, .ref q7, .int (c_r (p_code u)), .ref q4]) S hK hA hP hD hS (fr_P_A u31) (kcX0_operation l D cB cI q7 H.size x2 r30 r32 x3 (p_flags u31) _ hw) (cwV 4 hts gX3_operationCodes_X0_operation rfl rfl rfl (by decide +kernel) ⟨Nat.le_of_ble_eq_true rfl, Nat.le_of_ble_eq_true rfl⟩) tru_h tru_b 7 rfl rfl rfl rfl rfl hl.1 (Nat.le_of_ble_eq_true rfl) dX3_operationCodes_129 ⟨Nat.zero_le _, Nat.zero_le _⟩ (fun r34 u33 H locs hP hD hS hw => ?_)
    replace hP : va_P D vwCl (WP cB cI q0 q1 q2 q3 q4 q5 q6 q7 q8 q9 (ps_flags u31 u33)) H := hP
    replace hD : va_D A (WP cB cI q0 q1 q2 q3 q4 q5 q6 q7 q8 q9 (ps_flags u31 u33)) := hD
    refine lv_iload_n hx hb dX3_operationCodes_132 rfl (lv_at hl 2 rfl) ?_
    refine cl_Vv (As := [.int (c_r (p_code u)), .int r34, .int x3]) (rest := []) (st := [.int x3, .int r34, .int (c_r (p_code u)), .ref q4]) S hK hA hP hD hS (fr_P_R (ps_flags u31 u33)) (kcX4_give l D cB cI q4 q5 q6 H.size (c_r (p_code u)) r34 x3 (p_regs u31) _ hw) (cwV 3 hts gX3_operationCodes_X4_give rfl rfl rfl (by decide +kernel) ⟨Nat.le_of_ble_eq_true rfl, Nat.le_of_ble_eq_true rfl⟩) tru_h tru_b 4 rfl rfl rfl rfl rfl hl.1 (Nat.le_of_ble_eq_true rfl) dX3_operationCodes_133 ⟨Nat.zero_le _, Nat.zero_le _⟩ (fun u35 H locs hP hD hS hw => ?_)
    replace hP : va_P D vwCl (WP cB cI q0 q1 q2 q3 q4 q5 q6 q7 q8 q9 (ps_flags (ps_regs u31 u35) u33)) H := hP
    replace hD : va_D A (WP cB cI q0 q1 q2 q3 q4 q5 q6 q7 q8 q9 (ps_flags (ps_regs u31 u35) u33)) := hD
    refine lv_goto (tgt := 225) hx hb dX3_operationCodes_136 (by decide) ?_
    exact rt_v (wo := (fun v => WP cB cI q0 q1 q2 q3 q4 q5 q6 q7 q8 q9 v)) S hr hlk (ps_flags (ps_regs u31 u35) u33) hP hS hw dX3_operationCodes_225
  have b68 : ∀ (x2 : Int32) (x3 : Int32) (u : SP) (H : Heap) (locs : List Loc) (ls : Array Slot), va_P D vwCl (WP cB cI q0 q1 q2 q3 q4 q5 q6 q7 q8 q9 u) H → va_D A (WP cB cI q0 q1 q2 q3 q4 q5 q6 q7 q8 q9 u) → va_S A s.heap H locs → lv_has ls 4 [(0, .ref q0), (2, .int x2), (3, .int x3)] → wX3_operationCodes_b68  P x2 x3 u → W p l e ({ frames := 5, cells := 0, slots := 0, locals := 120 } : Room) s m ([.ref q0] : List Value).toArray below meth c H locs 0 0 (MQ below (va_Qv P (fun u t => va_P D vwCl (WP cB cI q0 q1 q2 q3 q4 q5 q6 q7 q8 q9 u) t.heap) A) ([.ref q0] : List Value).toArray s 0 0 A) (F0 m 68 ls []) := by
    intro x2 x3 u H locs ls hP hD hS hl hw
    unfold wX3_operationCodes_b68 at hw
    refine lv_aload_n hx hb dX3_operationCodes_68 rfl (lv_at hl 0 rfl) ?_
    refine lv_iload_n hx hb dX3_operationCodes_69 rfl (lv_at hl 1 rfl) ?_
    refine lv_aload_n hx hb dX3_operationCodes_70 rfl (lv_at hl 0 rfl) ?_
    refine va_get (D := D) (ci := 3) (v := .ref q4) (C := RX3) (T := TX3) (N := 8) hx hb hts i_X3 hown hK hP 0 rfl rfl 1 (by decide) f_21 (fun _ h9 => h9) rfl dX3_operationCodes_71 ?_
    refine lv_aload_n hx hb dX3_operationCodes_74 rfl (lv_at hl 0 rfl) ?_
    refine va_get (D := D) (ci := 3) (v := .ref q8) (C := RX3) (T := TX3) (N := 8) hx hb hts i_X3 hown hK hP 0 rfl rfl 3 (by decide) f_35 (fun _ h9 => h9) rfl dX3_operationCodes_75 ?_
    refine va_get (D := D) (ci := 1) (v := .int (c_r (p_code u))) (C := RX1) (T := TX1) (N := 12) hx hb hts i_X1 hown hK hP 8 rfl rfl 5 (by decide) f_191 (fun _ h9 => h9) rfl dX3_operationCodes_78 ?_
    refine lv_iload_n hx hb dX3_operationCodes_81 rfl (lv_at hl 2 rfl) ?_
    refine cl_Vi (As := [.int (c_r (p_code u)), .int x3]) (rest := [.int x2, .ref q0]) (st := [.int x3, .int (c_r (p_code u)), .ref q4, .int x2, .ref q0]) S hK hA hP hD hS (fr_P_R u) (kcX4_value l D cB cI q4 q5 q6 H.size (c_r (p_code u)) x3 (p_regs u) _ hw) (cwV 2 hts gX3_operationCodes_X4_value rfl rfl rfl (by decide +kernel) ⟨Nat.le_of_ble_eq_true rfl, Nat.le_of_ble_eq_true rfl⟩) tru_h tru_b 4 rfl rfl rfl rfl rfl hl.1 (Nat.le_of_ble_eq_true rfl) dX3_operationCodes_82 ⟨Nat.zero_le _, Nat.zero_le _⟩ (fun r26 u25 H locs hP hD hS hw => ?_)
    replace hP : va_P D vwCl (WP cB cI q0 q1 q2 q3 q4 q5 q6 q7 q8 q9 (ps_regs u u25)) H := hP
    replace hD : va_D A (WP cB cI q0 q1 q2 q3 q4 q5 q6 q7 q8 q9 (ps_regs u u25)) := hD
    refine lv_iload_n hx hb dX3_operationCodes_85 rfl (lv_at hl 2 rfl) ?_
    refine cl_Vv (As := [.int x2, .int r26, .int x3]) (rest := []) (st := [.int x3, .int r26, .int x2, .ref q0]) S hK hA hP hD hS (fr_P (ps_regs u u25)) (kcX3_operateE l D cB cI q0 q1 q2 q3 q4 q5 q6 q7 q8 q9 H.size x2 r26 x3 (ps_regs u u25) _ hw) (cwV 3 hts gX3_operationCodes_X3_operateE rfl rfl rfl (by decide +kernel) ⟨Nat.le_of_ble_eq_true rfl, Nat.le_of_ble_eq_true rfl⟩) tru_h tru_b 0 rfl rfl rfl rfl rfl hl.1 (Nat.le_of_ble_eq_true rfl) dX3_operationCodes_86 ⟨Nat.zero_le _, Nat.zero_le _⟩ (fun u27 H locs hP hD hS hw => ?_)
    replace hP : va_P D vwCl (WP cB cI q0 q1 q2 q3 q4 q5 q6 q7 q8 q9 u27) H := hP
    replace hD : va_D A (WP cB cI q0 q1 q2 q3 q4 q5 q6 q7 q8 q9 u27) := hD
    refine lv_goto (tgt := 225) hx hb dX3_operationCodes_89 (by decide) ?_
    exact rt_v (wo := (fun v => WP cB cI q0 q1 q2 q3 q4 q5 q6 q7 q8 q9 v)) S hr hlk u27 hP hS hw dX3_operationCodes_225
  unfold wX3_operationCodes at hw
  obtain ⟨H, eH⟩ : ∃ H, H = s.heap := ⟨_, rfl⟩
  obtain ⟨locs, eL⟩ : ∃ locs : List Loc, locs = [] := ⟨_, rfl⟩
  replace hP : va_P D vwCl (WP cB cI q0 q1 q2 q3 q4 q5 q6 q7 q8 q9 u) H := by rw [eH]; exact hP
  replace hS : va_S A s.heap H locs := by rw [eH, eL]; exact hS
  suffices hgo : W p l e ({ frames := 5, cells := 0, slots := 0, locals := 120 } : Room) s m ([.ref q0] : List Value).toArray below meth c H locs 0 0 (MQ below (va_Qv P (fun u t => va_P D vwCl (WP cB cI q0 q1 q2 q3 q4 q5 q6 q7 q8 q9 u) t.heap) A) ([.ref q0] : List Value).toArray s 0 0 A) (F0 m 0 ls []) by rw [eH, eL] at hgo; exact hgo
  clear eH eL
  refine lv_aload_n hx hb dX3_operationCodes_0 rfl (lv_at hl 0 rfl) ?_
  refine va_get (D := D) (ci := 3) (v := .ref q8) (C := RX3) (T := TX3) (N := 8) hx hb hts i_X3 hown hK hP 0 rfl rfl 3 (by decide) f_35 (fun _ h9 => h9) rfl dX3_operationCodes_1 ?_
  refine va_get (D := D) (ci := 1) (v := .int (c_number (p_code u))) (C := RX1) (T := TX1) (N := 12) hx hb hts i_X1 hown hK hP 8 rfl rfl 1 (by decide) f_47 (fun _ h9 => h9) rfl dX3_operationCodes_4 ?_
  refine lv_istore_n (lv' := [(1, .int (c_number (p_code u))), (0, .ref q0)]) hx hb dX3_operationCodes_7 rfl hl (by decide) rfl (fun ls hl => ?_)
  refine lv_iload_n hx hb dX3_operationCodes_8 rfl (lv_at hl 0 rfl) ?_
  refine lv_iconst (v := (3 : Int32)) hx hb dX3_operationCodes_9 (by decide) ?_
  refine lv_ishr hx hb dX3_operationCodes_10 ?_
  refine lv_bipush (v := (7 : Int32)) hx hb dX3_operationCodes_11 (by decide) ?_
  refine lv_iand hx hb dX3_operationCodes_13 ?_
  refine lv_istore_n (lv' := [(2, .int (((c_number (p_code u)) >>> ((3 : Int32) &&& 31)) &&& (7 : Int32))), (1, .int (c_number (p_code u))), (0, .ref q0)]) hx hb dX3_operationCodes_14 rfl hl (by decide) rfl (fun ls hl => ?_)
  refine lv_aload_n hx hb dX3_operationCodes_15 rfl (lv_at hl 2 rfl) ?_
  refine va_get (D := D) (ci := 3) (v := .ref q8) (C := RX3) (T := TX3) (N := 8) hx hb hts i_X3 hown hK hP 0 rfl rfl 3 (by decide) f_35 (fun _ h9 => h9) rfl dX3_operationCodes_16 ?_
  refine cl_Vi (As := []) (rest := []) (st := [.ref q8]) S hK hA hP hD hS (fr_P_C u) (kcX1_wide l D cB cI q8 H.size  (p_code u) _ hw) (cwV 0 hts gX3_operationCodes_X1_wide rfl rfl rfl (by decide +kernel) ⟨Nat.le_of_ble_eq_true rfl, Nat.le_of_ble_eq_true rfl⟩) tru_h tru_b 8 rfl rfl rfl rfl rfl hl.1 (Nat.le_of_ble_eq_true rfl) dX3_operationCodes_19 ⟨Nat.zero_le _, Nat.zero_le _⟩ (fun r2 u1 H locs hP hD hS hw => ?_)
  replace hP : va_P D vwCl (WP cB cI q0 q1 q2 q3 q4 q5 q6 q7 q8 q9 (ps_code u u1)) H := hP
  replace hD : va_D A (WP cB cI q0 q1 q2 q3 q4 q5 q6 q7 q8 q9 (ps_code u u1)) := hD
  refine lv_istore_n (lv' := [(3, .int r2), (2, .int (((c_number (p_code u)) >>> ((3 : Int32) &&& 31)) &&& (7 : Int32))), (1, .int (c_number (p_code u))), (0, .ref q0)]) hx hb dX3_operationCodes_22 rfl hl (by decide) rfl (fun ls hl => ?_)
  refine lv_iload_n hx hb dX3_operationCodes_23 rfl (lv_at hl 2 rfl) ?_
  refine lv_bipush (v := (7 : Int32)) hx hb dX3_operationCodes_24 (by decide) ?_
  refine lv_iand hx hb dX3_operationCodes_26 ?_
  by_cases c3 : ((c_number (p_code u)) &&& (7 : Int32)) = (0 : Int32)
  · replace hw := hw.1 c3
    refine lv_tableIn (off := 41) (tgt := 68) hx hb dX3_operationCodes_27 (by rw [c3]; decide) (by rw [c3]; decide) (by rw [c3]; rfl) (by decide) ?_
    exact b68 (((c_number (p_code u)) >>> ((3 : Int32) &&& 31)) &&& (7 : Int32)) r2 (ps_code u u1) H locs ls hP hD hS (lv_sub hl [3, 1, 0] rfl) hw
  replace hw := hw.2 c3
  by_cases c4 : ((c_number (p_code u)) &&& (7 : Int32)) = (1 : Int32)
  · replace hw := hw.1 c4
    refine lv_tableIn (off := 41) (tgt := 68) hx hb dX3_operationCodes_27 (by rw [c4]; decide) (by rw [c4]; decide) (by rw [c4]; rfl) (by decide) ?_
    exact b68 (((c_number (p_code u)) >>> ((3 : Int32) &&& 31)) &&& (7 : Int32)) r2 (ps_code u u1) H locs ls hP hD hS (lv_sub hl [3, 1, 0] rfl) hw
  replace hw := hw.2 c4
  by_cases c5 : ((c_number (p_code u)) &&& (7 : Int32)) = (2 : Int32)
  · replace hw := hw.1 c5
    refine lv_tableIn (off := 65) (tgt := 92) hx hb dX3_operationCodes_27 (by rw [c5]; decide) (by rw [c5]; decide) (by rw [c5]; rfl) (by decide) ?_
    exact b92 (((c_number (p_code u)) >>> ((3 : Int32) &&& 31)) &&& (7 : Int32)) r2 (ps_code u u1) H locs ls hP hD hS (lv_sub hl [3, 1, 0] rfl) hw
  replace hw := hw.2 c5
  by_cases c6 : ((c_number (p_code u)) &&& (7 : Int32)) = (3 : Int32)
  · replace hw := hw.1 c6
    refine lv_tableIn (off := 65) (tgt := 92) hx hb dX3_operationCodes_27 (by rw [c6]; decide) (by rw [c6]; decide) (by rw [c6]; rfl) (by decide) ?_
    exact b92 (((c_number (p_code u)) >>> ((3 : Int32) &&& 31)) &&& (7 : Int32)) r2 (ps_code u u1) H locs ls hP hD hS (lv_sub hl [3, 1, 0] rfl) hw
  replace hw := hw.2 c6
  by_cases c7 : ((c_number (p_code u)) &&& (7 : Int32)) = (4 : Int32)
  · replace hw := hw.1 c7
    refine lv_tableIn (off := 112) (tgt := 139) hx hb dX3_operationCodes_27 (by rw [c7]; decide) (by rw [c7]; decide) (by rw [c7]; rfl) (by decide) ?_
    exact b139 (((c_number (p_code u)) >>> ((3 : Int32) &&& 31)) &&& (7 : Int32)) r2 (ps_code u u1) H locs ls hP hD hS (lv_sub hl [3, 1, 0] rfl) hw
  replace hw := hw.2 c7
  by_cases c8 : ((c_number (p_code u)) &&& (7 : Int32)) = (5 : Int32)
  · replace hw := hw.1 c8
    refine lv_tableIn (off := 112) (tgt := 139) hx hb dX3_operationCodes_27 (by rw [c8]; decide) (by rw [c8]; decide) (by rw [c8]; rfl) (by decide) ?_
    exact b139 (((c_number (p_code u)) >>> ((3 : Int32) &&& 31)) &&& (7 : Int32)) r2 (ps_code u u1) H locs ls hP hD hS (lv_sub hl [3, 1, 0] rfl) hw
  replace hw := hw.2 c8
  by_cases c9 : ((c_number (p_code u)) &&& (7 : Int32)) = (6 : Int32)
  · replace hw := hw.1 c9
    refine lv_tableIn (off := 141) (tgt := 168) hx hb dX3_operationCodes_27 (by rw [c9]; decide) (by rw [c9]; decide) (by rw [c9]; rfl) (by decide) ?_
    refine lv_aload_n hx hb dX3_operationCodes_168 rfl (lv_at hl 3 rfl) ?_
    refine lv_aload_n hx hb dX3_operationCodes_169 rfl (lv_at hl 3 rfl) ?_
    refine va_get (D := D) (ci := 3) (v := .ref q4) (C := RX3) (T := TX3) (N := 8) hx hb hts i_X3 hown hK hP 0 rfl rfl 1 (by decide) f_21 (fun _ h9 => h9) rfl dX3_operationCodes_170 ?_
    refine lv_iload_n hx hb dX3_operationCodes_173 rfl (lv_at hl 1 rfl) ?_
    refine cl_Vi (As := [.int (((c_number (p_code u)) >>> ((3 : Int32) &&& 31)) &&& (7 : Int32))]) (rest := [.ref q0]) (st := [.int (((c_number (p_code u)) >>> ((3 : Int32) &&& 31)) &&& (7 : Int32)), .ref q4, .ref q0]) S hK hA hP hD hS (fr_P_R (ps_code u u1)) (kcX4_segment l D cB cI q4 q5 q6 H.size (((c_number (p_code u)) >>> ((3 : Int32) &&& 31)) &&& (7 : Int32)) (p_regs u) _ hw) (cwV 1 hts gX3_operationCodes_X4_segment rfl rfl rfl (by decide +kernel) ⟨Nat.le_of_ble_eq_true rfl, Nat.le_of_ble_eq_true rfl⟩) tru_h tru_b 4 rfl rfl rfl rfl rfl hl.1 (Nat.le_of_ble_eq_true rfl) dX3_operationCodes_174 ⟨Nat.zero_le _, Nat.zero_le _⟩ (fun r11 u10 H locs hP hD hS hw => ?_)
    replace hP : va_P D vwCl (WP cB cI q0 q1 q2 q3 q4 q5 q6 q7 q8 q9 (ps_code (ps_regs u u10) u1)) H := hP
    replace hD : va_D A (WP cB cI q0 q1 q2 q3 q4 q5 q6 q7 q8 q9 (ps_code (ps_regs u u10) u1)) := hD
    refine cl_Vv (As := [.int r11]) (rest := []) (st := [.int r11, .ref q0]) S hK hA hP hD hS (fr_P (ps_code (ps_regs u u10) u1)) (kcX3_push l D cB cI q0 q1 q2 q3 q4 q5 q6 q7 q8 q9 H.size r11 (ps_code (ps_regs u u10) u1) _ hw) (cwV 1 hts gX3_operationCodes_X3_push rfl rfl rfl (by decide +kernel) ⟨Nat.le_of_ble_eq_true rfl, Nat.le_of_ble_eq_true rfl⟩) tru_h tru_b 0 rfl rfl rfl rfl rfl hl.1 (Nat.le_of_ble_eq_true rfl) dX3_operationCodes_177 ⟨Nat.zero_le _, Nat.zero_le _⟩ (fun u12 H locs hP hD hS hw => ?_)
    replace hP : va_P D vwCl (WP cB cI q0 q1 q2 q3 q4 q5 q6 q7 q8 q9 u12) H := hP
    replace hD : va_D A (WP cB cI q0 q1 q2 q3 q4 q5 q6 q7 q8 q9 u12) := hD
    refine lv_goto (tgt := 225) hx hb dX3_operationCodes_180 (by decide) ?_
    exact rt_v (wo := (fun v => WP cB cI q0 q1 q2 q3 q4 q5 q6 q7 q8 q9 v)) S hr hlk u12 hP hS hw dX3_operationCodes_225
  replace hw := hw.2 c9
  refine lv_tableOut (tgt := 183) hx hb dX3_operationCodes_27 (by have e_c3 : ¬ (((c_number (p_code u)) &&& (7 : Int32)) : Int32).toInt = 0 := sw_ne c3; have e_c4 : ¬ (((c_number (p_code u)) &&& (7 : Int32)) : Int32).toInt = 1 := sw_ne c4; have e_c5 : ¬ (((c_number (p_code u)) &&& (7 : Int32)) : Int32).toInt = 2 := sw_ne c5; have e_c6 : ¬ (((c_number (p_code u)) &&& (7 : Int32)) : Int32).toInt = 3 := sw_ne c6; have e_c7 : ¬ (((c_number (p_code u)) &&& (7 : Int32)) : Int32).toInt = 4 := sw_ne c7; have e_c8 : ¬ (((c_number (p_code u)) &&& (7 : Int32)) : Int32).toInt = 5 := sw_ne c8; have e_c9 : ¬ (((c_number (p_code u)) &&& (7 : Int32)) : Int32).toInt = 6 := sw_ne c9; omega) (by decide) ?_
  refine lv_iload_n hx hb dX3_operationCodes_183 rfl (lv_at hl 2 rfl) ?_
  refine lv_bipush (v := (32 : Int32)) hx hb dX3_operationCodes_184 (by decide) ?_
  refine lv_icmp_ge (tgt := 204) hx hb dX3_operationCodes_186 (by decide) (fun c14 => ?_) (fun c14 => ?_)
  · replace hw := hw.1 c14
    refine lv_aload_n hx hb dX3_operationCodes_204 rfl (lv_at hl 3 rfl) ?_
    refine lv_aload_n hx hb dX3_operationCodes_205 rfl (lv_at hl 3 rfl) ?_
    refine va_get (D := D) (ci := 3) (v := .ref q7) (C := RX3) (T := TX3) (N := 8) hx hb hts i_X3 hown hK hP 0 rfl rfl 2 (by decide) f_28 (fun _ h9 => h9) rfl dX3_operationCodes_206 ?_
    refine lv_iload_n hx hb dX3_operationCodes_209 rfl (lv_at hl 1 rfl) ?_
    refine lv_iconst (v := (3 : Int32)) hx hb dX3_operationCodes_210 (by decide) ?_
    refine lv_iand hx hb dX3_operationCodes_211 ?_
    refine lv_aload_n hx hb dX3_operationCodes_212 rfl (lv_at hl 3 rfl) ?_
    refine lv_iconst (v := (1 : Int32)) hx hb dX3_operationCodes_213 (by decide) ?_
    refine cl_Vi (As := [.int (1 : Int32)]) (rest := [.int ((((c_number (p_code u)) >>> ((3 : Int32) &&& 31)) &&& (7 : Int32)) &&& (3 : Int32)), .ref q7, .ref q0]) (st := [.int (1 : Int32), .ref q0, .int ((((c_number (p_code u)) >>> ((3 : Int32) &&& 31)) &&& (7 : Int32)) &&& (3 : Int32)), .ref q7, .ref q0]) S hK hA hP hD hS (fr_P (ps_code u u1)) (kcX3_a l D cB cI q0 q1 q2 q3 q4 q5 q6 q7 q8 q9 H.size (1 : Int32) (ps_code u u1) _ hw) (cwV 1 hts gX3_operationCodes_X3_a rfl rfl rfl (by decide +kernel) ⟨Nat.le_of_ble_eq_true rfl, Nat.le_of_ble_eq_true rfl⟩) tru_h tru_b 0 rfl rfl rfl rfl rfl hl.1 (Nat.le_of_ble_eq_true rfl) dX3_operationCodes_214 ⟨Nat.zero_le _, Nat.zero_le _⟩ (fun r16 u15 H locs hP hD hS hw => ?_)
    replace hP : va_P D vwCl (WP cB cI q0 q1 q2 q3 q4 q5 q6 q7 q8 q9 u15) H := hP
    replace hD : va_D A (WP cB cI q0 q1 q2 q3 q4 q5 q6 q7 q8 q9 u15) := hD
    refine lv_iconst (v := (0 : Int32)) hx hb dX3_operationCodes_217 (by decide) ?_
    refine cl_Vi (As := [.int ((((c_number (p_code u)) >>> ((3 : Int32) &&& 31)) &&& (7 : Int32)) &&& (3 : Int32)), .int r16, .int (0 : Int32)]) (rest := [.ref q0]) (st := [.int (0 : Int32), .int r16, .int ((((c_number (p_code u)) >>> ((3 : Int32) &&& 31)) &&& (7 : Int32)) &&& (3 : Int32)), .ref q7, .ref q0]) S hK hA hP hD hS (fr_P_A u15) (kcX0_adjustment l D cB cI q7 H.size ((((c_number (p_code u)) >>> ((3 : Int32) &&& 31)) &&& (7 : Int32)) &&& (3 : Int32)) r16 (0 : Int32) (p_flags u15) _ hw) (cwV 3 hts gX3_operationCodes_X0_adjustment rfl rfl rfl (by decide +kernel) ⟨Nat.le_of_ble_eq_true rfl, Nat.le_of_ble_eq_true rfl⟩) tru_h tru_b 7 rfl rfl rfl rfl rfl hl.1 (Nat.le_of_ble_eq_true rfl) dX3_operationCodes_218 ⟨Nat.zero_le _, Nat.zero_le _⟩ (fun r18 u17 H locs hP hD hS hw => ?_)
    replace hP : va_P D vwCl (WP cB cI q0 q1 q2 q3 q4 q5 q6 q7 q8 q9 (ps_flags u15 u17)) H := hP
    replace hD : va_D A (WP cB cI q0 q1 q2 q3 q4 q5 q6 q7 q8 q9 (ps_flags u15 u17)) := hD
    refine lv_iconst (v := (1 : Int32)) hx hb dX3_operationCodes_221 (by decide) ?_
    refine cl_Vv (As := [.int r18, .int (1 : Int32)]) (rest := []) (st := [.int (1 : Int32), .int r18, .ref q0]) S hK hA hP hD hS (fr_P (ps_flags u15 u17)) (kcX3_giveA l D cB cI q0 q1 q2 q3 q4 q5 q6 q7 q8 q9 H.size r18 (1 : Int32) (ps_flags u15 u17) _ hw) (cwV 2 hts gX3_operationCodes_X3_giveA rfl rfl rfl (by decide +kernel) ⟨Nat.le_of_ble_eq_true rfl, Nat.le_of_ble_eq_true rfl⟩) tru_h tru_b 0 rfl rfl rfl rfl rfl hl.1 (Nat.le_of_ble_eq_true rfl) dX3_operationCodes_222 ⟨Nat.zero_le _, Nat.zero_le _⟩ (fun u19 H locs hP hD hS hw => ?_)
    replace hP : va_P D vwCl (WP cB cI q0 q1 q2 q3 q4 q5 q6 q7 q8 q9 u19) H := hP
    replace hD : va_D A (WP cB cI q0 q1 q2 q3 q4 q5 q6 q7 q8 q9 u19) := hD
    exact rt_v (wo := (fun v => WP cB cI q0 q1 q2 q3 q4 q5 q6 q7 q8 q9 v)) S hr hlk u19 hP hS hw dX3_operationCodes_225
  · replace hw := hw.2 c14
    refine lv_aload_n hx hb dX3_operationCodes_189 rfl (lv_at hl 3 rfl) ?_
    refine va_get (D := D) (ci := 3) (v := .ref q4) (C := RX3) (T := TX3) (N := 8) hx hb hts i_X3 hown hK hP 0 rfl rfl 1 (by decide) f_21 (fun _ h9 => h9) rfl dX3_operationCodes_190 ?_
    refine lv_iload_n hx hb dX3_operationCodes_193 rfl (lv_at hl 1 rfl) ?_
    refine lv_aload_n hx hb dX3_operationCodes_194 rfl (lv_at hl 3 rfl) ?_
    refine cl_Vi (As := []) (rest := [.int (((c_number (p_code u)) >>> ((3 : Int32) &&& 31)) &&& (7 : Int32)), .ref q4]) (st := [.ref q0, .int (((c_number (p_code u)) >>> ((3 : Int32) &&& 31)) &&& (7 : Int32)), .ref q4]) S hK hA hP hD hS (fr_P (ps_code u u1)) (kcX3_pop l D cB cI q0 q1 q2 q3 q4 q5 q6 q7 q8 q9 H.size  (ps_code u u1) _ hw) (cwV 0 hts gX3_operationCodes_X3_pop rfl rfl rfl (by decide +kernel) ⟨Nat.le_of_ble_eq_true rfl, Nat.le_of_ble_eq_true rfl⟩) tru_h tru_b 0 rfl rfl rfl rfl rfl hl.1 (Nat.le_of_ble_eq_true rfl) dX3_operationCodes_195 ⟨Nat.zero_le _, Nat.zero_le _⟩ (fun r22 u21 H locs hP hD hS hw => ?_)
    replace hP : va_P D vwCl (WP cB cI q0 q1 q2 q3 q4 q5 q6 q7 q8 q9 u21) H := hP
    replace hD : va_D A (WP cB cI q0 q1 q2 q3 q4 q5 q6 q7 q8 q9 u21) := hD
    refine cl_Vv (As := [.int (((c_number (p_code u)) >>> ((3 : Int32) &&& 31)) &&& (7 : Int32)), .int r22]) (rest := []) (st := [.int r22, .int (((c_number (p_code u)) >>> ((3 : Int32) &&& 31)) &&& (7 : Int32)), .ref q4]) S hK hA hP hD hS (fr_P_R u21) (kcX4_setSegment l D cB cI q4 q5 q6 H.size (((c_number (p_code u)) >>> ((3 : Int32) &&& 31)) &&& (7 : Int32)) r22 (p_regs u21) _ hw) (cwV 2 hts gX3_operationCodes_X4_setSegment rfl rfl rfl (by decide +kernel) ⟨Nat.le_of_ble_eq_true rfl, Nat.le_of_ble_eq_true rfl⟩) tru_h tru_b 4 rfl rfl rfl rfl rfl hl.1 (Nat.le_of_ble_eq_true rfl) dX3_operationCodes_198 ⟨Nat.zero_le _, Nat.zero_le _⟩ (fun u23 H locs hP hD hS hw => ?_)
    replace hP : va_P D vwCl (WP cB cI q0 q1 q2 q3 q4 q5 q6 q7 q8 q9 (ps_regs u21 u23)) H := hP
    replace hD : va_D A (WP cB cI q0 q1 q2 q3 q4 q5 q6 q7 q8 q9 (ps_regs u21 u23)) := hD
    refine lv_goto (tgt := 225) hx hb dX3_operationCodes_201 (by decide) ?_
    exact rt_v (wo := (fun v => WP cB cI q0 q1 q2 q3 q4 q5 q6 q7 q8 q9 v)) S hr hlk (ps_regs u21 u23) hP hS hw dX3_operationCodes_225
-- X3_segmentFor
def wX3_segmentFor (a1 : Int32) (u : SP) (P : Int32 → SP → Prop) : Prop := (wX1_segmentOr a1 (p_code u) (fun r2 u1 => (wX4_segment r2 (p_regs u) (fun r4 u3 => (P r4 (ps_code (ps_regs u u3) u1))))))
set_option maxHeartbeats 4000000 in
set_option maxRecDepth 100000 in
theorem kcX3_segmentFor (l : Launch) (D : va_G) (cB cI : ClassId) (q0 q1 q2 q3 q4 q5 q6 q7 q8 q9 : Nat) (sz : Nat) (a1 : Int32) (u : SP) (P : Int32 → SP → Prop) (hw : wX3_segmentFor a1 u P) : Met l yX3_segmentFor wsX3_segmentFor ({ frames := 1, cells := 0, slots := 0, locals := 21 } : Room) (va_Pc [.ref q0, .int a1] (Pcw D (tyA cB cI) (WP cB cI q0 q1 q2 q3 q4 q5 q6 q7 q8 q9 u) sz Tru)) (va_Qi P (fun u t => va_P D vwCl (WP cB cI q0 q1 q2 q3 q4 q5 q6 q7 q8 q9 u) t.heap) (va_A (WP cB cI q0 q1 q2 q3 q4 q5 q6 q7 q8 q9 u) sz)) 0 0 (va_A (WP cB cI q0 q1 q2 q3 q4 q5 q6 q7 q8 q9 u) sz) := by
  refine en_ (cc := cX3_segmentFor) (maxL := 2) (ret := (some .int)) (own := RX3) (lv := [(0, .ref q0), (1, .int a1)]) (Qf := fun A => va_Qi P (fun u t => va_P D vwCl (WP cB cI q0 q1 q2 q3 q4 q5 q6 q7 q8 q9 u) t.heap) A) (by decide) rfl rfl (Nat.le_of_ble_eq_true rfl) rfl ?_
  intro p e s m below meth c A ls S hr hlk hname hsz hP hK hD hA hSub hS hE hl
  have hx := S.1
  have hb := S.2.1
  have hown := S.2.2.2.1
  have hts := S.2.2.2.2
  have i_X3 : ∀ w ∈ u_ws RX3 TX3 8, w ∈ wsX3_segmentFor := by decide +kernel
  have f_21 := hts (.fieldLink RX3 21 "MachineCore$Processor" "registers" "LMachineCore$Registers;") (by decide +kernel)
  have f_35 := hts (.fieldLink RX3 35 "MachineCore$Processor" "code" "LMachineCore$Code;") (by decide +kernel)
  unfold wX3_segmentFor at hw
  obtain ⟨H, eH⟩ : ∃ H, H = s.heap := ⟨_, rfl⟩
  obtain ⟨locs, eL⟩ : ∃ locs : List Loc, locs = [] := ⟨_, rfl⟩
  replace hP : va_P D vwCl (WP cB cI q0 q1 q2 q3 q4 q5 q6 q7 q8 q9 u) H := by rw [eH]; exact hP
  replace hS : va_S A s.heap H locs := by rw [eH, eL]; exact hS
  suffices hgo : W p l e ({ frames := 1, cells := 0, slots := 0, locals := 21 } : Room) s m ([.ref q0, .int a1] : List Value).toArray below meth c H locs 0 0 (MQ below (va_Qi P (fun u t => va_P D vwCl (WP cB cI q0 q1 q2 q3 q4 q5 q6 q7 q8 q9 u) t.heap) A) ([.ref q0, .int a1] : List Value).toArray s 0 0 A) (F0 m 0 ls []) by rw [eH, eL] at hgo; exact hgo
  clear eH eL
  refine lv_aload_n hx hb dX3_segmentFor_0 rfl (lv_at hl 0 rfl) ?_
  refine va_get (D := D) (ci := 3) (v := .ref q4) (C := RX3) (T := TX3) (N := 8) hx hb hts i_X3 hown hK hP 0 rfl rfl 1 (by decide) f_21 (fun _ h9 => h9) rfl dX3_segmentFor_1 ?_
  refine lv_aload_n hx hb dX3_segmentFor_4 rfl (lv_at hl 0 rfl) ?_
  refine va_get (D := D) (ci := 3) (v := .ref q8) (C := RX3) (T := TX3) (N := 8) hx hb hts i_X3 hown hK hP 0 rfl rfl 3 (by decide) f_35 (fun _ h9 => h9) rfl dX3_segmentFor_5 ?_
  refine lv_iload_n hx hb dX3_segmentFor_8 rfl (lv_at hl 1 rfl) ?_
  refine cl_Vi (As := [.int a1]) (rest := [.ref q4]) (st := [.int a1, .ref q8, .ref q4]) S hK hA hP hD hS (fr_P_C u) (kcX1_segmentOr l D cB cI q8 H.size a1 (p_code u) _ hw) (cwV 1 hts gX3_segmentFor_X1_segmentOr rfl rfl rfl (by decide +kernel) ⟨Nat.le_of_ble_eq_true rfl, Nat.le_of_ble_eq_true rfl⟩) tru_h tru_b 8 rfl rfl rfl rfl rfl hl.1 (Nat.le_of_ble_eq_true rfl) dX3_segmentFor_9 ⟨Nat.zero_le _, Nat.zero_le _⟩ (fun r2 u1 H locs hP hD hS hw => ?_)
  replace hP : va_P D vwCl (WP cB cI q0 q1 q2 q3 q4 q5 q6 q7 q8 q9 (ps_code u u1)) H := hP
  replace hD : va_D A (WP cB cI q0 q1 q2 q3 q4 q5 q6 q7 q8 q9 (ps_code u u1)) := hD
  refine cl_Vi (As := [.int r2]) (rest := []) (st := [.int r2, .ref q4]) S hK hA hP hD hS (fr_P_R (ps_code u u1)) (kcX4_segment l D cB cI q4 q5 q6 H.size r2 (p_regs u) _ hw) (cwV 1 hts gX3_segmentFor_X4_segment rfl rfl rfl (by decide +kernel) ⟨Nat.le_of_ble_eq_true rfl, Nat.le_of_ble_eq_true rfl⟩) tru_h tru_b 4 rfl rfl rfl rfl rfl hl.1 (Nat.le_of_ble_eq_true rfl) dX3_segmentFor_12 ⟨Nat.zero_le _, Nat.zero_le _⟩ (fun r4 u3 H locs hP hD hS hw => ?_)
  replace hP : va_P D vwCl (WP cB cI q0 q1 q2 q3 q4 q5 q6 q7 q8 q9 (ps_code (ps_regs u u3) u1)) H := hP
  replace hD : va_D A (WP cB cI q0 q1 q2 q3 q4 q5 q6 q7 q8 q9 (ps_code (ps_regs u u3) u1)) := hD
  exact rt_i (wo := (fun v => WP cB cI q0 q1 q2 q3 q4 q5 q6 q7 q8 q9 v)) S hr hlk (ps_code (ps_regs u u3) u1) hP hS hw dX3_segmentFor_15
-- X3_placeCodes
def wX3_placeCodes  (u : SP) (P : SP → Prop) : Prop := (wX1_wide  (p_code u) (fun r2 u1 => (wX3_segmentFor (3 : Int32) (ps_code u u1) (fun r4 u3 => (((c_number (p_code u3)) < (168 : Int32) → (((c_number (p_code u3)) < (162 : Int32) → (wX2_load r4 (c_first (p_code u3)) r2 (p_mem u3) (fun r8 u7 => (wX3_giveA r8 r2 (ps_mem u3 u7) (fun u9 => (P u9)))))) ∧ (¬ (c_number (p_code u3)) < (162 : Int32) → (wX3_a r2 u3 (fun r12 u11 => (wX2_store r4 (c_first (p_code u3)) r12 r2 (p_mem u11) (fun u13 => (P (ps_mem u11 u13))))))))) ∧ (¬ (c_number (p_code u3)) < (168 : Int32) → (wX3_a r2 u3 (fun r16 u15 => (wX0_operation (8 : Int32) r16 (c_first (p_code u15)) r2 (p_flags u15) (fun r18 u17 => (P (ps_flags u15 u17))))))))))))
set_option maxHeartbeats 4000000 in
set_option maxRecDepth 100000 in
theorem kcX3_placeCodes (l : Launch) (D : va_G) (cB cI : ClassId) (q0 q1 q2 q3 q4 q5 q6 q7 q8 q9 : Nat) (sz : Nat)  (u : SP) (P : SP → Prop) (hw : wX3_placeCodes  u P) : Met l yX3_placeCodes wsX3_placeCodes ({ frames := 4, cells := 0, slots := 0, locals := 96 } : Room) (va_Pc [.ref q0] (Pcw D (tyA cB cI) (WP cB cI q0 q1 q2 q3 q4 q5 q6 q7 q8 q9 u) sz Tru)) (va_Qv P (fun u t => va_P D vwCl (WP cB cI q0 q1 q2 q3 q4 q5 q6 q7 q8 q9 u) t.heap) (va_A (WP cB cI q0 q1 q2 q3 q4 q5 q6 q7 q8 q9 u) sz)) 0 0 (va_A (WP cB cI q0 q1 q2 q3 q4 q5 q6 q7 q8 q9 u) sz) := by
  refine en_ (cc := cX3_placeCodes) (maxL := 3) (ret := none) (own := RX3) (lv := [(0, .ref q0)]) (Qf := fun A => va_Qv P (fun u t => va_P D vwCl (WP cB cI q0 q1 q2 q3 q4 q5 q6 q7 q8 q9 u) t.heap) A) (by decide) rfl rfl (Nat.le_of_ble_eq_true rfl) rfl ?_
  intro p e s m below meth c A ls S hr hlk hname hsz hP hK hD hA hSub hS hE hl
  have hx := S.1
  have hb := S.2.1
  have hown := S.2.2.2.1
  have hts := S.2.2.2.2
  have i_X1 : ∀ w ∈ u_ws RX1 TX1 12, w ∈ wsX3_placeCodes := by decide +kernel
  have i_X3 : ∀ w ∈ u_ws RX3 TX3 8, w ∈ wsX3_placeCodes := by decide +kernel
  have f_12 := hts (.fieldLink RX3 12 "MachineCore$Processor" "memory" "LMachineCore$Memory;") (by decide +kernel)
  have f_28 := hts (.fieldLink RX3 28 "MachineCore$Processor" "arithmetic" "LMachineCore$Arithmetic;") (by decide +kernel)
  have f_35 := hts (.fieldLink RX3 35 "MachineCore$Processor" "code" "LMachineCore$Code;") (by decide +kernel)
  have f_47 := hts (.fieldLink RX3 47 "MachineCore$Code" "number" "I") (by decide +kernel)
  have f_83 := hts (.fieldLink RX3 83 "MachineCore$Code" "first" "I") (by decide +kernel)
  unfold wX3_placeCodes at hw
  obtain ⟨H, eH⟩ : ∃ H, H = s.heap := ⟨_, rfl⟩
  obtain ⟨locs, eL⟩ : ∃ locs : List Loc, locs = [] := ⟨_, rfl⟩
  replace hP : va_P D vwCl (WP cB cI q0 q1 q2 q3 q4 q5 q6 q7 q8 q9 u) H := by rw [eH]; exact hP
  replace hS : va_S A s.heap H locs := by rw [eH, eL]; exact hS
  suffices hgo : W p l e ({ frames := 4, cells := 0, slots := 0, locals := 96 } : Room) s m ([.ref q0] : List Value).toArray below meth c H locs 0 0 (MQ below (va_Qv P (fun u t => va_P D vwCl (WP cB cI q0 q1 q2 q3 q4 q5 q6 q7 q8 q9 u) t.heap) A) ([.ref q0] : List Value).toArray s 0 0 A) (F0 m 0 ls []) by rw [eH, eL] at hgo; exact hgo
  clear eH eL
  refine lv_aload_n hx hb dX3_placeCodes_0 rfl (lv_at hl 0 rfl) ?_
  refine va_get (D := D) (ci := 3) (v := .ref q8) (C := RX3) (T := TX3) (N := 8) hx hb hts i_X3 hown hK hP 0 rfl rfl 3 (by decide) f_35 (fun _ h9 => h9) rfl dX3_placeCodes_1 ?_
  refine cl_Vi (As := []) (rest := []) (st := [.ref q8]) S hK hA hP hD hS (fr_P_C u) (kcX1_wide l D cB cI q8 H.size  (p_code u) _ hw) (cwV 0 hts gX3_placeCodes_X1_wide rfl rfl rfl (by decide +kernel) ⟨Nat.le_of_ble_eq_true rfl, Nat.le_of_ble_eq_true rfl⟩) tru_h tru_b 8 rfl rfl rfl rfl rfl hl.1 (Nat.le_of_ble_eq_true rfl) dX3_placeCodes_4 ⟨Nat.zero_le _, Nat.zero_le _⟩ (fun r2 u1 H locs hP hD hS hw => ?_)
  replace hP : va_P D vwCl (WP cB cI q0 q1 q2 q3 q4 q5 q6 q7 q8 q9 (ps_code u u1)) H := hP
  replace hD : va_D A (WP cB cI q0 q1 q2 q3 q4 q5 q6 q7 q8 q9 (ps_code u u1)) := hD
  refine lv_istore_n (lv' := [(1, .int r2), (0, .ref q0)]) hx hb dX3_placeCodes_7 rfl hl (by decide) rfl (fun ls hl => ?_)
  refine lv_aload_n hx hb dX3_placeCodes_8 rfl (lv_at hl 1 rfl) ?_
  refine lv_iconst (v := (3 : Int32)) hx hb dX3_placeCodes_9 (by decide) ?_
  refine cl_Vi (As := [.int (3 : Int32)]) (rest := []) (st := [.int (3 : Int32), .ref q0]) S hK hA hP hD hS (fr_P (ps_code u u1)) (kcX3_segmentFor l D cB cI q0 q1 q2 q3 q4 q5 q6 q7 q8 q9 H.size (3 : Int32) (ps_code u u1) _ hw) (cwV 1 hts gX3_placeCodes_X3_segmentFor rfl rfl rfl (by decide +kernel) ⟨Nat.le_of_ble_eq_true rfl, Nat.le_of_ble_eq_true rfl⟩) tru_h tru_b 0 rfl rfl rfl rfl rfl hl.1 (Nat.le_of_ble_eq_true rfl) dX3_placeCodes_10 ⟨Nat.zero_le _, Nat.zero_le _⟩ (fun r4 u3 H locs hP hD hS hw => ?_)
  replace hP : va_P D vwCl (WP cB cI q0 q1 q2 q3 q4 q5 q6 q7 q8 q9 u3) H := hP
  replace hD : va_D A (WP cB cI q0 q1 q2 q3 q4 q5 q6 q7 q8 q9 u3) := hD
  refine lv_istore_n (lv' := [(2, .int r4), (1, .int r2), (0, .ref q0)]) hx hb dX3_placeCodes_13 rfl hl (by decide) rfl (fun ls hl => ?_)
  refine lv_aload_n hx hb dX3_placeCodes_14 rfl (lv_at hl 2 rfl) ?_
  refine va_get (D := D) (ci := 3) (v := .ref q8) (C := RX3) (T := TX3) (N := 8) hx hb hts i_X3 hown hK hP 0 rfl rfl 3 (by decide) f_35 (fun _ h9 => h9) rfl dX3_placeCodes_15 ?_
  refine va_get (D := D) (ci := 1) (v := .int (c_number (p_code u3))) (C := RX1) (T := TX1) (N := 12) hx hb hts i_X1 hown hK hP 8 rfl rfl 1 (by decide) f_47 (fun _ h9 => h9) rfl dX3_placeCodes_18 ?_
  refine lv_sipush (v := (168 : Int32)) hx hb dX3_placeCodes_21 (by decide) ?_
  refine lv_icmp_lt (tgt := 53) hx hb dX3_placeCodes_24 (by decide) (fun c5 => ?_) (fun c5 => ?_)
  · replace hw := hw.1 c5
    refine lv_aload_n hx hb dX3_placeCodes_53 rfl (lv_at hl 2 rfl) ?_
    refine va_get (D := D) (ci := 3) (v := .ref q8) (C := RX3) (T := TX3) (N := 8) hx hb hts i_X3 hown hK hP 0 rfl rfl 3 (by decide) f_35 (fun _ h9 => h9) rfl dX3_placeCodes_54 ?_
    refine va_get (D := D) (ci := 1) (v := .int (c_number (p_code u3))) (C := RX1) (T := TX1) (N := 12) hx hb hts i_X1 hown hK hP 8 rfl rfl 1 (by decide) f_47 (fun _ h9 => h9) rfl dX3_placeCodes_57 ?_
    refine lv_sipush (v := (162 : Int32)) hx hb dX3_placeCodes_60 (by decide) ?_
    refine lv_icmp_lt (tgt := 90) hx hb dX3_placeCodes_63 (by decide) (fun c6 => ?_) (fun c6 => ?_)
    · replace hw := hw.1 c6
      refine lv_aload_n hx hb dX3_placeCodes_90 rfl (lv_at hl 2 rfl) ?_
      refine lv_aload_n hx hb dX3_placeCodes_91 rfl (lv_at hl 2 rfl) ?_
      refine va_get (D := D) (ci := 3) (v := .ref q1) (C := RX3) (T := TX3) (N := 8) hx hb hts i_X3 hown hK hP 0 rfl rfl 0 (by decide) f_12 (fun _ h9 => h9) rfl dX3_placeCodes_92 ?_
      refine lv_iload_n hx hb dX3_placeCodes_95 rfl (lv_at hl 0 rfl) ?_
      refine lv_aload_n hx hb dX3_placeCodes_96 rfl (lv_at hl 2 rfl) ?_
      refine va_get (D := D) (ci := 3) (v := .ref q8) (C := RX3) (T := TX3) (N := 8) hx hb hts i_X3 hown hK hP 0 rfl rfl 3 (by decide) f_35 (fun _ h9 => h9) rfl dX3_placeCodes_97 ?_
      refine va_get (D := D) (ci := 1) (v := .int (c_first (p_code u3))) (C := RX1) (T := TX1) (N := 12) hx hb hts i_X1 hown hK hP 8 rfl rfl 9 (by decide) f_83 (fun _ h9 => h9) rfl dX3_placeCodes_100 ?_
      refine lv_iload_n hx hb dX3_placeCodes_103 rfl (lv_at hl 1 rfl) ?_
      refine cl_Vi (As := [.int r4, .int (c_first (p_code u3)), .int r2]) (rest := [.ref q0]) (st := [.int r2, .int (c_first (p_code u3)), .int r4, .ref q1, .ref q0]) S hK hA hP hD hS (fr_P_M u3) (kcX2_load l D cB cI q1 q2 q3 H.size r4 (c_first (p_code u3)) r2 (p_mem u3) _ hw) (cwV 3 hts gX3_placeCodes_X2_load rfl rfl rfl (by decide +kernel) ⟨Nat.le_of_ble_eq_true rfl, Nat.le_of_ble_eq_true rfl⟩) tru_h tru_b 1 rfl rfl rfl rfl rfl hl.1 (Nat.le_of_ble_eq_true rfl) dX3_placeCodes_104 ⟨Nat.zero_le _, Nat.zero_le _⟩ (fun r8 u7 H locs hP hD hS hw => ?_)
      replace hP : va_P D vwCl (WP cB cI q0 q1 q2 q3 q4 q5 q6 q7 q8 q9 (ps_mem u3 u7)) H := hP
      replace hD : va_D A (WP cB cI q0 q1 q2 q3 q4 q5 q6 q7 q8 q9 (ps_mem u3 u7)) := hD
      refine lv_iload_n hx hb dX3_placeCodes_107 rfl (lv_at hl 1 rfl) ?_
      refine cl_Vv (As := [.int r8, .int r2]) (rest := []) (st := [.int r2, .int r8, .ref q0]) S hK hA hP hD hS (fr_P (ps_mem u3 u7)) (kcX3_giveA l D cB cI q0 q1 q2 q3 q4 q5 q6 q7 q8 q9 H.size r8 r2 (ps_mem u3 u7) _ hw) (cwV 2 hts gX3_placeCodes_X3_giveA rfl rfl rfl (by decide +kernel) ⟨Nat.le_of_ble_eq_true rfl, Nat.le_of_ble_eq_true rfl⟩) tru_h tru_b 0 rfl rfl rfl rfl rfl hl.1 (Nat.le_of_ble_eq_true rfl) dX3_placeCodes_108 ⟨Nat.zero_le _, Nat.zero_le _⟩ (fun u9 H locs hP hD hS hw => ?_)
      replace hP : va_P D vwCl (WP cB cI q0 q1 q2 q3 q4 q5 q6 q7 q8 q9 u9) H := hP
      replace hD : va_D A (WP cB cI q0 q1 q2 q3 q4 q5 q6 q7 q8 q9 u9) := hD
      exact rt_v (wo := (fun v => WP cB cI q0 q1 q2 q3 q4 q5 q6 q7 q8 q9 v)) S hr hlk u9 hP hS hw dX3_placeCodes_111
    · replace hw := hw.2 c6
      refine lv_aload_n hx hb dX3_placeCodes_66 rfl (lv_at hl 2 rfl) ?_
      refine va_get (D := D) (ci := 3) (v := .ref q1) (C := RX3) (T := TX3) (N := 8) hx hb hts i_X3 hown hK hP 0 rfl rfl 0 (by decide) f_12 (fun _ h9 => h9) rfl dX3_placeCodes_67 ?_
      refine lv_iload_n hx hb dX3_placeCodes_70 rfl (lv_at hl 0 rfl) ?_
      refine lv_aload_n hx hb dX3_placeCodes_71 rfl (lv_at hl 2 rfl) ?_
      refine va_get (D := D) (ci := 3) (v := .ref q8) (C := RX3) (T := TX3) (N := 8) hx hb hts i_X3 hown hK hP 0 rfl rfl 3 (by decide) f_35 (fun _ h9 => h9) rfl dX3_placeCodes_72 ?_
      refine va_get (D := D) (ci := 1) (v := .int (c_first (p_code u3))) (C := RX1) (T := TX1) (N := 12) hx hb hts i_X1 hown hK hP 8 rfl rfl 9 (by decide) f_83 (fun _ h9 => h9) rfl dX3_placeCodes_75 ?_
      refine lv_aload_n hx hb dX3_placeCodes_78 rfl (lv_at hl 2 rfl) ?_
      refine lv_iload_n hx hb dX3_placeCodes_79 rfl (lv_at hl 1 rfl) ?_
      refine cl_Vi (As := [.int r2]) (rest := [.int (c_first (p_code u3)), .int r4, .ref q1]) (st := [.int r2, .ref q0, .int (c_first (p_code u3)), .int r4, .ref q1]) S hK hA hP hD hS (fr_P u3) (kcX3_a l D cB cI q0 q1 q2 q3 q4 q5 q6 q7 q8 q9 H.size r2 u3 _ hw) (cwV 1 hts gX3_placeCodes_X3_a rfl rfl rfl (by decide +kernel) ⟨Nat.le_of_ble_eq_true rfl, Nat.le_of_ble_eq_true rfl⟩) tru_h tru_b 0 rfl rfl rfl rfl rfl hl.1 (Nat.le_of_ble_eq_true rfl) dX3_placeCodes_80 ⟨Nat.zero_le _, Nat.zero_le _⟩ (fun r12 u11 H locs hP hD hS hw => ?_)
      replace hP : va_P D vwCl (WP cB cI q0 q1 q2 q3 q4 q5 q6 q7 q8 q9 u11) H := hP
      replace hD : va_D A (WP cB cI q0 q1 q2 q3 q4 q5 q6 q7 q8 q9 u11) := hD
      refine lv_iload_n hx hb dX3_placeCodes_83 rfl (lv_at hl 1 rfl) ?_
      refine cl_Vv (As := [.int r4, .int (c_first (p_code u3)), .int r12, .int r2]) (rest := []) (st := [.int r2, .int r12, .int (c_first (p_code u3)), .int r4, .ref q1]) S hK hA hP hD hS (fr_P_M u11) (kcX2_store l D cB cI q1 q2 q3 H.size r4 (c_first (p_code u3)) r12 r2 (p_mem u11) _ hw) (cwV 4 hts gX3_placeCodes_X2_store rfl rfl rfl (by decide +kernel) ⟨Nat.le_of_ble_eq_true rfl, Nat.le_of_ble_eq_true rfl⟩) tru_h tru_b 1 rfl rfl rfl rfl rfl hl.1 (Nat.le_of_ble_eq_true rfl) dX3_placeCodes_84 ⟨Nat.zero_le _, Nat.zero_le _⟩ (fun u13 H locs hP hD hS hw => ?_)
      replace hP : va_P D vwCl (WP cB cI q0 q1 q2 q3 q4 q5 q6 q7 q8 q9 (ps_mem u11 u13)) H := hP
      replace hD : va_D A (WP cB cI q0 q1 q2 q3 q4 q5 q6 q7 q8 q9 (ps_mem u11 u13)) := hD
      refine lv_goto (tgt := 111) hx hb dX3_placeCodes_87 (by decide) ?_
      exact rt_v (wo := (fun v => WP cB cI q0 q1 q2 q3 q4 q5 q6 q7 q8 q9 v)) S hr hlk (ps_mem u11 u13) hP hS hw dX3_placeCodes_111
  · replace hw := hw.2 c5
    refine lv_aload_n hx hb dX3_placeCodes_27 rfl (lv_at hl 2 rfl) ?_
    refine va_get (D := D) (ci := 3) (v := .ref q7) (C := RX3) (T := TX3) (N := 8) hx hb hts i_X3 hown hK hP 0 rfl rfl 2 (by decide) f_28 (fun _ h9 => h9) rfl dX3_placeCodes_28 ?_
    refine lv_bipush (v := (8 : Int32)) hx hb dX3_placeCodes_31 (by decide) ?_
    refine lv_aload_n hx hb dX3_placeCodes_33 rfl (lv_at hl 2 rfl) ?_
    refine lv_iload_n hx hb dX3_placeCodes_34 rfl (lv_at hl 1 rfl) ?_
    refine cl_Vi (As := [.int r2]) (rest := [.int (8 : Int32), .ref q7]) (st := [.int r2, .ref q0, .int (8 : Int32), .ref q7]) S hK hA hP hD hS (fr_P u3) (kcX3_a l D cB cI q0 q1 q2 q3 q4 q5 q6 q7 q8 q9 H.size r2 u3 _ hw) (cwV 1 hts gX3_placeCodes_X3_a rfl rfl rfl (by decide +kernel) ⟨Nat.le_of_ble_eq_true rfl, Nat.le_of_ble_eq_true rfl⟩) tru_h tru_b 0 rfl rfl rfl rfl rfl hl.1 (Nat.le_of_ble_eq_true rfl) dX3_placeCodes_35 ⟨Nat.zero_le _, Nat.zero_le _⟩ (fun r16 u15 H locs hP hD hS hw => ?_)
    replace hP : va_P D vwCl (WP cB cI q0 q1 q2 q3 q4 q5 q6 q7 q8 q9 u15) H := hP
    replace hD : va_D A (WP cB cI q0 q1 q2 q3 q4 q5 q6 q7 q8 q9 u15) := hD
    refine lv_aload_n hx hb dX3_placeCodes_38 rfl (lv_at hl 2 rfl) ?_
    refine va_get (D := D) (ci := 3) (v := .ref q8) (C := RX3) (T := TX3) (N := 8) hx hb hts i_X3 hown hK hP 0 rfl rfl 3 (by decide) f_35 (fun _ h9 => h9) rfl dX3_placeCodes_39 ?_
    refine va_get (D := D) (ci := 1) (v := .int (c_first (p_code u15))) (C := RX1) (T := TX1) (N := 12) hx hb hts i_X1 hown hK hP 8 rfl rfl 9 (by decide) f_83 (fun _ h9 => h9) rfl dX3_placeCodes_42 ?_
    refine lv_iload_n hx hb dX3_placeCodes_45 rfl (lv_at hl 1 rfl) ?_
    refine cl_Vi (As := [.int (8 : Int32), .int r16, .int (c_first (p_code u15)), .int r2]) (rest := []) (st := [.int r2, .int (c_first (p_code u15)), .int r16, .int (8 : Int32), .ref q7]) S hK hA hP hD hS (fr_P_A u15) (kcX0_operation l D cB cI q7 H.size (8 : Int32) r16 (c_first (p_code u15)) r2 (p_flags u15) _ hw) (cwV 4 hts gX3_placeCodes_X0_operation rfl rfl rfl (by decide +kernel) ⟨Nat.le_of_ble_eq_true rfl, Nat.le_of_ble_eq_true rfl⟩) tru_h tru_b 7 rfl rfl rfl rfl rfl hl.1 (Nat.le_of_ble_eq_true rfl) dX3_placeCodes_46 ⟨Nat.zero_le _, Nat.zero_le _⟩ (fun r18 u17 H locs hP hD hS hw => ?_)
    replace hP : va_P D vwCl (WP cB cI q0 q1 q2 q3 q4 q5 q6 q7 q8 q9 (ps_flags u15 u17)) H := hP
    replace hD : va_D A (WP cB cI q0 q1 q2 q3 q4 q5 q6 q7 q8 q9 (ps_flags u15 u17)) := hD
    refine lv_pop hx hb dX3_placeCodes_49 rfl ?_
    refine lv_goto (tgt := 111) hx hb dX3_placeCodes_50 (by decide) ?_
    exact rt_v (wo := (fun v => WP cB cI q0 q1 q2 q3 q4 q5 q6 q7 q8 q9 v)) S hr hlk (ps_flags u15 u17) hP hS hw dX3_placeCodes_111
-- X3_registerStackCodes
def wX3_registerStackCodes  (u : SP) (P : SP → Prop) : Prop := ((((c_number (p_code u)) &&& (8 : Int32)) = (0 : Int32) → (wX3_pushedRegister ((c_number (p_code u)) &&& (7 : Int32)) u (fun r7 u6 => (wX3_push r7 u6 (fun u8 => (P u8)))))) ∧ (¬ ((c_number (p_code u)) &&& (8 : Int32)) = (0 : Int32) → (wX3_pop  u (fun r3 u2 => (wX4_setWord (c_number (p_code u)) r3 (p_regs u2) (fun u4 => (P (ps_regs u2 u4))))))))
set_option maxHeartbeats 4000000 in
set_option maxRecDepth 100000 in
theorem kcX3_registerStackCodes (l : Launch) (D : va_G) (cB cI : ClassId) (q0 q1 q2 q3 q4 q5 q6 q7 q8 q9 : Nat) (sz : Nat)  (u : SP) (P : SP → Prop) (hw : wX3_registerStackCodes  u P) : Met l yX3_registerStackCodes wsX3_registerStackCodes ({ frames := 3, cells := 0, slots := 0, locals := 68 } : Room) (va_Pc [.ref q0] (Pcw D (tyA cB cI) (WP cB cI q0 q1 q2 q3 q4 q5 q6 q7 q8 q9 u) sz Tru)) (va_Qv P (fun u t => va_P D vwCl (WP cB cI q0 q1 q2 q3 q4 q5 q6 q7 q8 q9 u) t.heap) (va_A (WP cB cI q0 q1 q2 q3 q4 q5 q6 q7 q8 q9 u) sz)) 0 0 (va_A (WP cB cI q0 q1 q2 q3 q4 q5 q6 q7 q8 q9 u) sz) := by
  refine en_ (cc := cX3_registerStackCodes) (maxL := 1) (ret := none) (own := RX3) (lv := [(0, .ref q0)]) (Qf := fun A => va_Qv P (fun u t => va_P D vwCl (WP cB cI q0 q1 q2 q3 q4 q5 q6 q7 q8 q9 u) t.heap) A) (by decide) rfl rfl (Nat.le_of_ble_eq_true rfl) rfl ?_
  intro p e s m below meth c A ls S hr hlk hname hsz hP hK hD hA hSub hS hE hl
  have hx := S.1
  have hb := S.2.1
  have hown := S.2.2.2.1
  have hts := S.2.2.2.2
  have i_X1 : ∀ w ∈ u_ws RX1 TX1 12, w ∈ wsX3_registerStackCodes := by decide +kernel
  have i_X3 : ∀ w ∈ u_ws RX3 TX3 8, w ∈ wsX3_registerStackCodes := by decide +kernel
  have f_21 := hts (.fieldLink RX3 21 "MachineCore$Processor" "registers" "LMachineCore$Registers;") (by decide +kernel)
  have f_35 := hts (.fieldLink RX3 35 "MachineCore$Processor" "code" "LMachineCore$Code;") (by decide +kernel)
  have f_47 := hts (.fieldLink RX3 47 "MachineCore$Code" "number" "I") (by decide +kernel)
  unfold wX3_registerStackCodes at hw
  obtain ⟨H, eH⟩ : ∃ H, H = s.heap := ⟨_, rfl⟩
  obtain ⟨locs, eL⟩ : ∃ locs : List Loc, locs = [] := ⟨_, rfl⟩
  replace hP : va_P D vwCl (WP cB cI q0 q1 q2 q3 q4 q5 q6 q7 q8 q9 u) H := by rw [eH]; exact hP
  replace hS : va_S A s.heap H locs := by rw [eH, eL]; exact hS
  suffices hgo : W p l e ({ frames := 3, cells := 0, slots := 0, locals := 68 } : Room) s m ([.ref q0] : List Value).toArray below meth c H locs 0 0 (MQ below (va_Qv P (fun u t => va_P D vwCl (WP cB cI q0 q1 q2 q3 q4 q5 q6 q7 q8 q9 u) t.heap) A) ([.ref q0] : List Value).toArray s 0 0 A) (F0 m 0 ls []) by rw [eH, eL] at hgo; exact hgo
  clear eH eL
  refine lv_aload_n hx hb dX3_registerStackCodes_0 rfl (lv_at hl 0 rfl) ?_
  refine va_get (D := D) (ci := 3) (v := .ref q8) (C := RX3) (T := TX3) (N := 8) hx hb hts i_X3 hown hK hP 0 rfl rfl 3 (by decide) f_35 (fun _ h9 => h9) rfl dX3_registerStackCodes_1 ?_
  refine va_get (D := D) (ci := 1) (v := .int (c_number (p_code u))) (C := RX1) (T := TX1) (N := 12) hx hb hts i_X1 hown hK hP 8 rfl rfl 1 (by decide) f_47 (fun _ h9 => h9) rfl dX3_registerStackCodes_4 ?_
  refine lv_bipush (v := (8 : Int32)) hx hb dX3_registerStackCodes_7 (by decide) ?_
  refine lv_iand hx hb dX3_registerStackCodes_9 ?_
  refine lv_if_ne (tgt := 34) hx hb dX3_registerStackCodes_10 (by decide) (fun c1 => ?_) (fun c1 => ?_)
  · replace hw := hw.2 c1
    refine lv_aload_n hx hb dX3_registerStackCodes_34 rfl (lv_at hl 0 rfl) ?_
    refine va_get (D := D) (ci := 3) (v := .ref q4) (C := RX3) (T := TX3) (N := 8) hx hb hts i_X3 hown hK hP 0 rfl rfl 1 (by decide) f_21 (fun _ h9 => h9) rfl dX3_registerStackCodes_35 ?_
    refine lv_aload_n hx hb dX3_registerStackCodes_38 rfl (lv_at hl 0 rfl) ?_
    refine va_get (D := D) (ci := 3) (v := .ref q8) (C := RX3) (T := TX3) (N := 8) hx hb hts i_X3 hown hK hP 0 rfl rfl 3 (by decide) f_35 (fun _ h9 => h9) rfl dX3_registerStackCodes_39 ?_
    refine va_get (D := D) (ci := 1) (v := .int (c_number (p_code u))) (C := RX1) (T := TX1) (N := 12) hx hb hts i_X1 hown hK hP 8 rfl rfl 1 (by decide) f_47 (fun _ h9 => h9) rfl dX3_registerStackCodes_42 ?_
    refine lv_aload_n hx hb dX3_registerStackCodes_45 rfl (lv_at hl 0 rfl) ?_
    refine cl_Vi (As := []) (rest := [.int (c_number (p_code u)), .ref q4]) (st := [.ref q0, .int (c_number (p_code u)), .ref q4]) S hK hA hP hD hS (fr_P u) (kcX3_pop l D cB cI q0 q1 q2 q3 q4 q5 q6 q7 q8 q9 H.size  u _ hw) (cwV 0 hts gX3_registerStackCodes_X3_pop rfl rfl rfl (by decide +kernel) ⟨Nat.le_of_ble_eq_true rfl, Nat.le_of_ble_eq_true rfl⟩) tru_h tru_b 0 rfl rfl rfl rfl rfl hl.1 (Nat.le_of_ble_eq_true rfl) dX3_registerStackCodes_46 ⟨Nat.zero_le _, Nat.zero_le _⟩ (fun r3 u2 H locs hP hD hS hw => ?_)
    replace hP : va_P D vwCl (WP cB cI q0 q1 q2 q3 q4 q5 q6 q7 q8 q9 u2) H := hP
    replace hD : va_D A (WP cB cI q0 q1 q2 q3 q4 q5 q6 q7 q8 q9 u2) := hD
    refine cl_Vv (As := [.int (c_number (p_code u)), .int r3]) (rest := []) (st := [.int r3, .int (c_number (p_code u)), .ref q4]) S hK hA hP hD hS (fr_P_R u2) (kcX4_setWord l D cB cI q4 q5 q6 H.size (c_number (p_code u)) r3 (p_regs u2) _ hw) (cwV 2 hts gX3_registerStackCodes_X4_setWord rfl rfl rfl (by decide +kernel) ⟨Nat.le_of_ble_eq_true rfl, Nat.le_of_ble_eq_true rfl⟩) tru_h tru_b 4 rfl rfl rfl rfl rfl hl.1 (Nat.le_of_ble_eq_true rfl) dX3_registerStackCodes_49 ⟨Nat.zero_le _, Nat.zero_le _⟩ (fun u4 H locs hP hD hS hw => ?_)
    replace hP : va_P D vwCl (WP cB cI q0 q1 q2 q3 q4 q5 q6 q7 q8 q9 (ps_regs u2 u4)) H := hP
    replace hD : va_D A (WP cB cI q0 q1 q2 q3 q4 q5 q6 q7 q8 q9 (ps_regs u2 u4)) := hD
    exact rt_v (wo := (fun v => WP cB cI q0 q1 q2 q3 q4 q5 q6 q7 q8 q9 v)) S hr hlk (ps_regs u2 u4) hP hS hw dX3_registerStackCodes_52
  · replace hw := hw.1 c1
    refine lv_aload_n hx hb dX3_registerStackCodes_13 rfl (lv_at hl 0 rfl) ?_
    refine lv_aload_n hx hb dX3_registerStackCodes_14 rfl (lv_at hl 0 rfl) ?_
    refine lv_aload_n hx hb dX3_registerStackCodes_15 rfl (lv_at hl 0 rfl) ?_
    refine va_get (D := D) (ci := 3) (v := .ref q8) (C := RX3) (T := TX3) (N := 8) hx hb hts i_X3 hown hK hP 0 rfl rfl 3 (by decide) f_35 (fun _ h9 => h9) rfl dX3_registerStackCodes_16 ?_
    refine va_get (D := D) (ci := 1) (v := .int (c_number (p_code u))) (C := RX1) (T := TX1) (N := 12) hx hb hts i_X1 hown hK hP 8 rfl rfl 1 (by decide) f_47 (fun _ h9 => h9) rfl dX3_registerStackCodes_19 ?_
    refine lv_bipush (v := (7 : Int32)) hx hb dX3_registerStackCodes_22 (by decide) ?_
    refine lv_iand hx hb dX3_registerStackCodes_24 ?_
    refine cl_Vi (As := [.int ((c_number (p_code u)) &&& (7 : Int32))]) (rest := [.ref q0]) (st := [.int ((c_number (p_code u)) &&& (7 : Int32)), .ref q0, .ref q0]) S hK hA hP hD hS (fr_P u) (kcX3_pushedRegister l D cB cI q0 q1 q2 q3 q4 q5 q6 q7 q8 q9 H.size ((c_number (p_code u)) &&& (7 : Int32)) u _ hw) (cwV 1 hts gX3_registerStackCodes_X3_pushedRegister rfl rfl rfl (by decide +kernel) ⟨Nat.le_of_ble_eq_true rfl, Nat.le_of_ble_eq_true rfl⟩) tru_h tru_b 0 rfl rfl rfl rfl rfl hl.1 (Nat.le_of_ble_eq_true rfl) dX3_registerStackCodes_25 ⟨Nat.zero_le _, Nat.zero_le _⟩ (fun r7 u6 H locs hP hD hS hw => ?_)
    replace hP : va_P D vwCl (WP cB cI q0 q1 q2 q3 q4 q5 q6 q7 q8 q9 u6) H := hP
    replace hD : va_D A (WP cB cI q0 q1 q2 q3 q4 q5 q6 q7 q8 q9 u6) := hD
    refine cl_Vv (As := [.int r7]) (rest := []) (st := [.int r7, .ref q0]) S hK hA hP hD hS (fr_P u6) (kcX3_push l D cB cI q0 q1 q2 q3 q4 q5 q6 q7 q8 q9 H.size r7 u6 _ hw) (cwV 1 hts gX3_registerStackCodes_X3_push rfl rfl rfl (by decide +kernel) ⟨Nat.le_of_ble_eq_true rfl, Nat.le_of_ble_eq_true rfl⟩) tru_h tru_b 0 rfl rfl rfl rfl rfl hl.1 (Nat.le_of_ble_eq_true rfl) dX3_registerStackCodes_28 ⟨Nat.zero_le _, Nat.zero_le _⟩ (fun u8 H locs hP hD hS hw => ?_)
    replace hP : va_P D vwCl (WP cB cI q0 q1 q2 q3 q4 q5 q6 q7 q8 q9 u8) H := hP
    replace hD : va_D A (WP cB cI q0 q1 q2 q3 q4 q5 q6 q7 q8 q9 u8) := hD
    refine lv_goto (tgt := 52) hx hb dX3_registerStackCodes_31 (by decide) ?_
    exact rt_v (wo := (fun v => WP cB cI q0 q1 q2 q3 q4 q5 q6 q7 q8 q9 v)) S hr hlk u8 hP hS hw dX3_registerStackCodes_52
-- X3_giveFar
def wX3_giveFar (a1 : Int32) (u : SP) (P : SP → Prop) : Prop := (wX3_wordBehindE  u (fun r2 u1 => (wX3_e (1 : Int32) u1 (fun r4 u3 => (wX4_setWord (c_r (p_code u1)) r4 (p_regs u3) (fun u5 => (wX4_setSegment a1 r2 u5 (fun u7 => (P (ps_regs u3 u7))))))))))
set_option maxHeartbeats 4000000 in
set_option maxRecDepth 100000 in
theorem kcX3_giveFar (l : Launch) (D : va_G) (cB cI : ClassId) (q0 q1 q2 q3 q4 q5 q6 q7 q8 q9 : Nat) (sz : Nat) (a1 : Int32) (u : SP) (P : SP → Prop) (hw : wX3_giveFar a1 u P) : Met l yX3_giveFar wsX3_giveFar ({ frames := 3, cells := 0, slots := 0, locals := 67 } : Room) (va_Pc [.ref q0, .int a1] (Pcw D (tyA cB cI) (WP cB cI q0 q1 q2 q3 q4 q5 q6 q7 q8 q9 u) sz Tru)) (va_Qv P (fun u t => va_P D vwCl (WP cB cI q0 q1 q2 q3 q4 q5 q6 q7 q8 q9 u) t.heap) (va_A (WP cB cI q0 q1 q2 q3 q4 q5 q6 q7 q8 q9 u) sz)) 0 0 (va_A (WP cB cI q0 q1 q2 q3 q4 q5 q6 q7 q8 q9 u) sz) := by
  refine en_ (cc := cX3_giveFar) (maxL := 3) (ret := none) (own := RX3) (lv := [(0, .ref q0), (1, .int a1)]) (Qf := fun A => va_Qv P (fun u t => va_P D vwCl (WP cB cI q0 q1 q2 q3 q4 q5 q6 q7 q8 q9 u) t.heap) A) (by decide) rfl rfl (Nat.le_of_ble_eq_true rfl) rfl ?_
  intro p e s m below meth c A ls S hr hlk hname hsz hP hK hD hA hSub hS hE hl
  have hx := S.1
  have hb := S.2.1
  have hown := S.2.2.2.1
  have hts := S.2.2.2.2
  have i_X1 : ∀ w ∈ u_ws RX1 TX1 12, w ∈ wsX3_giveFar := by decide +kernel
  have i_X3 : ∀ w ∈ u_ws RX3 TX3 8, w ∈ wsX3_giveFar := by decide +kernel
  have f_21 := hts (.fieldLink RX3 21 "MachineCore$Processor" "registers" "LMachineCore$Registers;") (by decide +kernel)
  have f_35 := hts (.fieldLink RX3 35 "MachineCore$Processor" "code" "LMachineCore$Code;") (by decide +kernel)
  have f_191 := hts (.fieldLink RX3 191 "MachineCore$Code" "r" "I") (by decide +kernel)
  unfold wX3_giveFar at hw
  obtain ⟨H, eH⟩ : ∃ H, H = s.heap := ⟨_, rfl⟩
  obtain ⟨locs, eL⟩ : ∃ locs : List Loc, locs = [] := ⟨_, rfl⟩
  replace hP : va_P D vwCl (WP cB cI q0 q1 q2 q3 q4 q5 q6 q7 q8 q9 u) H := by rw [eH]; exact hP
  replace hS : va_S A s.heap H locs := by rw [eH, eL]; exact hS
  suffices hgo : W p l e ({ frames := 3, cells := 0, slots := 0, locals := 67 } : Room) s m ([.ref q0, .int a1] : List Value).toArray below meth c H locs 0 0 (MQ below (va_Qv P (fun u t => va_P D vwCl (WP cB cI q0 q1 q2 q3 q4 q5 q6 q7 q8 q9 u) t.heap) A) ([.ref q0, .int a1] : List Value).toArray s 0 0 A) (F0 m 0 ls []) by rw [eH, eL] at hgo; exact hgo
  clear eH eL
  refine lv_aload_n hx hb dX3_giveFar_0 rfl (lv_at hl 0 rfl) ?_
  refine cl_Vi (As := []) (rest := []) (st := [.ref q0]) S hK hA hP hD hS (fr_P u) (kcX3_wordBehindE l D cB cI q0 q1 q2 q3 q4 q5 q6 q7 q8 q9 H.size  u _ hw) (cwV 0 hts gX3_giveFar_X3_wordBehindE rfl rfl rfl (by decide +kernel) ⟨Nat.le_of_ble_eq_true rfl, Nat.le_of_ble_eq_true rfl⟩) tru_h tru_b 0 rfl rfl rfl rfl rfl hl.1 (Nat.le_of_ble_eq_true rfl) dX3_giveFar_1 ⟨Nat.zero_le _, Nat.zero_le _⟩ (fun r2 u1 H locs hP hD hS hw => ?_)
  replace hP : va_P D vwCl (WP cB cI q0 q1 q2 q3 q4 q5 q6 q7 q8 q9 u1) H := hP
  replace hD : va_D A (WP cB cI q0 q1 q2 q3 q4 q5 q6 q7 q8 q9 u1) := hD
  refine lv_istore_n (lv' := [(2, .int r2), (0, .ref q0), (1, .int a1)]) hx hb dX3_giveFar_4 rfl hl (by decide) rfl (fun ls hl => ?_)
  refine lv_aload_n hx hb dX3_giveFar_5 rfl (lv_at hl 1 rfl) ?_
  refine va_get (D := D) (ci := 3) (v := .ref q4) (C := RX3) (T := TX3) (N := 8) hx hb hts i_X3 hown hK hP 0 rfl rfl 1 (by decide) f_21 (fun _ h9 => h9) rfl dX3_giveFar_6 ?_
  refine lv_aload_n hx hb dX3_giveFar_9 rfl (lv_at hl 1 rfl) ?_
  refine va_get (D := D) (ci := 3) (v := .ref q8) (C := RX3) (T := TX3) (N := 8) hx hb hts i_X3 hown hK hP 0 rfl rfl 3 (by decide) f_35 (fun _ h9 => h9) rfl dX3_giveFar_10 ?_
  refine va_get (D := D) (ci := 1) (v := .int (c_r (p_code u1))) (C := RX1) (T := TX1) (N := 12) hx hb hts i_X1 hown hK hP 8 rfl rfl 5 (by decide) f_191 (fun _ h9 => h9) rfl dX3_giveFar_13 ?_
  refine lv_aload_n hx hb dX3_giveFar_16 rfl (lv_at hl 1 rfl) ?_
  refine lv_iconst (v := (1 : Int32)) hx hb dX3_giveFar_17 (by decide) ?_
  refine cl_Vi (As := [.int (1 : Int32)]) (rest := [.int (c_r (p_code u1)), .ref q4]) (st := [.int (1 : Int32), .ref q0, .int (c_r (p_code u1)), .ref q4]) S hK hA hP hD hS (fr_P u1) (kcX3_e l D cB cI q0 q1 q2 q3 q4 q5 q6 q7 q8 q9 H.size (1 : Int32) u1 _ hw) (cwV 1 hts gX3_giveFar_X3_e rfl rfl rfl (by decide +kernel) ⟨Nat.le_of_ble_eq_true rfl, Nat.le_of_ble_eq_true rfl⟩) tru_h tru_b 0 rfl rfl rfl rfl rfl hl.1 (Nat.le_of_ble_eq_true rfl) dX3_giveFar_18 ⟨Nat.zero_le _, Nat.zero_le _⟩ (fun r4 u3 H locs hP hD hS hw => ?_)
  replace hP : va_P D vwCl (WP cB cI q0 q1 q2 q3 q4 q5 q6 q7 q8 q9 u3) H := hP
  replace hD : va_D A (WP cB cI q0 q1 q2 q3 q4 q5 q6 q7 q8 q9 u3) := hD
  refine cl_Vv (As := [.int (c_r (p_code u1)), .int r4]) (rest := []) (st := [.int r4, .int (c_r (p_code u1)), .ref q4]) S hK hA hP hD hS (fr_P_R u3) (kcX4_setWord l D cB cI q4 q5 q6 H.size (c_r (p_code u1)) r4 (p_regs u3) _ hw) (cwV 2 hts gX3_giveFar_X4_setWord rfl rfl rfl (by decide +kernel) ⟨Nat.le_of_ble_eq_true rfl, Nat.le_of_ble_eq_true rfl⟩) tru_h tru_b 4 rfl rfl rfl rfl rfl hl.1 (Nat.le_of_ble_eq_true rfl) dX3_giveFar_21 ⟨Nat.zero_le _, Nat.zero_le _⟩ (fun u5 H locs hP hD hS hw => ?_)
  replace hP : va_P D vwCl (WP cB cI q0 q1 q2 q3 q4 q5 q6 q7 q8 q9 (ps_regs u3 u5)) H := hP
  replace hD : va_D A (WP cB cI q0 q1 q2 q3 q4 q5 q6 q7 q8 q9 (ps_regs u3 u5)) := hD
  refine lv_aload_n hx hb dX3_giveFar_24 rfl (lv_at hl 1 rfl) ?_
  refine va_get (D := D) (ci := 3) (v := .ref q4) (C := RX3) (T := TX3) (N := 8) hx hb hts i_X3 hown hK hP 0 rfl rfl 1 (by decide) f_21 (fun _ h9 => h9) rfl dX3_giveFar_25 ?_
  refine lv_iload_n hx hb dX3_giveFar_28 rfl (lv_at hl 2 rfl) ?_
  refine lv_iload_n hx hb dX3_giveFar_29 rfl (lv_at hl 0 rfl) ?_
  refine cl_Vv (As := [.int a1, .int r2]) (rest := []) (st := [.int r2, .int a1, .ref q4]) S hK hA hP hD hS (fr_P_R (ps_regs u3 u5)) (kcX4_setSegment l D cB cI q4 q5 q6 H.size a1 r2 u5 _ hw) (cwV 2 hts gX3_giveFar_X4_setSegment rfl rfl rfl (by decide +kernel) ⟨Nat.le_of_ble_eq_true rfl, Nat.le_of_ble_eq_true rfl⟩) tru_h tru_b 4 rfl rfl rfl rfl rfl hl.1 (Nat.le_of_ble_eq_true rfl) dX3_giveFar_30 ⟨Nat.zero_le _, Nat.zero_le _⟩ (fun u7 H locs hP hD hS hw => ?_)
  replace hP : va_P D vwCl (WP cB cI q0 q1 q2 q3 q4 q5 q6 q7 q8 q9 (ps_regs u3 u7)) H := hP
  replace hD : va_D A (WP cB cI q0 q1 q2 q3 q4 q5 q6 q7 q8 q9 (ps_regs u3 u7)) := hD
  exact rt_v (wo := (fun v => WP cB cI q0 q1 q2 q3 q4 q5 q6 q7 q8 q9 v)) S hr hlk (ps_regs u3 u7) hP hS hw dX3_giveFar_33
-- X3_returnFar
def wX3_returnFar (a1 : Int32) (u : SP) (P : SP → Prop) : Prop := (wX3_pop  u (fun r2 u1 => (wX4_moveTo r2 (p_regs u1) (fun u3 => (wX3_pop  (ps_regs u1 u3) (fun r6 u5 => (wX4_setSegment (1 : Int32) r6 (p_regs u5) (fun u7 => (wX4_word (4 : Int32) u7 (fun r10 u9 => (wX4_setWord (4 : Int32) (r10 + a1) u9 (fun u11 => (P (ps_regs u5 u11))))))))))))))
set_option maxHeartbeats 4000000 in
set_option maxRecDepth 100000 in
theorem kcX3_returnFar (l : Launch) (D : va_G) (cB cI : ClassId) (q0 q1 q2 q3 q4 q5 q6 q7 q8 q9 : Nat) (sz : Nat) (a1 : Int32) (u : SP) (P : SP → Prop) (hw : wX3_returnFar a1 u P) : Met l yX3_returnFar wsX3_returnFar ({ frames := 3, cells := 0, slots := 0, locals := 67 } : Room) (va_Pc [.ref q0, .int a1] (Pcw D (tyA cB cI) (WP cB cI q0 q1 q2 q3 q4 q5 q6 q7 q8 q9 u) sz Tru)) (va_Qv P (fun u t => va_P D vwCl (WP cB cI q0 q1 q2 q3 q4 q5 q6 q7 q8 q9 u) t.heap) (va_A (WP cB cI q0 q1 q2 q3 q4 q5 q6 q7 q8 q9 u) sz)) 0 0 (va_A (WP cB cI q0 q1 q2 q3 q4 q5 q6 q7 q8 q9 u) sz) := by
  refine en_ (cc := cX3_returnFar) (maxL := 2) (ret := none) (own := RX3) (lv := [(0, .ref q0), (1, .int a1)]) (Qf := fun A => va_Qv P (fun u t => va_P D vwCl (WP cB cI q0 q1 q2 q3 q4 q5 q6 q7 q8 q9 u) t.heap) A) (by decide) rfl rfl (Nat.le_of_ble_eq_true rfl) rfl ?_
  intro p e s m below meth c A ls S hr hlk hname hsz hP hK hD hA hSub hS hE hl
  have hx := S.1
  have hb := S.2.1
  have hown := S.2.2.2.1
  have hts := S.2.2.2.2
  have i_X3 : ∀ w ∈ u_ws RX3 TX3 8, w ∈ wsX3_returnFar := by decide +kernel
  have f_21 := hts (.fieldLink RX3 21 "MachineCore$Processor" "registers" "LMachineCore$Registers;") (by decide +kernel)
  unfold wX3_returnFar at hw
  obtain ⟨H, eH⟩ : ∃ H, H = s.heap := ⟨_, rfl⟩
  obtain ⟨locs, eL⟩ : ∃ locs : List Loc, locs = [] := ⟨_, rfl⟩
  replace hP : va_P D vwCl (WP cB cI q0 q1 q2 q3 q4 q5 q6 q7 q8 q9 u) H := by rw [eH]; exact hP
  replace hS : va_S A s.heap H locs := by rw [eH, eL]; exact hS
  suffices hgo : W p l e ({ frames := 3, cells := 0, slots := 0, locals := 67 } : Room) s m ([.ref q0, .int a1] : List Value).toArray below meth c H locs 0 0 (MQ below (va_Qv P (fun u t => va_P D vwCl (WP cB cI q0 q1 q2 q3 q4 q5 q6 q7 q8 q9 u) t.heap) A) ([.ref q0, .int a1] : List Value).toArray s 0 0 A) (F0 m 0 ls []) by rw [eH, eL] at hgo; exact hgo
  clear eH eL
  refine lv_aload_n hx hb dX3_returnFar_0 rfl (lv_at hl 0 rfl) ?_
  refine va_get (D := D) (ci := 3) (v := .ref q4) (C := RX3) (T := TX3) (N := 8) hx hb hts i_X3 hown hK hP 0 rfl rfl 1 (by decide) f_21 (fun _ h9 => h9) rfl dX3_returnFar_1 ?_
  refine lv_aload_n hx hb dX3_returnFar_4 rfl (lv_at hl 0 rfl) ?_
  refine cl_Vi (As := []) (rest := [.ref q4]) (st := [.ref q0, .ref q4]) S hK hA hP hD hS (fr_P u) (kcX3_pop l D cB cI q0 q1 q2 q3 q4 q5 q6 q7 q8 q9 H.size  u _ hw) (cwV 0 hts gX3_returnFar_X3_pop rfl rfl rfl (by decide +kernel) ⟨Nat.le_of_ble_eq_true rfl, Nat.le_of_ble_eq_true rfl⟩) tru_h tru_b 0 rfl rfl rfl rfl rfl hl.1 (Nat.le_of_ble_eq_true rfl) dX3_returnFar_5 ⟨Nat.zero_le _, Nat.zero_le _⟩ (fun r2 u1 H locs hP hD hS hw => ?_)
  replace hP : va_P D vwCl (WP cB cI q0 q1 q2 q3 q4 q5 q6 q7 q8 q9 u1) H := hP
  replace hD : va_D A (WP cB cI q0 q1 q2 q3 q4 q5 q6 q7 q8 q9 u1) := hD
  refine cl_Vv (As := [.int r2]) (rest := []) (st := [.int r2, .ref q4]) S hK hA hP hD hS (fr_P_R u1) (kcX4_moveTo l D cB cI q4 q5 q6 H.size r2 (p_regs u1) _ hw) (cwV 1 hts gX3_returnFar_X4_moveTo rfl rfl rfl (by decide +kernel) ⟨Nat.le_of_ble_eq_true rfl, Nat.le_of_ble_eq_true rfl⟩) tru_h tru_b 4 rfl rfl rfl rfl rfl hl.1 (Nat.le_of_ble_eq_true rfl) dX3_returnFar_8 ⟨Nat.zero_le _, Nat.zero_le _⟩ (fun u3 H locs hP hD hS hw => ?_)
  replace hP : va_P D vwCl (WP cB cI q0 q1 q2 q3 q4 q5 q6 q7 q8 q9 (ps_regs u1 u3)) H := hP
  replace hD : va_D A (WP cB cI q0 q1 q2 q3 q4 q5 q6 q7 q8 q9 (ps_regs u1 u3)) := hD
  refine lv_aload_n hx hb dX3_returnFar_11 rfl (lv_at hl 0 rfl) ?_
  refine va_get (D := D) (ci := 3) (v := .ref q4) (C := RX3) (T := TX3) (N := 8) hx hb hts i_X3 hown hK hP 0 rfl rfl 1 (by decide) f_21 (fun _ h9 => h9) rfl dX3_returnFar_12 ?_
  refine lv_iconst (v := (1 : Int32)) hx hb dX3_returnFar_15 (by decide) ?_
  refine lv_aload_n hx hb dX3_returnFar_16 rfl (lv_at hl 0 rfl) ?_
  refine cl_Vi (As := []) (rest := [.int (1 : Int32), .ref q4]) (st := [.ref q0, .int (1 : Int32), .ref q4]) S hK hA hP hD hS (fr_P (ps_regs u1 u3)) (kcX3_pop l D cB cI q0 q1 q2 q3 q4 q5 q6 q7 q8 q9 H.size  (ps_regs u1 u3) _ hw) (cwV 0 hts gX3_returnFar_X3_pop rfl rfl rfl (by decide +kernel) ⟨Nat.le_of_ble_eq_true rfl, Nat.le_of_ble_eq_true rfl⟩) tru_h tru_b 0 rfl rfl rfl rfl rfl hl.1 (Nat.le_of_ble_eq_true rfl) dX3_returnFar_17 ⟨Nat.zero_le _, Nat.zero_le _⟩ (fun r6 u5 H locs hP hD hS hw => ?_)
  replace hP : va_P D vwCl (WP cB cI q0 q1 q2 q3 q4 q5 q6 q7 q8 q9 u5) H := hP
  replace hD : va_D A (WP cB cI q0 q1 q2 q3 q4 q5 q6 q7 q8 q9 u5) := hD
  refine cl_Vv (As := [.int (1 : Int32), .int r6]) (rest := []) (st := [.int r6, .int (1 : Int32), .ref q4]) S hK hA hP hD hS (fr_P_R u5) (kcX4_setSegment l D cB cI q4 q5 q6 H.size (1 : Int32) r6 (p_regs u5) _ hw) (cwV 2 hts gX3_returnFar_X4_setSegment rfl rfl rfl (by decide +kernel) ⟨Nat.le_of_ble_eq_true rfl, Nat.le_of_ble_eq_true rfl⟩) tru_h tru_b 4 rfl rfl rfl rfl rfl hl.1 (Nat.le_of_ble_eq_true rfl) dX3_returnFar_20 ⟨Nat.zero_le _, Nat.zero_le _⟩ (fun u7 H locs hP hD hS hw => ?_)
  replace hP : va_P D vwCl (WP cB cI q0 q1 q2 q3 q4 q5 q6 q7 q8 q9 (ps_regs u5 u7)) H := hP
  replace hD : va_D A (WP cB cI q0 q1 q2 q3 q4 q5 q6 q7 q8 q9 (ps_regs u5 u7)) := hD
  refine lv_aload_n hx hb dX3_returnFar_23 rfl (lv_at hl 0 rfl) ?_
  refine va_get (D := D) (ci := 3) (v := .ref q4) (C := RX3) (T := TX3) (N := 8) hx hb hts i_X3 hown hK hP 0 rfl rfl 1 (by decide) f_21 (fun _ h9 => h9) rfl dX3_returnFar_24 ?_
  refine lv_iconst (v := (4 : Int32)) hx hb dX3_returnFar_27 (by decide) ?_
  refine lv_aload_n hx hb dX3_returnFar_28 rfl (lv_at hl 0 rfl) ?_
  refine va_get (D := D) (ci := 3) (v := .ref q4) (C := RX3) (T := TX3) (N := 8) hx hb hts i_X3 hown hK hP 0 rfl rfl 1 (by decide) f_21 (fun _ h9 => h9) rfl dX3_returnFar_29 ?_
  refine lv_iconst (v := (4 : Int32)) hx hb dX3_returnFar_32 (by decide) ?_
  refine cl_Vi (As := [.int (4 : Int32)]) (rest := [.int (4 : Int32), .ref q4]) (st := [.int (4 : Int32), .ref q4, .int (4 : Int32), .ref q4]) S hK hA hP hD hS (fr_P_R (ps_regs u5 u7)) (kcX4_word l D cB cI q4 q5 q6 H.size (4 : Int32) u7 _ hw) (cwV 1 hts gX3_returnFar_X4_word rfl rfl rfl (by decide +kernel) ⟨Nat.le_of_ble_eq_true rfl, Nat.le_of_ble_eq_true rfl⟩) tru_h tru_b 4 rfl rfl rfl rfl rfl hl.1 (Nat.le_of_ble_eq_true rfl) dX3_returnFar_33 ⟨Nat.zero_le _, Nat.zero_le _⟩ (fun r10 u9 H locs hP hD hS hw => ?_)
  replace hP : va_P D vwCl (WP cB cI q0 q1 q2 q3 q4 q5 q6 q7 q8 q9 (ps_regs u5 u9)) H := hP
  replace hD : va_D A (WP cB cI q0 q1 q2 q3 q4 q5 q6 q7 q8 q9 (ps_regs u5 u9)) := hD
  refine lv_iload_n hx hb dX3_returnFar_36 rfl (lv_at hl 1 rfl) ?_
  refine lv_iadd hx hb dX3_returnFar_37 ?_
  refine cl_Vv (As := [.int (4 : Int32), .int (r10 + a1)]) (rest := []) (st := [.int (r10 + a1), .int (4 : Int32), .ref q4]) S hK hA hP hD hS (fr_P_R (ps_regs u5 u9)) (kcX4_setWord l D cB cI q4 q5 q6 H.size (4 : Int32) (r10 + a1) u9 _ hw) (cwV 2 hts gX3_returnFar_X4_setWord rfl rfl rfl (by decide +kernel) ⟨Nat.le_of_ble_eq_true rfl, Nat.le_of_ble_eq_true rfl⟩) tru_h tru_b 4 rfl rfl rfl rfl rfl hl.1 (Nat.le_of_ble_eq_true rfl) dX3_returnFar_38 ⟨Nat.zero_le _, Nat.zero_le _⟩ (fun u11 H locs hP hD hS hw => ?_)
  replace hP : va_P D vwCl (WP cB cI q0 q1 q2 q3 q4 q5 q6 q7 q8 q9 (ps_regs u5 u11)) H := hP
  replace hD : va_D A (WP cB cI q0 q1 q2 q3 q4 q5 q6 q7 q8 q9 (ps_regs u5 u11)) := hD
  exact rt_v (wo := (fun v => WP cB cI q0 q1 q2 q3 q4 q5 q6 q7 q8 q9 v)) S hr hlk (ps_regs u5 u11) hP hS hw dX3_returnFar_41
-- X3_returnNear
def wX3_returnNear (a1 : Int32) (u : SP) (P : SP → Prop) : Prop := (wX3_pop  u (fun r2 u1 => (wX4_moveTo r2 (p_regs u1) (fun u3 => (wX4_word (4 : Int32) u3 (fun r6 u5 => (wX4_setWord (4 : Int32) (r6 + a1) u5 (fun u7 => (P (ps_regs u1 u7))))))))))
set_option maxHeartbeats 4000000 in
set_option maxRecDepth 100000 in
theorem kcX3_returnNear (l : Launch) (D : va_G) (cB cI : ClassId) (q0 q1 q2 q3 q4 q5 q6 q7 q8 q9 : Nat) (sz : Nat) (a1 : Int32) (u : SP) (P : SP → Prop) (hw : wX3_returnNear a1 u P) : Met l yX3_returnNear wsX3_returnNear ({ frames := 3, cells := 0, slots := 0, locals := 67 } : Room) (va_Pc [.ref q0, .int a1] (Pcw D (tyA cB cI) (WP cB cI q0 q1 q2 q3 q4 q5 q6 q7 q8 q9 u) sz Tru)) (va_Qv P (fun u t => va_P D vwCl (WP cB cI q0 q1 q2 q3 q4 q5 q6 q7 q8 q9 u) t.heap) (va_A (WP cB cI q0 q1 q2 q3 q4 q5 q6 q7 q8 q9 u) sz)) 0 0 (va_A (WP cB cI q0 q1 q2 q3 q4 q5 q6 q7 q8 q9 u) sz) := by
  refine en_ (cc := cX3_returnNear) (maxL := 2) (ret := none) (own := RX3) (lv := [(0, .ref q0), (1, .int a1)]) (Qf := fun A => va_Qv P (fun u t => va_P D vwCl (WP cB cI q0 q1 q2 q3 q4 q5 q6 q7 q8 q9 u) t.heap) A) (by decide) rfl rfl (Nat.le_of_ble_eq_true rfl) rfl ?_
  intro p e s m below meth c A ls S hr hlk hname hsz hP hK hD hA hSub hS hE hl
  have hx := S.1
  have hb := S.2.1
  have hown := S.2.2.2.1
  have hts := S.2.2.2.2
  have i_X3 : ∀ w ∈ u_ws RX3 TX3 8, w ∈ wsX3_returnNear := by decide +kernel
  have f_21 := hts (.fieldLink RX3 21 "MachineCore$Processor" "registers" "LMachineCore$Registers;") (by decide +kernel)
  unfold wX3_returnNear at hw
  obtain ⟨H, eH⟩ : ∃ H, H = s.heap := ⟨_, rfl⟩
  obtain ⟨locs, eL⟩ : ∃ locs : List Loc, locs = [] := ⟨_, rfl⟩
  replace hP : va_P D vwCl (WP cB cI q0 q1 q2 q3 q4 q5 q6 q7 q8 q9 u) H := by rw [eH]; exact hP
  replace hS : va_S A s.heap H locs := by rw [eH, eL]; exact hS
  suffices hgo : W p l e ({ frames := 3, cells := 0, slots := 0, locals := 67 } : Room) s m ([.ref q0, .int a1] : List Value).toArray below meth c H locs 0 0 (MQ below (va_Qv P (fun u t => va_P D vwCl (WP cB cI q0 q1 q2 q3 q4 q5 q6 q7 q8 q9 u) t.heap) A) ([.ref q0, .int a1] : List Value).toArray s 0 0 A) (F0 m 0 ls []) by rw [eH, eL] at hgo; exact hgo
  clear eH eL
  refine lv_aload_n hx hb dX3_returnNear_0 rfl (lv_at hl 0 rfl) ?_
  refine va_get (D := D) (ci := 3) (v := .ref q4) (C := RX3) (T := TX3) (N := 8) hx hb hts i_X3 hown hK hP 0 rfl rfl 1 (by decide) f_21 (fun _ h9 => h9) rfl dX3_returnNear_1 ?_
  refine lv_aload_n hx hb dX3_returnNear_4 rfl (lv_at hl 0 rfl) ?_
  refine cl_Vi (As := []) (rest := [.ref q4]) (st := [.ref q0, .ref q4]) S hK hA hP hD hS (fr_P u) (kcX3_pop l D cB cI q0 q1 q2 q3 q4 q5 q6 q7 q8 q9 H.size  u _ hw) (cwV 0 hts gX3_returnNear_X3_pop rfl rfl rfl (by decide +kernel) ⟨Nat.le_of_ble_eq_true rfl, Nat.le_of_ble_eq_true rfl⟩) tru_h tru_b 0 rfl rfl rfl rfl rfl hl.1 (Nat.le_of_ble_eq_true rfl) dX3_returnNear_5 ⟨Nat.zero_le _, Nat.zero_le _⟩ (fun r2 u1 H locs hP hD hS hw => ?_)
  replace hP : va_P D vwCl (WP cB cI q0 q1 q2 q3 q4 q5 q6 q7 q8 q9 u1) H := hP
  replace hD : va_D A (WP cB cI q0 q1 q2 q3 q4 q5 q6 q7 q8 q9 u1) := hD
  refine cl_Vv (As := [.int r2]) (rest := []) (st := [.int r2, .ref q4]) S hK hA hP hD hS (fr_P_R u1) (kcX4_moveTo l D cB cI q4 q5 q6 H.size r2 (p_regs u1) _ hw) (cwV 1 hts gX3_returnNear_X4_moveTo rfl rfl rfl (by decide +kernel) ⟨Nat.le_of_ble_eq_true rfl, Nat.le_of_ble_eq_true rfl⟩) tru_h tru_b 4 rfl rfl rfl rfl rfl hl.1 (Nat.le_of_ble_eq_true rfl) dX3_returnNear_8 ⟨Nat.zero_le _, Nat.zero_le _⟩ (fun u3 H locs hP hD hS hw => ?_)
  replace hP : va_P D vwCl (WP cB cI q0 q1 q2 q3 q4 q5 q6 q7 q8 q9 (ps_regs u1 u3)) H := hP
  replace hD : va_D A (WP cB cI q0 q1 q2 q3 q4 q5 q6 q7 q8 q9 (ps_regs u1 u3)) := hD
  refine lv_aload_n hx hb dX3_returnNear_11 rfl (lv_at hl 0 rfl) ?_
  refine va_get (D := D) (ci := 3) (v := .ref q4) (C := RX3) (T := TX3) (N := 8) hx hb hts i_X3 hown hK hP 0 rfl rfl 1 (by decide) f_21 (fun _ h9 => h9) rfl dX3_returnNear_12 ?_
  refine lv_iconst (v := (4 : Int32)) hx hb dX3_returnNear_15 (by decide) ?_
  refine lv_aload_n hx hb dX3_returnNear_16 rfl (lv_at hl 0 rfl) ?_
  refine va_get (D := D) (ci := 3) (v := .ref q4) (C := RX3) (T := TX3) (N := 8) hx hb hts i_X3 hown hK hP 0 rfl rfl 1 (by decide) f_21 (fun _ h9 => h9) rfl dX3_returnNear_17 ?_
  refine lv_iconst (v := (4 : Int32)) hx hb dX3_returnNear_20 (by decide) ?_
  refine cl_Vi (As := [.int (4 : Int32)]) (rest := [.int (4 : Int32), .ref q4]) (st := [.int (4 : Int32), .ref q4, .int (4 : Int32), .ref q4]) S hK hA hP hD hS (fr_P_R (ps_regs u1 u3)) (kcX4_word l D cB cI q4 q5 q6 H.size (4 : Int32) u3 _ hw) (cwV 1 hts gX3_returnNear_X4_word rfl rfl rfl (by decide +kernel) ⟨Nat.le_of_ble_eq_true rfl, Nat.le_of_ble_eq_true rfl⟩) tru_h tru_b 4 rfl rfl rfl rfl rfl hl.1 (Nat.le_of_ble_eq_true rfl) dX3_returnNear_21 ⟨Nat.zero_le _, Nat.zero_le _⟩ (fun r6 u5 H locs hP hD hS hw => ?_)
  replace hP : va_P D vwCl (WP cB cI q0 q1 q2 q3 q4 q5 q6 q7 q8 q9 (ps_regs u1 u5)) H := hP
  replace hD : va_D A (WP cB cI q0 q1 q2 q3 q4 q5 q6 q7 q8 q9 (ps_regs u1 u5)) := hD
  refine lv_iload_n hx hb dX3_returnNear_24 rfl (lv_at hl 1 rfl) ?_
  refine lv_iadd hx hb dX3_returnNear_25 ?_
  refine cl_Vv (As := [.int (4 : Int32), .int (r6 + a1)]) (rest := []) (st := [.int (r6 + a1), .int (4 : Int32), .ref q4]) S hK hA hP hD hS (fr_P_R (ps_regs u1 u5)) (kcX4_setWord l D cB cI q4 q5 q6 H.size (4 : Int32) (r6 + a1) u5 _ hw) (cwV 2 hts gX3_returnNear_X4_setWord rfl rfl rfl (by decide +kernel) ⟨Nat.le_of_ble_eq_true rfl, Nat.le_of_ble_eq_true rfl⟩) tru_h tru_b 4 rfl rfl rfl rfl rfl hl.1 (Nat.le_of_ble_eq_true rfl) dX3_returnNear_26 ⟨Nat.zero_le _, Nat.zero_le _⟩ (fun u7 H locs hP hD hS hw => ?_)
  replace hP : va_P D vwCl (WP cB cI q0 q1 q2 q3 q4 q5 q6 q7 q8 q9 (ps_regs u1 u7)) H := hP
  replace hD : va_D A (WP cB cI q0 q1 q2 q3 q4 q5 q6 q7 q8 q9 (ps_regs u1 u7)) := hD
  exact rt_v (wo := (fun v => WP cB cI q0 q1 q2 q3 q4 q5 q6 q7 q8 q9 v)) S hr hlk (ps_regs u1 u7) hP hS hw dX3_returnNear_29
-- X3_returnCodes
def wX3_returnCodes_b202  (P : SP → Prop) (s1 : Int32) (u : SP) : Prop := (P (ps_called u s1))
def wX3_returnCodes_b153  (P : SP → Prop)  (u : SP) : Prop := (wX3_returnFar (0 : Int32) u (fun u39 => (P u39)))
def wX3_returnCodes_b139  (P : SP → Prop)  (u : SP) : Prop := (wX3_returnFar (c_first (p_code u)) u (fun u37 => (P u37)))
def wX3_returnCodes_b118  (P : SP → Prop)  (u : SP) : Prop := (wX1_wide  (p_code u) (fun r34 u33 => (wX3_giveE (c_first (p_code u)) r34 (ps_code u u33) (fun u35 => (P u35)))))
def wX3_returnCodes_b94  (P : SP → Prop)  (u : SP) : Prop := (wX3_returnNear (0 : Int32) u (fun u31 => (P u31)))
def wX3_returnCodes_b80  (P : SP → Prop)  (u : SP) : Prop := (wX3_returnNear (c_first (p_code u)) u (fun u29 => (P u29)))
def wX3_returnCodes  (u : SP) (P : SP → Prop) : Prop := (((c_number (p_code u)) = (192 : Int32) → (wX3_returnCodes_b80  P u)) ∧ (¬ (c_number (p_code u)) = (192 : Int32) → (((c_number (p_code u)) = (193 : Int32) → (wX3_returnCodes_b94  P u)) ∧ (¬ (c_number (p_code u)) = (193 : Int32) → (((c_number (p_code u)) = (194 : Int32) → (wX3_returnCodes_b80  P u)) ∧ (¬ (c_number (p_code u)) = (194 : Int32) → (((c_number (p_code u)) = (195 : Int32) → (wX3_returnCodes_b94  P u)) ∧ (¬ (c_number (p_code u)) = (195 : Int32) → (((c_number (p_code u)) = (196 : Int32) → (wX3_giveFar (0 : Int32) u (fun u6 => (P u6)))) ∧ (¬ (c_number (p_code u)) = (196 : Int32) → (((c_number (p_code u)) = (197 : Int32) → (wX3_giveFar (3 : Int32) u (fun u9 => (P u9)))) ∧ (¬ (c_number (p_code u)) = (197 : Int32) → (((c_number (p_code u)) = (198 : Int32) → (wX3_returnCodes_b118  P u)) ∧ (¬ (c_number (p_code u)) = (198 : Int32) → (((c_number (p_code u)) = (199 : Int32) → (wX3_returnCodes_b118  P u)) ∧ (¬ (c_number (p_code u)) = (199 : Int32) → (((c_number (p_code u)) = (200 : Int32) → (wX3_returnCodes_b139  P u)) ∧ (¬ (c_number (p_code u)) = (200 : Int32) → (((c_number (p_code u)) = (201 : Int32) → (wX3_returnCodes_b153  P u)) ∧ (¬ (c_number (p_code u)) = (201 : Int32) → (((c_number (p_code u)) = (202 : Int32) → (wX3_returnCodes_b139  P u)) ∧ (¬ (c_number (p_code u)) = (202 : Int32) → (((c_number (p_code u)) = (203 : Int32) → (wX3_returnCodes_b153  P u)) ∧ (¬ (c_number (p_code u)) = (203 : Int32) → (((c_number (p_code u)) = (204 : Int32) → (P (ps_called u (3 : Int32)))) ∧ (¬ (c_number (p_code u)) = (204 : Int32) → (((c_number (p_code u)) = (205 : Int32) → (P (ps_called u (c_first (p_code u))))) ∧ (¬ (c_number (p_code u)) = (205 : Int32) → (((c_number (p_code u)) = (206 : Int32) → (wX0_has (2048 : Int32) (p_flags u) (fun r21 u20 => ((r21 = (0 : Int32) → (wX3_returnCodes_b202  P (-1 : Int32) (ps_flags u u20))) ∧ (¬ r21 = (0 : Int32) → (wX3_returnCodes_b202  P (4 : Int32) (ps_flags u u20))))))) ∧ (¬ (c_number (p_code u)) = (206 : Int32) → (wX3_returnFar (0 : Int32) u (fun u23 => (wX3_pop  u23 (fun r26 u25 => (wX0_keep r26 (p_flags u25) (fun u27 => (P (ps_flags u25 u27))))))))))))))))))))))))))))))))))))))
set_option maxHeartbeats 4000000 in
set_option maxRecDepth 100000 in
theorem kcX3_returnCodes (l : Launch) (D : va_G) (cB cI : ClassId) (q0 q1 q2 q3 q4 q5 q6 q7 q8 q9 : Nat) (sz : Nat)  (u : SP) (P : SP → Prop) (hw : wX3_returnCodes  u P) : Met l yX3_returnCodes wsX3_returnCodes ({ frames := 4, cells := 0, slots := 0, locals := 89 } : Room) (va_Pc [.ref q0] (Pcw D (tyA cB cI) (WP cB cI q0 q1 q2 q3 q4 q5 q6 q7 q8 q9 u) sz Tru)) (va_Qv P (fun u t => va_P D vwCl (WP cB cI q0 q1 q2 q3 q4 q5 q6 q7 q8 q9 u) t.heap) (va_A (WP cB cI q0 q1 q2 q3 q4 q5 q6 q7 q8 q9 u) sz)) 0 0 (va_A (WP cB cI q0 q1 q2 q3 q4 q5 q6 q7 q8 q9 u) sz) := by
  refine en_ (cc := cX3_returnCodes) (maxL := 1) (ret := none) (own := RX3) (lv := [(0, .ref q0)]) (Qf := fun A => va_Qv P (fun u t => va_P D vwCl (WP cB cI q0 q1 q2 q3 q4 q5 q6 q7 q8 q9 u) t.heap) A) (by decide) rfl rfl (Nat.le_of_ble_eq_true rfl) rfl ?_
  intro p e s m below meth c A ls S hr hlk hname hsz hP hK hD hA hSub hS hE hl
  have hx := S.1
  have hb := S.2.1
  have hown := S.2.2.2.1
  have hts := S.2.2.2.2
  have i_X1 : ∀ w ∈ u_ws RX1 TX1 12, w ∈ wsX3_returnCodes := by decide +kernel
  have i_X3 : ∀ w ∈ u_ws RX3 TX3 8, w ∈ wsX3_returnCodes := by decide +kernel
  have f_28 := hts (.fieldLink RX3 28 "MachineCore$Processor" "arithmetic" "LMachineCore$Arithmetic;") (by decide +kernel)
  have f_35 := hts (.fieldLink RX3 35 "MachineCore$Processor" "code" "LMachineCore$Code;") (by decide +kernel)
  have f_43 := hts (.fieldLink RX3 43 "MachineCore$Processor" "called" "I") (by decide +kernel)
  have f_47 := hts (.fieldLink RX3 47 "MachineCore$Code" "number" "I") (by decide +kernel)
  have f_83 := hts (.fieldLink RX3 83 "MachineCore$Code" "first" "I") (by decide +kernel)
  have b202 : ∀ (s1 : Int32) (u : SP) (H : Heap) (locs : List Loc) (ls : Array Slot), va_P D vwCl (WP cB cI q0 q1 q2 q3 q4 q5 q6 q7 q8 q9 u) H → va_D A (WP cB cI q0 q1 q2 q3 q4 q5 q6 q7 q8 q9 u) → va_S A s.heap H locs → lv_has ls 1 [] → wX3_returnCodes_b202  P s1 u → W p l e ({ frames := 4, cells := 0, slots := 0, locals := 89 } : Room) s m ([.ref q0] : List Value).toArray below meth c H locs 0 0 (MQ below (va_Qv P (fun u t => va_P D vwCl (WP cB cI q0 q1 q2 q3 q4 q5 q6 q7 q8 q9 u) t.heap) A) ([.ref q0] : List Value).toArray s 0 0 A) (F0 m 202 ls [.int s1, .ref q0]) := by
    intro s1 u H locs ls hP hD hS hl hw
    unfold wX3_returnCodes_b202 at hw
    refine va_put (D := D) (ci := 3) (v := .int s1) (ty := .int) (C := RX3) (T := TX3) (N := 8) hx hb hts i_X3 tyX3 tyX3_ok nmX3 hown hK hP hD hS 0 rfl rfl 7 (by decide) f_43 (fun _ h9 => h9) rfl (by decide +kernel) rfl rfl (Nat.le_of_ble_eq_true rfl) dX3_returnCodes_202 (fun H locs hP hD hS => ?_)
    replace hP : va_P D vwCl (WP cB cI q0 q1 q2 q3 q4 q5 q6 q7 q8 q9 (ps_called u s1)) H := hP
    replace hD : va_D A (WP cB cI q0 q1 q2 q3 q4 q5 q6 q7 q8 q9 (ps_called u s1)) := hD
    refine lv_goto (tgt := 224) hx hb dX3_returnCodes_205 (by decide) ?_
    exact rt_v (wo := (fun v => WP cB cI q0 q1 q2 q3 q4 q5 q6 q7 q8 q9 v)) S hr hlk (ps_called u s1) hP hS hw dX3_returnCodes_224
  have b153 : ∀  (u : SP) (H : Heap) (locs : List Loc) (ls : Array Slot), va_P D vwCl (WP cB cI q0 q1 q2 q3 q4 q5 q6 q7 q8 q9 u) H → va_D A (WP cB cI q0 q1 q2 q3 q4 q5 q6 q7 q8 q9 u) → va_S A s.heap H locs → lv_has ls 1 [(0, .ref q0)] → wX3_returnCodes_b153  P u → W p l e ({ frames := 4, cells := 0, slots := 0, locals := 89 } : Room) s m ([.ref q0] : List Value).toArray below meth c H locs 0 0 (MQ below (va_Qv P (fun u t => va_P D vwCl (WP cB cI q0 q1 q2 q3 q4 q5 q6 q7 q8 q9 u) t.heap) A) ([.ref q0] : List Value).toArray s 0 0 A) (F0 m 153 ls []) := by
    intro u H locs ls hP hD hS hl hw
    unfold wX3_returnCodes_b153 at hw
    refine lv_aload_n hx hb dX3_returnCodes_153 rfl (lv_at hl 0 rfl) ?_
    refine lv_iconst (v := (0 : Int32)) hx hb dX3_returnCodes_154 (by decide) ?_
    refine cl_Vv (As := [.int (0 : Int32)]) (rest := []) (st := [.int (0 : Int32), .ref q0]) S hK hA hP hD hS (fr_P u) (kcX3_returnFar l D cB cI q0 q1 q2 q3 q4 q5 q6 q7 q8 q9 H.size (0 : Int32) u _ hw) (cwV 1 hts gX3_returnCodes_X3_returnFar rfl rfl rfl (by decide +kernel) ⟨Nat.le_of_ble_eq_true rfl, Nat.le_of_ble_eq_true rfl⟩) tru_h tru_b 0 rfl rfl rfl rfl rfl hl.1 (Nat.le_of_ble_eq_true rfl) dX3_returnCodes_155 ⟨Nat.zero_le _, Nat.zero_le _⟩ (fun u39 H locs hP hD hS hw => ?_)
    replace hP : va_P D vwCl (WP cB cI q0 q1 q2 q3 q4 q5 q6 q7 q8 q9 u39) H := hP
    replace hD : va_D A (WP cB cI q0 q1 q2 q3 q4 q5 q6 q7 q8 q9 u39) := hD
    refine lv_goto (tgt := 224) hx hb dX3_returnCodes_158 (by decide) ?_
    exact rt_v (wo := (fun v => WP cB cI q0 q1 q2 q3 q4 q5 q6 q7 q8 q9 v)) S hr hlk u39 hP hS hw dX3_returnCodes_224
  have b139 : ∀  (u : SP) (H : Heap) (locs : List Loc) (ls : Array Slot), va_P D vwCl (WP cB cI q0 q1 q2 q3 q4 q5 q6 q7 q8 q9 u) H → va_D A (WP cB cI q0 q1 q2 q3 q4 q5 q6 q7 q8 q9 u) → va_S A s.heap H locs → lv_has ls 1 [(0, .ref q0)] → wX3_returnCodes_b139  P u → W p l e ({ frames := 4, cells := 0, slots := 0, locals := 89 } : Room) s m ([.ref q0] : List Value).toArray below meth c H locs 0 0 (MQ below (va_Qv P (fun u t => va_P D vwCl (WP cB cI q0 q1 q2 q3 q4 q5 q6 q7 q8 q9 u) t.heap) A) ([.ref q0] : List Value).toArray s 0 0 A) (F0 m 139 ls []) := by
    intro u H locs ls hP hD hS hl hw
    unfold wX3_returnCodes_b139 at hw
    refine lv_aload_n hx hb dX3_returnCodes_139 rfl (lv_at hl 0 rfl) ?_
    refine lv_aload_n hx hb dX3_returnCodes_140 rfl (lv_at hl 0 rfl) ?_
    refine va_get (D := D) (ci := 3) (v := .ref q8) (C := RX3) (T := TX3) (N := 8) hx hb hts i_X3 hown hK hP 0 rfl rfl 3 (by decide) f_35 (fun _ h9 => h9) rfl dX3_returnCodes_141 ?_
    refine va_get (D := D) (ci := 1) (v := .int (c_first (p_code u))) (C := RX1) (T := TX1) (N := 12) hx hb hts i_X1 hown hK hP 8 rfl rfl 9 (by decide) f_83 (fun _ h9 => h9) rfl dX3_returnCodes_144 ?_
    refine cl_Vv (As := [.int (c_first (p_code u))]) (rest := []) (st := [.int (c_first (p_code u)), .ref q0]) S hK hA hP hD hS (fr_P u) (kcX3_returnFar l D cB cI q0 q1 q2 q3 q4 q5 q6 q7 q8 q9 H.size (c_first (p_code u)) u _ hw) (cwV 1 hts gX3_returnCodes_X3_returnFar rfl rfl rfl (by decide +kernel) ⟨Nat.le_of_ble_eq_true rfl, Nat.le_of_ble_eq_true rfl⟩) tru_h tru_b 0 rfl rfl rfl rfl rfl hl.1 (Nat.le_of_ble_eq_true rfl) dX3_returnCodes_147 ⟨Nat.zero_le _, Nat.zero_le _⟩ (fun u37 H locs hP hD hS hw => ?_)
    replace hP : va_P D vwCl (WP cB cI q0 q1 q2 q3 q4 q5 q6 q7 q8 q9 u37) H := hP
    replace hD : va_D A (WP cB cI q0 q1 q2 q3 q4 q5 q6 q7 q8 q9 u37) := hD
    refine lv_goto (tgt := 224) hx hb dX3_returnCodes_150 (by decide) ?_
    exact rt_v (wo := (fun v => WP cB cI q0 q1 q2 q3 q4 q5 q6 q7 q8 q9 v)) S hr hlk u37 hP hS hw dX3_returnCodes_224
  have b118 : ∀  (u : SP) (H : Heap) (locs : List Loc) (ls : Array Slot), va_P D vwCl (WP cB cI q0 q1 q2 q3 q4 q5 q6 q7 q8 q9 u) H → va_D A (WP cB cI q0 q1 q2 q3 q4 q5 q6 q7 q8 q9 u) → va_S A s.heap H locs → lv_has ls 1 [(0, .ref q0)] → wX3_returnCodes_b118  P u → W p l e ({ frames := 4, cells := 0, slots := 0, locals := 89 } : Room) s m ([.ref q0] : List Value).toArray below meth c H locs 0 0 (MQ below (va_Qv P (fun u t => va_P D vwCl (WP cB cI q0 q1 q2 q3 q4 q5 q6 q7 q8 q9 u) t.heap) A) ([.ref q0] : List Value).toArray s 0 0 A) (F0 m 118 ls []) := by
    intro u H locs ls hP hD hS hl hw
    unfold wX3_returnCodes_b118 at hw
    refine lv_aload_n hx hb dX3_returnCodes_118 rfl (lv_at hl 0 rfl) ?_
    refine lv_aload_n hx hb dX3_returnCodes_119 rfl (lv_at hl 0 rfl) ?_
    refine va_get (D := D) (ci := 3) (v := .ref q8) (C := RX3) (T := TX3) (N := 8) hx hb hts i_X3 hown hK hP 0 rfl rfl 3 (by decide) f_35 (fun _ h9 => h9) rfl dX3_returnCodes_120 ?_
    refine va_get (D := D) (ci := 1) (v := .int (c_first (p_code u))) (C := RX1) (T := TX1) (N := 12) hx hb hts i_X1 hown hK hP 8 rfl rfl 9 (by decide) f_83 (fun _ h9 => h9) rfl dX3_returnCodes_123 ?_
    refine lv_aload_n hx hb dX3_returnCodes_126 rfl (lv_at hl 0 rfl) ?_
    refine va_get (D := D) (ci := 3) (v := .ref q8) (C := RX3) (T := TX3) (N := 8) hx hb hts i_X3 hown hK hP 0 rfl rfl 3 (by decide) f_35 (fun _ h9 => h9) rfl dX3_returnCodes_127 ?_
    refine cl_Vi (As := []) (rest := [.int (c_first (p_code u)), .ref q0]) (st := [.ref q8, .int (c_first (p_code u)), .ref q0]) S hK hA hP hD hS (fr_P_C u) (kcX1_wide l D cB cI q8 H.size  (p_code u) _ hw) (cwV 0 hts gX3_returnCodes_X1_wide rfl rfl rfl (by decide +kernel) ⟨Nat.le_of_ble_eq_true rfl, Nat.le_of_ble_eq_true rfl⟩) tru_h tru_b 8 rfl rfl rfl rfl rfl hl.1 (Nat.le_of_ble_eq_true rfl) dX3_returnCodes_130 ⟨Nat.zero_le _, Nat.zero_le _⟩ (fun r34 u33 H locs hP hD hS hw => ?_)
    replace hP : va_P D vwCl (WP cB cI q0 q1 q2 q3 q4 q5 q6 q7 q8 q9 (ps_code u u33)) H := hP
    replace hD : va_D A (WP cB cI q0 q1 q2 q3 q4 q5 q6 q7 q8 q9 (ps_code u u33)) := hD
    refine cl_Vv (As := [.int (c_first (p_code u)), .int r34]) (rest := []) (st := [.int r34, .int (c_first (p_code u)), .ref q0]) S hK hA hP hD hS (fr_P (ps_code u u33)) (kcX3_giveE l D cB cI q0 q1 q2 q3 q4 q5 q6 q7 q8 q9 H.size (c_first (p_code u)) r34 (ps_code u u33) _ hw) (cwV 2 hts gX3_returnCodes_X3_giveE rfl rfl rfl (by decide +kernel) ⟨Nat.le_of_ble_eq_true rfl, Nat.le_of_ble_eq_true rfl⟩) tru_h tru_b 0 rfl rfl rfl rfl rfl hl.1 (Nat.le_of_ble_eq_true rfl) dX3_returnCodes_133 ⟨Nat.zero_le _, Nat.zero_le _⟩ (fun u35 H locs hP hD hS hw => ?_)
    replace hP : va_P D vwCl (WP cB cI q0 q1 q2 q3 q4 q5 q6 q7 q8 q9 u35) H := hP
    replace hD : va_D A (WP cB cI q0 q1 q2 q3 q4 q5 q6 q7 q8 q9 u35) := hD
    refine lv_goto (tgt := 224) hx hb dX3_returnCodes_136 (by decide) ?_
    exact rt_v (wo := (fun v => WP cB cI q0 q1 q2 q3 q4 q5 q6 q7 q8 q9 v)) S hr hlk u35 hP hS hw dX3_returnCodes_224
  have b94 : ∀  (u : SP) (H : Heap) (locs : List Loc) (ls : Array Slot), va_P D vwCl (WP cB cI q0 q1 q2 q3 q4 q5 q6 q7 q8 q9 u) H → va_D A (WP cB cI q0 q1 q2 q3 q4 q5 q6 q7 q8 q9 u) → va_S A s.heap H locs → lv_has ls 1 [(0, .ref q0)] → wX3_returnCodes_b94  P u → W p l e ({ frames := 4, cells := 0, slots := 0, locals := 89 } : Room) s m ([.ref q0] : List Value).toArray below meth c H locs 0 0 (MQ below (va_Qv P (fun u t => va_P D vwCl (WP cB cI q0 q1 q2 q3 q4 q5 q6 q7 q8 q9 u) t.heap) A) ([.ref q0] : List Value).toArray s 0 0 A) (F0 m 94 ls []) := by
    intro u H locs ls hP hD hS hl hw
    unfold wX3_returnCodes_b94 at hw
    refine lv_aload_n hx hb dX3_returnCodes_94 rfl (lv_at hl 0 rfl) ?_
    refine lv_iconst (v := (0 : Int32)) hx hb dX3_returnCodes_95 (by decide) ?_
    refine cl_Vv (As := [.int (0 : Int32)]) (rest := []) (st := [.int (0 : Int32), .ref q0]) S hK hA hP hD hS (fr_P u) (kcX3_returnNear l D cB cI q0 q1 q2 q3 q4 q5 q6 q7 q8 q9 H.size (0 : Int32) u _ hw) (cwV 1 hts gX3_returnCodes_X3_returnNear rfl rfl rfl (by decide +kernel) ⟨Nat.le_of_ble_eq_true rfl, Nat.le_of_ble_eq_true rfl⟩) tru_h tru_b 0 rfl rfl rfl rfl rfl hl.1 (Nat.le_of_ble_eq_true rfl) dX3_returnCodes_96 ⟨Nat.zero_le _, Nat.zero_le _⟩ (fun u31 H locs hP hD hS hw => ?_)
    replace hP : va_P D vwCl (WP cB cI q0 q1 q2 q3 q4 q5 q6 q7 q8 q9 u31) H := hP
    replace hD : va_D A (WP cB cI q0 q1 q2 q3 q4 q5 q6 q7 q8 q9 u31) := hD
    refine lv_goto (tgt := 224) hx hb dX3_returnCodes_99 (by decide) ?_
    exact rt_v (wo := (fun v => WP cB cI q0 q1 q2 q3 q4 q5 q6 q7 q8 q9 v)) S hr hlk u31 hP hS hw dX3_returnCodes_224
  have b80 : ∀  (u : SP) (H : Heap) (locs : List Loc) (ls : Array Slot), va_P D vwCl (WP cB cI q0 q1 q2 q3 q4 q5 q6 q7 q8 q9 u) H → va_D A (WP cB cI q0 q1 q2 q3 q4 q5 q6 q7 q8 q9 u) → va_S A s.heap H locs → lv_has ls 1 [(0, .ref q0)] → wX3_returnCodes_b80  P u → W p l e ({ frames := 4, cells := 0, slots := 0, locals := 89 } : Room) s m ([.ref q0] : List Value).toArray below meth c H locs 0 0 (MQ below (va_Qv P (fun u t => va_P D vwCl (WP cB cI q0 q1 q2 q3 q4 q5 q6 q7 q8 q9 u) t.heap) A) ([.ref q0] : List Value).toArray s 0 0 A) (F0 m 80 ls []) := by
    intro u H locs ls hP hD hS hl hw
    unfold wX3_returnCodes_b80 at hw
    refine lv_aload_n hx hb dX3_returnCodes_80 rfl (lv_at hl 0 rfl) ?_
    refine lv_aload_n hx hb dX3_returnCodes_81 rfl (lv_at hl 0 rfl) ?_
    refine va_get (D := D) (ci := 3) (v := .ref q8) (C := RX3) (T := TX3) (N := 8) hx hb hts i_X3 hown hK hP 0 rfl rfl 3 (by decide) f_35 (fun _ h9 => h9) rfl dX3_returnCodes_82 ?_
    refine va_get (D := D) (ci := 1) (v := .int (c_first (p_code u))) (C := RX1) (T := TX1) (N := 12) hx hb hts i_X1 hown hK hP 8 rfl rfl 9 (by decide) f_83 (fun _ h9 => h9) rfl dX3_returnCodes_85 ?_
    refine cl_Vv (As := [.int (c_first (p_code u))]) (rest := []) (st := [.int (c_first (p_code u)), .ref q0]) S hK hA hP hD hS (fr_P u) (kcX3_returnNear l D cB cI q0 q1 q2 q3 q4 q5 q6 q7 q8 q9 H.size (c_first (p_code u)) u _ hw) (cwV 1 hts gX3_returnCodes_X3_returnNear rfl rfl rfl (by decide +kernel) ⟨Nat.le_of_ble_eq_true rfl, Nat.le_of_ble_eq_true rfl⟩) tru_h tru_b 0 rfl rfl rfl rfl rfl hl.1 (Nat.le_of_ble_eq_true rfl) dX3_returnCodes_88 ⟨Nat.zero_le _, Nat.zero_le _⟩ (fun u29 H locs hP hD hS hw => ?_)
    replace hP : va_P D vwCl (WP cB cI q0 q1 q2 q3 q4 q5 q6 q7 q8 q9 u29) H := hP
    replace hD : va_D A (WP cB cI q0 q1 q2 q3 q4 q5 q6 q7 q8 q9 u29) := hD
    refine lv_goto (tgt := 224) hx hb dX3_returnCodes_91 (by decide) ?_
    exact rt_v (wo := (fun v => WP cB cI q0 q1 q2 q3 q4 q5 q6 q7 q8 q9 v)) S hr hlk u29 hP hS hw dX3_returnCodes_224
  unfold wX3_returnCodes at hw
  obtain ⟨H, eH⟩ : ∃ H, H = s.heap := ⟨_, rfl⟩
  obtain ⟨locs, eL⟩ : ∃ locs : List Loc, locs = [] := ⟨_, rfl⟩
  replace hP : va_P D vwCl (WP cB cI q0 q1 q2 q3 q4 q5 q6 q7 q8 q9 u) H := by rw [eH]; exact hP
  replace hS : va_S A s.heap H locs := by rw [eH, eL]; exact hS
  suffices hgo : W p l e ({ frames := 4, cells := 0, slots := 0, locals := 89 } : Room) s m ([.ref q0] : List Value).toArray below meth c H locs 0 0 (MQ below (va_Qv P (fun u t => va_P D vwCl (WP cB cI q0 q1 q2 q3 q4 q5 q6 q7 q8 q9 u) t.heap) A) ([.ref q0] : List Value).toArray s 0 0 A) (F0 m 0 ls []) by rw [eH, eL] at hgo; exact hgo
  clear eH eL
  refine lv_aload_n hx hb dX3_returnCodes_0 rfl (lv_at hl 0 rfl) ?_
  refine va_get (D := D) (ci := 3) (v := .ref q8) (C := RX3) (T := TX3) (N := 8) hx hb hts i_X3 hown hK hP 0 rfl rfl 3 (by decide) f_35 (fun _ h9 => h9) rfl dX3_returnCodes_1 ?_
  refine va_get (D := D) (ci := 1) (v := .int (c_number (p_code u))) (C := RX1) (T := TX1) (N := 12) hx hb hts i_X1 hown hK hP 8 rfl rfl 1 (by decide) f_47 (fun _ h9 => h9) rfl dX3_returnCodes_4 ?_
  by_cases c1 : (c_number (p_code u)) = (192 : Int32)
  · replace hw := hw.1 c1
    refine lv_tableIn (off := 73) (tgt := 80) hx hb dX3_returnCodes_7 (by rw [c1]; decide) (by rw [c1]; decide) (by rw [c1]; rfl) (by decide) ?_
    exact b80 u H locs ls hP hD hS (lv_sub hl [0] rfl) hw
  replace hw := hw.2 c1
  by_cases c2 : (c_number (p_code u)) = (193 : Int32)
  · replace hw := hw.1 c2
    refine lv_tableIn (off := 87) (tgt := 94) hx hb dX3_returnCodes_7 (by rw [c2]; decide) (by rw [c2]; decide) (by rw [c2]; rfl) (by decide) ?_
    exact b94 u H locs ls hP hD hS (lv_sub hl [0] rfl) hw
  replace hw := hw.2 c2
  by_cases c3 : (c_number (p_code u)) = (194 : Int32)
  · replace hw := hw.1 c3
    refine lv_tableIn (off := 73) (tgt := 80) hx hb dX3_returnCodes_7 (by rw [c3]; decide) (by rw [c3]; decide) (by rw [c3]; rfl) (by decide) ?_
    exact b80 u H locs ls hP hD hS (lv_sub hl [0] rfl) hw
  replace hw := hw.2 c3
  by_cases c4 : (c_number (p_code u)) = (195 : Int32)
  · replace hw := hw.1 c4
    refine lv_tableIn (off := 87) (tgt := 94) hx hb dX3_returnCodes_7 (by rw [c4]; decide) (by rw [c4]; decide) (by rw [c4]; rfl) (by decide) ?_
    exact b94 u H locs ls hP hD hS (lv_sub hl [0] rfl) hw
  replace hw := hw.2 c4
  by_cases c5 : (c_number (p_code u)) = (196 : Int32)
  · replace hw := hw.1 c5
    refine lv_tableIn (off := 95) (tgt := 102) hx hb dX3_returnCodes_7 (by rw [c5]; decide) (by rw [c5]; decide) (by rw [c5]; rfl) (by decide) ?_
    refine lv_aload_n hx hb dX3_returnCodes_102 rfl (lv_at hl 0 rfl) ?_
    refine lv_iconst (v := (0 : Int32)) hx hb dX3_returnCodes_103 (by decide) ?_
    refine cl_Vv (As := [.int (0 : Int32)]) (rest := []) (st := [.int (0 : Int32), .ref q0]) S hK hA hP hD hS (fr_P u) (kcX3_giveFar l D cB cI q0 q1 q2 q3 q4 q5 q6 q7 q8 q9 H.size (0 : Int32) u _ hw) (cwV 1 hts gX3_returnCodes_X3_giveFar rfl rfl rfl (by decide +kernel) ⟨Nat.le_of_ble_eq_true rfl, Nat.le_of_ble_eq_true rfl⟩) tru_h tru_b 0 rfl rfl rfl rfl rfl hl.1 (Nat.le_of_ble_eq_true rfl) dX3_returnCodes_104 ⟨Nat.zero_le _, Nat.zero_le _⟩ (fun u6 H locs hP hD hS hw => ?_)
    replace hP : va_P D vwCl (WP cB cI q0 q1 q2 q3 q4 q5 q6 q7 q8 q9 u6) H := hP
    replace hD : va_D A (WP cB cI q0 q1 q2 q3 q4 q5 q6 q7 q8 q9 u6) := hD
    refine lv_goto (tgt := 224) hx hb dX3_returnCodes_107 (by decide) ?_
    exact rt_v (wo := (fun v => WP cB cI q0 q1 q2 q3 q4 q5 q6 q7 q8 q9 v)) S hr hlk u6 hP hS hw dX3_returnCodes_224
  replace hw := hw.2 c5
  by_cases c8 : (c_number (p_code u)) = (197 : Int32)
  · replace hw := hw.1 c8
    refine lv_tableIn (off := 103) (tgt := 110) hx hb dX3_returnCodes_7 (by rw [c8]; decide) (by rw [c8]; decide) (by rw [c8]; rfl) (by decide) ?_
    refine lv_aload_n hx hb dX3_returnCodes_110 rfl (lv_at hl 0 rfl) ?_
    refine lv_iconst (v := (3 : Int32)) hx hb dX3_returnCodes_111 (by decide) ?_
    refine cl_Vv (As := [.int (3 : Int32)]) (rest := []) (st := [.int (3 : Int32), .ref q0]) S hK hA hP hD hS (fr_P u) (kcX3_giveFar l D cB cI q0 q1 q2 q3 q4 q5 q6 q7 q8 q9 H.size (3 : Int32) u _ hw) (cwV 1 hts gX3_returnCodes_X3_giveFar rfl rfl rfl (by decide +kernel) ⟨Nat.le_of_ble_eq_true rfl, Nat.le_of_ble_eq_true rfl⟩) tru_h tru_b 0 rfl rfl rfl rfl rfl hl.1 (Nat.le_of_ble_eq_true rfl) dX3_returnCodes_112 ⟨Nat.zero_le _, Nat.zero_le _⟩ (fun u9 H locs hP hD hS hw => ?_)
    replace hP : va_P D vwCl (WP cB cI q0 q1 q2 q3 q4 q5 q6 q7 q8 q9 u9) H := hP
    replace hD : va_D A (WP cB cI q0 q1 q2 q3 q4 q5 q6 q7 q8 q9 u9) := hD
    refine lv_goto (tgt := 224) hx hb dX3_returnCodes_115 (by decide) ?_
    exact rt_v (wo := (fun v => WP cB cI q0 q1 q2 q3 q4 q5 q6 q7 q8 q9 v)) S hr hlk u9 hP hS hw dX3_returnCodes_224
  replace hw := hw.2 c8
  by_cases c11 : (c_number (p_code u)) = (198 : Int32)
  · replace hw := hw.1 c11
    refine lv_tableIn (off := 111) (tgt := 118) hx hb dX3_returnCodes_7 (by rw [c11]; decide) (by rw [c11]; decide) (by rw [c11]; rfl) (by decide) ?_
    exact b118 u H locs ls hP hD hS (lv_sub hl [0] rfl) hw
  replace hw := hw.2 c11
  by_cases c12 : (c_number (p_code u)) = (199 : Int32)
  · replace hw := hw.1 c12
    refine lv_tableIn (off := 111) (tgt := 118) hx hb dX3_returnCodes_7 (by rw [c12]; decide) (by rw [c12]; decide) (by rw [c12]; rfl) (by decide) ?_
    exact b118 u H locs ls hP hD hS (lv_sub hl [0] rfl) hw
  replace hw := hw.2 c12
  by_cases c13 : (c_number (p_code u)) = (200 : Int32)
  · replace hw := hw.1 c13
    refine lv_tableIn (off := 132) (tgt := 139) hx hb dX3_returnCodes_7 (by rw [c13]; decide) (by rw [c13]; decide) (by rw [c13]; rfl) (by decide) ?_
    exact b139 u H locs ls hP hD hS (lv_sub hl [0] rfl) hw
  replace hw := hw.2 c13
  by_cases c14 : (c_number (p_code u)) = (201 : Int32)
  · replace hw := hw.1 c14
    refine lv_tableIn (off := 146) (tgt := 153) hx hb dX3_returnCodes_7 (by rw [c14]; decide) (by rw [c14]; decide) (by rw [c14]; rfl) (by decide) ?_
    exact b153 u H locs ls hP hD hS (lv_sub hl [0] rfl) hw
  replace hw := hw.2 c14
  by_cases c15 : (c_number (p_code u)) = (202 : Int32)
  · replace hw := hw.1 c15
    refine lv_tableIn (off := 132) (tgt := 139) hx hb dX3_returnCodes_7 (by rw [c15]; decide) (by rw [c15]; decide) (by rw [c15]; rfl) (by decide) ?_
    exact b139 u H locs ls hP hD hS (lv_sub hl [0] rfl) hw
  replace hw := hw.2 c15
  by_cases c16 : (c_number (p_code u)) = (203 : Int32)
  · replace hw := hw.1 c16
    refine lv_tableIn (off := 146) (tgt := 153) hx hb dX3_returnCodes_7 (by rw [c16]; decide) (by rw [c16]; decide) (by rw [c16]; rfl) (by decide) ?_
    exact b153 u H locs ls hP hD hS (lv_sub hl [0] rfl) hw
  replace hw := hw.2 c16
  by_cases c17 : (c_number (p_code u)) = (204 : Int32)
  · replace hw := hw.1 c17
    refine lv_tableIn (off := 154) (tgt := 161) hx hb dX3_returnCodes_7 (by rw [c17]; decide) (by rw [c17]; decide) (by rw [c17]; rfl) (by decide) ?_
    refine lv_aload_n hx hb dX3_returnCodes_161 rfl (lv_at hl 0 rfl) ?_
    refine lv_iconst (v := (3 : Int32)) hx hb dX3_returnCodes_162 (by decide) ?_
    refine va_put (D := D) (ci := 3) (v := .int (3 : Int32)) (ty := .int) (C := RX3) (T := TX3) (N := 8) hx hb hts i_X3 tyX3 tyX3_ok nmX3 hown hK hP hD hS 0 rfl rfl 7 (by decide) f_43 (fun _ h9 => h9) rfl (by decide +kernel) rfl rfl (Nat.le_of_ble_eq_true rfl) dX3_returnCodes_163 (fun H locs hP hD hS => ?_)
    replace hP : va_P D vwCl (WP cB cI q0 q1 q2 q3 q4 q5 q6 q7 q8 q9 (ps_called u (3 : Int32))) H := hP
    replace hD : va_D A (WP cB cI q0 q1 q2 q3 q4 q5 q6 q7 q8 q9 (ps_called u (3 : Int32))) := hD
    refine lv_goto (tgt := 224) hx hb dX3_returnCodes_166 (by decide) ?_
    exact rt_v (wo := (fun v => WP cB cI q0 q1 q2 q3 q4 q5 q6 q7 q8 q9 v)) S hr hlk (ps_called u (3 : Int32)) hP hS hw dX3_returnCodes_224
  replace hw := hw.2 c17
  by_cases c18 : (c_number (p_code u)) = (205 : Int32)
  · replace hw := hw.1 c18
    refine lv_tableIn (off := 162) (tgt := 169) hx hb dX3_returnCodes_7 (by rw [c18]; decide) (by rw [c18]; decide) (by rw [c18]; rfl) (by decide) ?_
    refine lv_aload_n hx hb dX3_returnCodes_169 rfl (lv_at hl 0 rfl) ?_
    refine lv_aload_n hx hb dX3_returnCodes_170 rfl (lv_at hl 0 rfl) ?_
    refine va_get (D := D) (ci := 3) (v := .ref q8) (C := RX3) (T := TX3) (N := 8) hx hb hts i_X3 hown hK hP 0 rfl rfl 3 (by decide) f_35 (fun _ h9 => h9) rfl dX3_returnCodes_171 ?_
    refine va_get (D := D) (ci := 1) (v := .int (c_first (p_code u))) (C := RX1) (T := TX1) (N := 12) hx hb hts i_X1 hown hK hP 8 rfl rfl 9 (by decide) f_83 (fun _ h9 => h9) rfl dX3_returnCodes_174 ?_
    refine va_put (D := D) (ci := 3) (v := .int (c_first (p_code u))) (ty := .int) (C := RX3) (T := TX3) (N := 8) hx hb hts i_X3 tyX3 tyX3_ok nmX3 hown hK hP hD hS 0 rfl rfl 7 (by decide) f_43 (fun _ h9 => h9) rfl (by decide +kernel) rfl rfl (Nat.le_of_ble_eq_true rfl) dX3_returnCodes_177 (fun H locs hP hD hS => ?_)
    replace hP : va_P D vwCl (WP cB cI q0 q1 q2 q3 q4 q5 q6 q7 q8 q9 (ps_called u (c_first (p_code u)))) H := hP
    replace hD : va_D A (WP cB cI q0 q1 q2 q3 q4 q5 q6 q7 q8 q9 (ps_called u (c_first (p_code u)))) := hD
    refine lv_goto (tgt := 224) hx hb dX3_returnCodes_180 (by decide) ?_
    exact rt_v (wo := (fun v => WP cB cI q0 q1 q2 q3 q4 q5 q6 q7 q8 q9 v)) S hr hlk (ps_called u (c_first (p_code u))) hP hS hw dX3_returnCodes_224
  replace hw := hw.2 c18
  by_cases c19 : (c_number (p_code u)) = (206 : Int32)
  · replace hw := hw.1 c19
    refine lv_tableIn (off := 176) (tgt := 183) hx hb dX3_returnCodes_7 (by rw [c19]; decide) (by rw [c19]; decide) (by rw [c19]; rfl) (by decide) ?_
    refine lv_aload_n hx hb dX3_returnCodes_183 rfl (lv_at hl 0 rfl) ?_
    refine lv_aload_n hx hb dX3_returnCodes_184 rfl (lv_at hl 0 rfl) ?_
    refine va_get (D := D) (ci := 3) (v := .ref q7) (C := RX3) (T := TX3) (N := 8) hx hb hts i_X3 hown hK hP 0 rfl rfl 2 (by decide) f_28 (fun _ h9 => h9) rfl dX3_returnCodes_185 ?_
    refine lv_sipush (v := (2048 : Int32)) hx hb dX3_returnCodes_188 (by decide) ?_
    refine cl_Vi (As := [.int (2048 : Int32)]) (rest := [.ref q0]) (st := [.int (2048 : Int32), .ref q7, .ref q0]) S hK hA hP hD hS (fr_P_A u) (kcX0_has l D cB cI q7 H.size (2048 : Int32) (p_flags u) _ hw) (cwV 1 hts gX3_returnCodes_X0_has rfl rfl rfl (by decide +kernel) ⟨Nat.le_of_ble_eq_true rfl, Nat.le_of_ble_eq_true rfl⟩) tru_h tru_b 7 rfl rfl rfl rfl rfl hl.1 (Nat.le_of_ble_eq_true rfl) dX3_returnCodes_191 ⟨Nat.zero_le _, Nat.zero_le _⟩ (fun r21 u20 H locs hP hD hS hw => ?_)
    replace hP : va_P D vwCl (WP cB cI q0 q1 q2 q3 q4 q5 q6 q7 q8 q9 (ps_flags u u20)) H := hP
    replace hD : va_D A (WP cB cI q0 q1 q2 q3 q4 q5 q6 q7 q8 q9 (ps_flags u u20)) := hD
    refine lv_if_eq (tgt := 201) hx hb dX3_returnCodes_194 (by decide) (fun c22 => ?_) (fun c22 => ?_)
    · replace hw := hw.1 c22
      refine lv_iconst (v := (-1 : Int32)) hx hb dX3_returnCodes_201 (by decide) ?_
      exact b202 (-1 : Int32) (ps_flags u u20) H locs ls hP hD hS (lv_sub hl [] rfl) hw
    · replace hw := hw.2 c22
      refine lv_iconst (v := (4 : Int32)) hx hb dX3_returnCodes_197 (by decide) ?_
      refine lv_goto (tgt := 202) hx hb dX3_returnCodes_198 (by decide) ?_
      exact b202 (4 : Int32) (ps_flags u u20) H locs ls hP hD hS (lv_sub hl [] rfl) hw
  replace hw := hw.2 c19
  refine lv_tableOut (tgt := 208) hx hb dX3_returnCodes_7 (by have e_c1 : ¬ ((c_number (p_code u)) : Int32).toInt = 192 := sw_ne c1; have e_c2 : ¬ ((c_number (p_code u)) : Int32).toInt = 193 := sw_ne c2; have e_c3 : ¬ ((c_number (p_code u)) : Int32).toInt = 194 := sw_ne c3; have e_c4 : ¬ ((c_number (p_code u)) : Int32).toInt = 195 := sw_ne c4; have e_c5 : ¬ ((c_number (p_code u)) : Int32).toInt = 196 := sw_ne c5; have e_c8 : ¬ ((c_number (p_code u)) : Int32).toInt = 197 := sw_ne c8; have e_c11 : ¬ ((c_number (p_code u)) : Int32).toInt = 198 := sw_ne c11; have e_c12 : ¬ ((c_number (p_code u)) : Int32).toInt = 199 := sw_ne c12; have e_c13 : ¬ ((c_number (p_code u)) : Int32).toInt = 200 := sw_ne c13; have e_c14 : ¬ ((c_number (p_code u)) : Int32).toInt = 201 := sw_ne c14; have e_c15 : ¬ ((c_number (p_code u)) : Int32).toInt = 202 := sw_ne c15; have e_c16 : ¬ ((c_number (p_code u)) : Int32).toInt = 203 := sw_ne c16; have e_c17 : ¬ ((c_number (p_code u)) : Int32).toInt = 204 := sw_ne c17; have e_c18 : ¬ ((c_number (p_code u)) : Int32).toInt = 205 := sw_ne c18; have e_c19 : ¬ ((c_number (p_code u)) : Int32).toInt = 206 := sw_ne c19; omega) (by decide) ?_
  refine lv_aload_n hx hb dX3_returnCodes_208 rfl (lv_at hl 0 rfl) ?_
  refine lv_iconst (v := (0 : Int32)) hx hb dX3_returnCodes_209 (by decide) ?_
  refine cl_Vv (As := [.int (0 : Int32)]) (rest := []) (st := [.int (0 : Int32), .ref q0]) S hK hA hP hD hS (fr_P u) (kcX3_returnFar l D cB cI q0 q1 q2 q3 q4 q5 q6 q7 q8 q9 H.size (0 : Int32) u _ hw) (cwV 1 hts gX3_returnCodes_X3_returnFar rfl rfl rfl (by decide +kernel) ⟨Nat.le_of_ble_eq_true rfl, Nat.le_of_ble_eq_true rfl⟩) tru_h tru_b 0 rfl rfl rfl rfl rfl hl.1 (Nat.le_of_ble_eq_true rfl) dX3_returnCodes_210 ⟨Nat.zero_le _, Nat.zero_le _⟩ (fun u23 H locs hP hD hS hw => ?_)
  replace hP : va_P D vwCl (WP cB cI q0 q1 q2 q3 q4 q5 q6 q7 q8 q9 u23) H := hP
  replace hD : va_D A (WP cB cI q0 q1 q2 q3 q4 q5 q6 q7 q8 q9 u23) := hD
  refine lv_aload_n hx hb dX3_returnCodes_213 rfl (lv_at hl 0 rfl) ?_
  refine va_get (D := D) (ci := 3) (v := .ref q7) (C := RX3) (T := TX3) (N := 8) hx hb hts i_X3 hown hK hP 0 rfl rfl 2 (by decide) f_28 (fun _ h9 => h9) rfl dX3_returnCodes_214 ?_
  refine lv_aload_n hx hb dX3_returnCodes_217 rfl (lv_at hl 0 rfl) ?_
  refine cl_Vi (As := []) (rest := [.ref q7]) (st := [.ref q0, .ref q7]) S hK hA hP hD hS (fr_P u23) (kcX3_pop l D cB cI q0 q1 q2 q3 q4 q5 q6 q7 q8 q9 H.size  u23 _ hw) (cwV 0 hts gX3_returnCodes_X3_pop rfl rfl rfl (by decide +kernel) ⟨Nat.le_of_ble_eq_true rfl, Nat.le_of_ble_eq_true rfl⟩) tru_h tru_b 0 rfl rfl rfl rfl rfl hl.1 (Nat.le_of_ble_eq_true rfl) dX3_returnCodes_218 ⟨Nat.zero_le _, Nat.zero_le _⟩ (fun r26 u25 H locs hP hD hS hw => ?_)
  replace hP : va_P D vwCl (WP cB cI q0 q1 q2 q3 q4 q5 q6 q7 q8 q9 u25) H := hP
  replace hD : va_D A (WP cB cI q0 q1 q2 q3 q4 q5 q6 q7 q8 q9 u25) := hD
  refine cl_Vv (As := [.int r26]) (rest := []) (st := [.int r26, .ref q7]) S hK hA hP hD hS (fr_P_A u25) (kcX0_keep l D cB cI q7 H.size r26 (p_flags u25) _ hw) (cwV 1 hts gX3_returnCodes_X0_keep rfl rfl rfl (by decide +kernel) ⟨Nat.le_of_ble_eq_true rfl, Nat.le_of_ble_eq_true rfl⟩) tru_h tru_b 7 rfl rfl rfl rfl rfl hl.1 (Nat.le_of_ble_eq_true rfl) dX3_returnCodes_221 ⟨Nat.zero_le _, Nat.zero_le _⟩ (fun u27 H locs hP hD hS hw => ?_)
  replace hP : va_P D vwCl (WP cB cI q0 q1 q2 q3 q4 q5 q6 q7 q8 q9 (ps_flags u25 u27)) H := hP
  replace hD : va_D A (WP cB cI q0 q1 q2 q3 q4 q5 q6 q7 q8 q9 (ps_flags u25 u27)) := hD
  exact rt_v (wo := (fun v => WP cB cI q0 q1 q2 q3 q4 q5 q6 q7 q8 q9 v)) S hr hlk (ps_flags u25 u27) hP hS hw dX3_returnCodes_224
-- X3_shiftAndAdjustCodes
def wX3_shiftAndAdjustCodes_b219  (P : SP → Prop) (s1 : Int32) (u : SP) : Prop := (wX3_giveA s1 (0 : Int32) u (fun u51 => (P u51)))
def wX3_shiftAndAdjustCodes_b89  (P : SP → Prop) (x1 : Int32) (u : SP) : Prop := (wX3_e x1 u (fun r44 u43 => (wX4_value (1 : Int32) (0 : Int32) (p_regs u43) (fun r46 u45 => (wX0_shift (c_r (p_code u)) r44 r46 x1 (p_flags u43) (fun r48 u47 => (wX3_giveE r48 x1 (ps_flags (ps_regs u43 u45) u47) (fun u49 => (P u49)))))))))
def wX3_shiftAndAdjustCodes_b60  (P : SP → Prop) (x1 : Int32) (u : SP) : Prop := (wX3_e x1 u (fun r38 u37 => (wX0_shift (c_r (p_code u)) r38 (1 : Int32) x1 (p_flags u37) (fun r40 u39 => (wX3_giveE r40 x1 (ps_flags u37 u39) (fun u41 => (P u41)))))))
def wX3_shiftAndAdjustCodes  (u : SP) (P : SP → Prop) : Prop := (wX1_wide  (p_code u) (fun r2 u1 => (((c_number u1) = (208 : Int32) → (wX3_shiftAndAdjustCodes_b60  P r2 (ps_code u u1))) ∧ (¬ (c_number u1) = (208 : Int32) → (((c_number u1) = (209 : Int32) → (wX3_shiftAndAdjustCodes_b60  P r2 (ps_code u u1))) ∧ (¬ (c_number u1) = (209 : Int32) → (((c_number u1) = (210 : Int32) → (wX3_shiftAndAdjustCodes_b89  P r2 (ps_code u u1))) ∧ (¬ (c_number u1) = (210 : Int32) → (((c_number u1) = (211 : Int32) → (wX3_shiftAndAdjustCodes_b89  P r2 (ps_code u u1))) ∧ (¬ (c_number u1) = (211 : Int32) → (((c_number u1) = (212 : Int32) → (((c_first u1) = (0 : Int32) → (P (ps_code (ps_called u (0 : Int32)) u1))) ∧ (¬ (c_first u1) = (0 : Int32) → (wX3_a (1 : Int32) (ps_code u u1) (fun r10 u9 => (wX0_adjustment (4 : Int32) r10 (c_first (p_code u9)) (p_flags u9) (fun r12 u11 => (wX3_giveA r12 (1 : Int32) (ps_flags u9 u11) (fun u13 => (P u13)))))))))) ∧ (¬ (c_number u1) = (212 : Int32) → (((c_number u1) = (213 : Int32) → (wX3_a (1 : Int32) (ps_code u u1) (fun r17 u16 => (wX0_adjustment (5 : Int32) r17 (c_first (p_code u16)) (p_flags u16) (fun r19 u18 => (wX3_giveA r19 (1 : Int32) (ps_flags u16 u18) (fun u20 => (P u20)))))))) ∧ (¬ (c_number u1) = (213 : Int32) → (((c_number u1) = (214 : Int32) → (wX0_has (1 : Int32) (p_flags u) (fun r24 u23 => ((r24 = (0 : Int32) → (wX3_shiftAndAdjustCodes_b219  P (0 : Int32) (ps_code (ps_flags u u23) u1))) ∧ (¬ r24 = (0 : Int32) → (wX3_shiftAndAdjustCodes_b219  P (255 : Int32) (ps_code (ps_flags u u23) u1))))))) ∧ (¬ (c_number u1) = (214 : Int32) → (((c_number u1) = (215 : Int32) → (wX4_word (3 : Int32) (p_regs u) (fun r28 u27 => (wX3_a (0 : Int32) (ps_code (ps_regs u u27) u1) (fun r30 u29 => (wX3_segmentFor (3 : Int32) u29 (fun r32 u31 => (wX2_load r32 (r28 + r30) (0 : Int32) (p_mem u31) (fun r34 u33 => (wX3_giveA r34 (0 : Int32) (ps_mem u31 u33) (fun u35 => (P u35)))))))))))) ∧ (¬ (c_number u1) = (215 : Int32) → (P (ps_code u u1))))))))))))))))))))
set_option maxHeartbeats 4000000 in
set_option maxRecDepth 100000 in
theorem kcX3_shiftAndAdjustCodes (l : Launch) (D : va_G) (cB cI : ClassId) (q0 q1 q2 q3 q4 q5 q6 q7 q8 q9 : Nat) (sz : Nat)  (u : SP) (P : SP → Prop) (hw : wX3_shiftAndAdjustCodes  u P) : Met l yX3_shiftAndAdjustCodes wsX3_shiftAndAdjustCodes ({ frames := 4, cells := 0, slots := 0, locals := 99 } : Room) (va_Pc [.ref q0] (Pcw D (tyA cB cI) (WP cB cI q0 q1 q2 q3 q4 q5 q6 q7 q8 q9 u) sz Tru)) (va_Qv P (fun u t => va_P D vwCl (WP cB cI q0 q1 q2 q3 q4 q5 q6 q7 q8 q9 u) t.heap) (va_A (WP cB cI q0 q1 q2 q3 q4 q5 q6 q7 q8 q9 u) sz)) 0 0 (va_A (WP cB cI q0 q1 q2 q3 q4 q5 q6 q7 q8 q9 u) sz) := by
  refine en_ (cc := cX3_shiftAndAdjustCodes) (maxL := 3) (ret := none) (own := RX3) (lv := [(0, .ref q0)]) (Qf := fun A => va_Qv P (fun u t => va_P D vwCl (WP cB cI q0 q1 q2 q3 q4 q5 q6 q7 q8 q9 u) t.heap) A) (by decide) rfl rfl (Nat.le_of_ble_eq_true rfl) rfl ?_
  intro p e s m below meth c A ls S hr hlk hname hsz hP hK hD hA hSub hS hE hl
  have hx := S.1
  have hb := S.2.1
  have hown := S.2.2.2.1
  have hts := S.2.2.2.2
  have i_X1 : ∀ w ∈ u_ws RX1 TX1 12, w ∈ wsX3_shiftAndAdjustCodes := by decide +kernel
  have i_X3 : ∀ w ∈ u_ws RX3 TX3 8, w ∈ wsX3_shiftAndAdjustCodes := by decide +kernel
  have f_12 := hts (.fieldLink RX3 12 "MachineCore$Processor" "memory" "LMachineCore$Memory;") (by decide +kernel)
  have f_21 := hts (.fieldLink RX3 21 "MachineCore$Processor" "registers" "LMachineCore$Registers;") (by decide +kernel)
  have f_28 := hts (.fieldLink RX3 28 "MachineCore$Processor" "arithmetic" "LMachineCore$Arithmetic;") (by decide +kernel)
  have f_35 := hts (.fieldLink RX3 35 "MachineCore$Processor" "code" "LMachineCore$Code;") (by decide +kernel)
  have f_43 := hts (.fieldLink RX3 43 "MachineCore$Processor" "called" "I") (by decide +kernel)
  have f_47 := hts (.fieldLink RX3 47 "MachineCore$Code" "number" "I") (by decide +kernel)
  have f_83 := hts (.fieldLink RX3 83 "MachineCore$Code" "first" "I") (by decide +kernel)
  have f_191 := hts (.fieldLink RX3 191 "MachineCore$Code" "r" "I") (by decide +kernel)
  have b219 : ∀ (s1 : Int32) (u : SP) (H : Heap) (locs : List Loc) (ls : Array Slot), va_P D vwCl (WP cB cI q0 q1 q2 q3 q4 q5 q6 q7 q8 q9 u) H → va_D A (WP cB cI q0 q1 q2 q3 q4 q5 q6 q7 q8 q9 u) → va_S A s.heap H locs → lv_has ls 3 [] → wX3_shiftAndAdjustCodes_b219  P s1 u → W p l e ({ frames := 4, cells := 0, slots := 0, locals := 99 } : Room) s m ([.ref q0] : List Value).toArray below meth c H locs 0 0 (MQ below (va_Qv P (fun u t => va_P D vwCl (WP cB cI q0 q1 q2 q3 q4 q5 q6 q7 q8 q9 u) t.heap) A) ([.ref q0] : List Value).toArray s 0 0 A) (F0 m 219 ls [.int s1, .ref q0]) := by
    intro s1 u H locs ls hP hD hS hl hw
    unfold wX3_shiftAndAdjustCodes_b219 at hw
    refine lv_iconst (v := (0 : Int32)) hx hb dX3_shiftAndAdjustCodes_219 (by decide) ?_
    refine cl_Vv (As := [.int s1, .int (0 : Int32)]) (rest := []) (st := [.int (0 : Int32), .int s1, .ref q0]) S hK hA hP hD hS (fr_P u) (kcX3_giveA l D cB cI q0 q1 q2 q3 q4 q5 q6 q7 q8 q9 H.size s1 (0 : Int32) u _ hw) (cwV 2 hts gX3_shiftAndAdjustCodes_X3_giveA rfl rfl rfl (by decide +kernel) ⟨Nat.le_of_ble_eq_true rfl, Nat.le_of_ble_eq_true rfl⟩) tru_h tru_b 0 rfl rfl rfl rfl rfl hl.1 (Nat.le_of_ble_eq_true rfl) dX3_shiftAndAdjustCodes_220 ⟨Nat.zero_le _, Nat.zero_le _⟩ (fun u51 H locs hP hD hS hw => ?_)
    replace hP : va_P D vwCl (WP cB cI q0 q1 q2 q3 q4 q5 q6 q7 q8 q9 u51) H := hP
    replace hD : va_D A (WP cB cI q0 q1 q2 q3 q4 q5 q6 q7 q8 q9 u51) := hD
    refine lv_goto (tgt := 263) hx hb dX3_shiftAndAdjustCodes_223 (by decide) ?_
    exact rt_v (wo := (fun v => WP cB cI q0 q1 q2 q3 q4 q5 q6 q7 q8 q9 v)) S hr hlk u51 hP hS hw dX3_shiftAndAdjustCodes_263
  have b89 : ∀ (x1 : Int32) (u : SP) (H : Heap) (locs : List Loc) (ls : Array Slot), va_P D vwCl (WP cB cI q0 q1 q2 q3 q4 q5 q6 q7 q8 q9 u) H → va_D A (WP cB cI q0 q1 q2 q3 q4 q5 q6 q7 q8 q9 u) → va_S A s.heap H locs → lv_has ls 3 [(0, .ref q0), (1, .int x1)] → wX3_shiftAndAdjustCodes_b89  P x1 u → W p l e ({ frames := 4, cells := 0, slots := 0, locals := 99 } : Room) s m ([.ref q0] : List Value).toArray below meth c H locs 0 0 (MQ below (va_Qv P (fun u t => va_P D vwCl (WP cB cI q0 q1 q2 q3 q4 q5 q6 q7 q8 q9 u) t.heap) A) ([.ref q0] : List Value).toArray s 0 0 A) (F0 m 89 ls []) := by
    intro x1 u H locs ls hP hD hS hl hw
    unfold wX3_shiftAndAdjustCodes_b89 at hw
    refine lv_aload_n hx hb dX3_shiftAndAdjustCodes_89 rfl (lv_at hl 0 rfl) ?_
    refine lv_aload_n hx hb dX3_shiftAndAdjustCodes_90 rfl (lv_at hl 0 rfl) ?_
    refine va_get (D := D) (ci := 3) (v := .ref q7) (C := RX3) (T := TX3) (N := 8) hx hb hts i_X3 hown hK hP 0 rfl rfl 2 (by decide) f_28 (fun _ h9 => h9) rfl dX3_shiftAndAdjustCodes_91 ?_
    refine lv_aload_n hx hb dX3_shiftAndAdjustCodes_94 rfl (lv_at hl 0 rfl) ?_
    refine va_get (D := D) (ci := 3) (v := .ref q8) (C := RX3) (T := TX3) (N := 8) hx hb hts i_X3 hown hK hP 0 rfl rfl 3 (by decide) f_35 (fun _ h9 => h9) rfl dX3_shiftAndAdjustCodes_95 ?_
    refine va_get (D := D) (ci := 1) (v := .int (c_r (p_code u))) (C := RX1) (T := TX1) (N := 12) hx hb hts i_X1 hown hK hP 8 rfl rfl 5 (by decide) f_191 (fun _ h9 => h9) rfl dX3_shiftAndAdjustCodes_98 ?_
    refine lv_aload_n hx hb dX3_shiftAndAdjustCodes_101 rfl (lv_at hl 0 rfl) ?_
    refine lv_iload_n hx hb dX3_shiftAndAdjustCodes_102 rfl (lv_at hl 1 rfl) ?_
    refine cl_Vi (As := [.int x1]) (rest := [.int (c_r (p_code u)), .ref q7, .ref q0]) (st := [.int x1, .ref q0, .int (c_r (p_code u)), .ref q7, .ref q0]) S hK hA hP hD hS (fr_P u) (kcX3_e l D cB cI q0 q1 q2 q3 q4 q5 q6 q7 q8 q9 H.size x1 u _ hw) (cwV 1 hts gX3_shiftAndAdjustCodes_X3_e rfl rfl rfl (by decide +kernel) ⟨Nat.le_of_ble_eq_true rfl, Nat.le_of_ble_eq_true rfl⟩) tru_h tru_b 0 rfl rfl rfl rfl rfl hl.1 (Nat.le_of_ble_eq_true rfl) dX3_shiftAndAdjustCodes_103 ⟨Nat.zero_le _, Nat.zero_le _⟩ (fun r44 u43 H locs hP hD hS hw => ?_)
    replace hP : va_P D vwCl (WP cB cI q0 q1 q2 q3 q4 q5 q6 q7 q8 q9 u43) H := hP
    replace hD : va_D A (WP cB cI q0 q1 q2 q3 q4 q5 q6 q7 q8 q9 u43) := hD
    refine lv_aload_n hx hb dX3_shiftAndAdjustCodes_106 rfl (lv_at hl 0 rfl) ?_
    refine va_get (D := D) (ci := 3) (v := .ref q4) (C := RX3) (T := TX3) (N := 8) hx hb hts i_X3 hown hK hP 0 rfl rfl 1 (by decide) f_21 (fun _ h9 => h9) rfl dX3_shiftAndAdjustCodes_107 ?_
    refine lv_iconst (v := (1 : Int32)) hx hb dX3_shiftAndAdjustCodes_110 (by decide) ?_
    refine lv_iconst (v := (0 : Int32)) hx hb dX3_shiftAndAdjustCodes_111 (by decide) ?_
    refine cl_Vi (As := [.int (1 : Int32), .int (0 : Int32)]) (rest := [.int r44, .int (c_r (p_code u)), .ref q7, .ref q0]) (st := [.int (0 : Int32), .int (1 : Int32), .ref q4, .int r44, .int (c_r (p_code u)), .ref q7, .ref q0]) S hK hA hP hD hS (fr_P_R u43) (kcX4_value l D cB cI q4 q5 q6 H.size (1 : Int32) (0 : Int32) (p_regs u43) _ hw) (cwV 2 hts gX3_shiftAndAdjustCodes_X4_value rfl rfl rfl (by decide +kernel) ⟨Nat.le_of_ble_eq_true rfl, Nat.le_of_ble_eq_true rfl⟩) tru_h tru_b 4 rfl rfl rfl rfl rfl hl.1 (Nat.le_of_ble_eq_true rfl) dX3_shiftAndAdjustCodes_112 ⟨Nat.zero_le _, Nat.zero_le _⟩ (fun r46 u45 H locs hP hD hS hw => ?_)
    replace hP : va_P D vwCl (WP cB cI q0 q1 q2 q3 q4 q5 q6 q7 q8 q9 (ps_regs u43 u45)) H := hP
    replace hD : va_D A (WP cB cI q0 q1 q2 q3 q4 q5 q6 q7 q8 q9 (ps_regs u43 u45)) := hD
    refine lv_iload_n hx hb dX3_shiftAndAdjustCodes_115 rfl (lv_at hl 1 rfl) ?_
    refine cl_Vi (As := [.int (c_r (p_code u)), .int r44, .int r46, .int x1]) (rest := [.ref q0]) (st := [.int x1, .int r46, .int r44, .int (c_r (p_code u)), .ref q7, .ref q0]) S hK hA hP hD hS (fr_P_A (ps_regs u43 u45)) (kcX0_shift l D cB cI q7 H.size (c_r (p_code u)) r44 r46 x1 (p_flags u43) _ hw) (cwV 4 hts gX3_shiftAndAdjustCodes_X0_shift rfl rfl rfl (by decide +kernel) ⟨Nat.le_of_ble_eq_true rfl, Nat.le_of_ble_eq_true rfl⟩) tru_h tru_b 7 rfl rfl rfl rfl rfl hl.1 (Nat.le_of_ble_eq_true rfl) dX3_shiftAndAdjustCodes_116 ⟨Nat.zero_le _, Nat.zero_le _⟩ (fun r48 u47 H locs hP hD hS hw => ?_)
    replace hP : va_P D vwCl (WP cB cI q0 q1 q2 q3 q4 q5 q6 q7 q8 q9 (ps_flags (ps_regs u43 u45) u47)) H := hP
    replace hD : va_D A (WP cB cI q0 q1 q2 q3 q4 q5 q6 q7 q8 q9 (ps_flags (ps_regs u43 u45) u47)) := hD
    refine lv_iload_n hx hb dX3_shiftAndAdjustCodes_119 rfl (lv_at hl 1 rfl) ?_
    refine cl_Vv (As := [.int r48, .int x1]) (rest := []) (st := [.int x1, .int r48, .ref q0]) S hK hA hP hD hS (fr_P (ps_flags (ps_regs u43 u45) u47)) (kcX3_giveE l D cB cI q0 q1 q2 q3 q4 q5 q6 q7 q8 q9 H.size r48 x1 (ps_flags (ps_regs u43 u45) u47) _ hw) (cwV 2 hts gX3_shiftAndAdjustCodes_X3_giveE rfl rfl rfl (by decide +kernel) ⟨Nat.le_of_ble_eq_true rfl, Nat.le_of_ble_eq_true rfl⟩) tru_h tru_b 0 rfl rfl rfl rfl rfl hl.1 (Nat.le_of_ble_eq_true rfl) dX3_shiftAndAdjustCodes_120 ⟨Nat.zero_le _, Nat.zero_le _⟩ (fun u49 H locs hP hD hS hw => ?_)
    replace hP : va_P D vwCl (WP cB cI q0 q1 q2 q3 q4 q5 q6 q7 q8 q9 u49) H := hP
    replace hD : va_D A (WP cB cI q0 q1 q2 q3 q4 q5 q6 q7 q8 q9 u49) := hD
    refine lv_goto (tgt := 263) hx hb dX3_shiftAndAdjustCodes_123 (by decide) ?_
    exact rt_v (wo := (fun v => WP cB cI q0 q1 q2 q3 q4 q5 q6 q7 q8 q9 v)) S hr hlk u49 hP hS hw dX3_shiftAndAdjustCodes_263
  have b60 : ∀ (x1 : Int32) (u : SP) (H : Heap) (locs : List Loc) (ls : Array Slot), va_P D vwCl (WP cB cI q0 q1 q2 q3 q4 q5 q6 q7 q8 q9 u) H → va_D A (WP cB cI q0 q1 q2 q3 q4 q5 q6 q7 q8 q9 u) → va_S A s.heap H locs → lv_has ls 3 [(0, .ref q0), (1, .int x1)] → wX3_shiftAndAdjustCodes_b60  P x1 u → W p l e ({ frames := 4, cells := 0, slots := 0, locals := 99 } : Room) s m ([.ref q0] : List Value).toArray below meth c H locs 0 0 (MQ below (va_Qv P (fun u t => va_P D vwCl (WP cB cI q0 q1 q2 q3 q4 q5 q6 q7 q8 q9 u) t.heap) A) ([.ref q0] : List Value).toArray s 0 0 A) (F0 m 60 ls []) := by
    intro x1 u H locs ls hP hD hS hl hw
    unfold wX3_shiftAndAdjustCodes_b60 at hw
    refine lv_aload_n hx hb dX3_shiftAndAdjustCodes_60 rfl (lv_at hl 0 rfl) ?_
    refine lv_aload_n hx hb dX3_shiftAndAdjustCodes_61 rfl (lv_at hl 0 rfl) ?_
    refine va_get (D := D) (ci := 3) (v := .ref q7) (C := RX3) (T := TX3) (N := 8) hx hb hts i_X3 hown hK hP 0 rfl rfl 2 (by decide) f_28 (fun _ h9 => h9) rfl dX3_shiftAndAdjustCodes_62 ?_
    refine lv_aload_n hx hb dX3_shiftAndAdjustCodes_65 rfl (lv_at hl 0 rfl) ?_
    refine va_get (D := D) (ci := 3) (v := .ref q8) (C := RX3) (T := TX3) (N := 8) hx hb hts i_X3 hown hK hP 0 rfl rfl 3 (by decide) f_35 (fun _ h9 => h9) rfl dX3_shiftAndAdjustCodes_66 ?_
    refine va_get (D := D) (ci := 1) (v := .int (c_r (p_code u))) (C := RX1) (T := TX1) (N := 12) hx hb hts i_X1 hown hK hP 8 rfl rfl 5 (by decide) f_191 (fun _ h9 => h9) rfl dX3_shiftAndAdjustCodes_69 ?_
    refine lv_aload_n hx hb dX3_shiftAndAdjustCodes_72 rfl (lv_at hl 0 rfl) ?_
    refine lv_iload_n hx hb dX3_shiftAndAdjustCodes_73 rfl (lv_at hl 1 rfl) ?_
    refine cl_Vi (As := [.int x1]) (rest := [.int (c_r (p_code u)), .ref q7, .ref q0]) (st := [.int x1, .ref q0, .int (c_r (p_code u)), .ref q7, .ref q0]) S hK hA hP hD hS (fr_P u) (kcX3_e l D cB cI q0 q1 q2 q3 q4 q5 q6 q7 q8 q9 H.size x1 u _ hw) (cwV 1 hts gX3_shiftAndAdjustCodes_X3_e rfl rfl rfl (by decide +kernel) ⟨Nat.le_of_ble_eq_true rfl, Nat.le_of_ble_eq_true rfl⟩) tru_h tru_b 0 rfl rfl rfl rfl rfl hl.1 (Nat.le_of_ble_eq_true rfl) dX3_shiftAndAdjustCodes_74 ⟨Nat.zero_le _, Nat.zero_le _⟩ (fun r38 u37 H locs hP hD hS hw => ?_)
    replace hP : va_P D vwCl (WP cB cI q0 q1 q2 q3 q4 q5 q6 q7 q8 q9 u37) H := hP
    replace hD : va_D A (WP cB cI q0 q1 q2 q3 q4 q5 q6 q7 q8 q9 u37) := hD
    refine lv_iconst (v := (1 : Int32)) hx hb dX3_shiftAndAdjustCodes_77 (by decide) ?_
    refine lv_iload_n hx hb dX3_shiftAndAdjustCodes_78 rfl (lv_at hl 1 rfl) ?_
    refine cl_Vi (As := [.int (c_r (p_code u)), .int r38, .int (1 : Int32), .int x1]) (rest := [.ref q0]) (st := [.int x1, .int (1 : Int32), .int r38, .int (c_r (p_code u)), .ref q7, .ref q0]) S hK hA hP hD hS (fr_P_A u37) (kcX0_shift l D cB cI q7 H.size (c_r (p_code u)) r38 (1 : Int32) x1 (p_flags u37) _ hw) (cwV 4 hts gX3_shiftAndAdjustCodes_X0_shift rfl rfl rfl (by decide +kernel) ⟨Nat.le_of_ble_eq_true rfl, Nat.le_of_ble_eq_true rfl⟩) tru_h tru_b 7 rfl rfl rfl rfl rfl hl.1 (Nat.le_of_ble_eq_true rfl) dX3_shiftAndAdjustCodes_79 ⟨Nat.zero_le _, Nat.zero_le _⟩ (fun r40 u39 H locs hP hD hS hw => ?_)
    replace hP : va_P D vwCl (WP cB cI q0 q1 q2 q3 q4 q5 q6 q7 q8 q9 (ps_flags u37 u39)) H := hP
    replace hD : va_D A (WP cB cI q0 q1 q2 q3 q4 q5 q6 q7 q8 q9 (ps_flags u37 u39)) := hD
    refine lv_iload_n hx hb dX3_shiftAndAdjustCodes_82 rfl (lv_at hl 1 rfl) ?_
    refine cl_Vv (As := [.int r40, .int x1]) (rest := []) (st := [.int x1, .int r40, .ref q0]) S hK hA hP hD hS (fr_P (ps_flags u37 u39)) (kcX3_giveE l D cB cI q0 q1 q2 q3 q4 q5 q6 q7 q8 q9 H.size r40 x1 (ps_flags u37 u39) _ hw) (cwV 2 hts gX3_shiftAndAdjustCodes_X3_giveE rfl rfl rfl (by decide +kernel) ⟨Nat.le_of_ble_eq_true rfl, Nat.le_of_ble_eq_true rfl⟩) tru_h tru_b 0 rfl rfl rfl rfl rfl hl.1 (Nat.le_of_ble_eq_true rfl) dX3_shiftAndAdjustCodes_83 ⟨Nat.zero_le _, Nat.zero_le _⟩ (fun u41 H locs hP hD hS hw => ?_)
    replace hP : va_P D vwCl (WP cB cI q0 q1 q2 q3 q4 q5 q6 q7 q8 q9 u41) H := hP
    replace hD : va_D A (WP cB cI q0 q1 q2 q3 q4 q5 q6 q7 q8 q9 u41) := hD
    refine lv_goto (tgt := 263) hx hb dX3_shiftAndAdjustCodes_86 (by decide) ?_
    exact rt_v (wo := (fun v => WP cB cI q0 q1 q2 q3 q4 q5 q6 q7 q8 q9 v)) S hr hlk u41 hP hS hw dX3_shiftAndAdjustCodes_263
  unfold wX3_shiftAndAdjustCodes at hw
  obtain ⟨H, eH⟩ : ∃ H, H = s.heap := ⟨_, rfl⟩
  obtain ⟨locs, eL⟩ : ∃ locs : List Loc, locs = [] := ⟨_, rfl⟩
  replace hP : va_P D vwCl (WP cB cI q0 q1 q2 q3 q4 q5 q6 q7 q8 q9 u) H := by rw [eH]; exact hP
  replace hS : va_S A s.heap H locs := by rw [eH, eL]; exact hS
  suffices hgo : W p l e ({ frames := 4, cells := 0, slots := 0, locals := 99 } : Room) s m ([.ref q0] : List Value).toArray below meth c H locs 0 0 (MQ below (va_Qv P (fun u t => va_P D vwCl (WP cB cI q0 q1 q2 q3 q4 q5 q6 q7 q8 q9 u) t.heap) A) ([.ref q0] : List Value).toArray s 0 0 A) (F0 m 0 ls []) by rw [eH, eL] at hgo; exact hgo
  clear eH eL
  refine lv_aload_n hx hb dX3_shiftAndAdjustCodes_0 rfl (lv_at hl 0 rfl) ?_
  refine va_get (D := D) (ci := 3) (v := .ref q8) (C := RX3) (T := TX3) (N := 8) hx hb hts i_X3 hown hK hP 0 rfl rfl 3 (by decide) f_35 (fun _ h9 => h9) rfl dX3_shiftAndAdjustCodes_1 ?_
  refine cl_Vi (As := []) (rest := []) (st := [.ref q8]) S hK hA hP hD hS (fr_P_C u) (kcX1_wide l D cB cI q8 H.size  (p_code u) _ hw) (cwV 0 hts gX3_shiftAndAdjustCodes_X1_wide rfl rfl rfl (by decide +kernel) ⟨Nat.le_of_ble_eq_true rfl, Nat.le_of_ble_eq_true rfl⟩) tru_h tru_b 8 rfl rfl rfl rfl rfl hl.1 (Nat.le_of_ble_eq_true rfl) dX3_shiftAndAdjustCodes_4 ⟨Nat.zero_le _, Nat.zero_le _⟩ (fun r2 u1 H locs hP hD hS hw => ?_)
  replace hP : va_P D vwCl (WP cB cI q0 q1 q2 q3 q4 q5 q6 q7 q8 q9 (ps_code u u1)) H := hP
  replace hD : va_D A (WP cB cI q0 q1 q2 q3 q4 q5 q6 q7 q8 q9 (ps_code u u1)) := hD
  refine lv_istore_n (lv' := [(1, .int r2), (0, .ref q0)]) hx hb dX3_shiftAndAdjustCodes_7 rfl hl (by decide) rfl (fun ls hl => ?_)
  refine lv_aload_n hx hb dX3_shiftAndAdjustCodes_8 rfl (lv_at hl 1 rfl) ?_
  refine va_get (D := D) (ci := 3) (v := .ref q8) (C := RX3) (T := TX3) (N := 8) hx hb hts i_X3 hown hK hP 0 rfl rfl 3 (by decide) f_35 (fun _ h9 => h9) rfl dX3_shiftAndAdjustCodes_9 ?_
  refine va_get (D := D) (ci := 1) (v := .int (c_number u1)) (C := RX1) (T := TX1) (N := 12) hx hb hts i_X1 hown hK hP 8 rfl rfl 1 (by decide) f_47 (fun _ h9 => h9) rfl dX3_shiftAndAdjustCodes_12 ?_
  by_cases c3 : (c_number u1) = (208 : Int32)
  · replace hw := hw.1 c3
    refine lv_tableIn (off := 45) (tgt := 60) hx hb dX3_shiftAndAdjustCodes_15 (by rw [c3]; decide) (by rw [c3]; decide) (by rw [c3]; rfl) (by decide) ?_
    exact b60 r2 (ps_code u u1) H locs ls hP hD hS (lv_sub hl [1, 0] rfl) hw
  replace hw := hw.2 c3
  by_cases c4 : (c_number u1) = (209 : Int32)
  · replace hw := hw.1 c4
    refine lv_tableIn (off := 45) (tgt := 60) hx hb dX3_shiftAndAdjustCodes_15 (by rw [c4]; decide) (by rw [c4]; decide) (by rw [c4]; rfl) (by decide) ?_
    exact b60 r2 (ps_code u u1) H locs ls hP hD hS (lv_sub hl [1, 0] rfl) hw
  replace hw := hw.2 c4
  by_cases c5 : (c_number u1) = (210 : Int32)
  · replace hw := hw.1 c5
    refine lv_tableIn (off := 74) (tgt := 89) hx hb dX3_shiftAndAdjustCodes_15 (by rw [c5]; decide) (by rw [c5]; decide) (by rw [c5]; rfl) (by decide) ?_
    exact b89 r2 (ps_code u u1) H locs ls hP hD hS (lv_sub hl [1, 0] rfl) hw
  replace hw := hw.2 c5
  by_cases c6 : (c_number u1) = (211 : Int32)
  · replace hw := hw.1 c6
    refine lv_tableIn (off := 74) (tgt := 89) hx hb dX3_shiftAndAdjustCodes_15 (by rw [c6]; decide) (by rw [c6]; decide) (by rw [c6]; rfl) (by decide) ?_
    exact b89 r2 (ps_code u u1) H locs ls hP hD hS (lv_sub hl [1, 0] rfl) hw
  replace hw := hw.2 c6
  by_cases c7 : (c_number u1) = (212 : Int32)
  · replace hw := hw.1 c7
    refine lv_tableIn (off := 111) (tgt := 126) hx hb dX3_shiftAndAdjustCodes_15 (by rw [c7]; decide) (by rw [c7]; decide) (by rw [c7]; rfl) (by decide) ?_
    refine lv_aload_n hx hb dX3_shiftAndAdjustCodes_126 rfl (lv_at hl 1 rfl) ?_
    refine va_get (D := D) (ci := 3) (v := .ref q8) (C := RX3) (T := TX3) (N := 8) hx hb hts i_X3 hown hK hP 0 rfl rfl 3 (by decide) f_35 (fun _ h9 => h9) rfl dX3_shiftAndAdjustCodes_127 ?_
    refine va_get (D := D) (ci := 1) (v := .int (c_first u1)) (C := RX1) (T := TX1) (N := 12) hx hb hts i_X1 hown hK hP 8 rfl rfl 9 (by decide) f_83 (fun _ h9 => h9) rfl dX3_shiftAndAdjustCodes_130 ?_
    refine lv_if_ne (tgt := 144) hx hb dX3_shiftAndAdjustCodes_133 (by decide) (fun c8 => ?_) (fun c8 => ?_)
    · replace hw := hw.2 c8
      refine lv_aload_n hx hb dX3_shiftAndAdjustCodes_144 rfl (lv_at hl 1 rfl) ?_
      refine lv_aload_n hx hb dX3_shiftAndAdjustCodes_145 rfl (lv_at hl 1 rfl) ?_
      refine va_get (D := D) (ci := 3) (v := .ref q7) (C := RX3) (T := TX3) (N := 8) hx hb hts i_X3 hown hK hP 0 rfl rfl 2 (by decide) f_28 (fun _ h9 => h9) rfl dX3_shiftAndAdjustCodes_146 ?_
      refine lv_iconst (v := (4 : Int32)) hx hb dX3_shiftAndAdjustCodes_149 (by decide) ?_
      refine lv_aload_n hx hb dX3_shiftAndAdjustCodes_150 rfl (lv_at hl 1 rfl) ?_
      refine lv_iconst (v := (1 : Int32)) hx hb dX3_shiftAndAdjustCodes_151 (by decide) ?_
      refine cl_Vi (As := [.int (1 : Int32)]) (rest := [.int (4 : Int32), .ref q7, .ref q0]) (st := [.int (1 : Int32), .ref q0, .int (4 : Int32), .ref q7, .ref q0]) S hK hA hP hD hS (fr_P (ps_code u u1)) (kcX3_a l D cB cI q0 q1 q2 q3 q4 q5 q6 q7 q8 q9 H.size (1 : Int32) (ps_code u u1) _ hw) (cwV 1 hts gX3_shiftAndAdjustCodes_X3_a rfl rfl rfl (by decide +kernel) ⟨Nat.le_of_ble_eq_true rfl, Nat.le_of_ble_eq_true rfl⟩) tru_h tru_b 0 rfl rfl rfl rfl rfl hl.1 (Nat.le_of_ble_eq_true rfl) dX3_shiftAndAdjustCodes_152 ⟨Nat.zero_le _, Nat.zero_le _⟩ (fun r10 u9 H locs hP hD hS hw => ?_)
      replace hP : va_P D vwCl (WP cB cI q0 q1 q2 q3 q4 q5 q6 q7 q8 q9 u9) H := hP
      replace hD : va_D A (WP cB cI q0 q1 q2 q3 q4 q5 q6 q7 q8 q9 u9) := hD
      refine lv_aload_n hx hb dX3_shiftAndAdjustCodes_155 rfl (lv_at hl 1 rfl) ?_
      refine va_get (D := D) (ci := 3) (v := .ref q8) (C := RX3) (T := TX3) (N := 8) hx hb hts i_X3 hown hK hP 0 rfl rfl 3 (by decide) f_35 (fun _ h9 => h9) rfl dX3_shiftAndAdjustCodes_156 ?_
      refine va_get (D := D) (ci := 1) (v := .int (c_first (p_code u9))) (C := RX1) (T := TX1) (N := 12) hx hb hts i_X1 hown hK hP 8 rfl rfl 9 (by decide) f_83 (fun _ h9 => h9) rfl dX3_shiftAndAdjustCodes_159 ?_
      refine cl_Vi (As := [.int (4 : Int32), .int r10, .int (c_first (p_code u9))]) (rest := [.ref q0]) (st := [.int (c_first (p_code u9)), .int r10, .int (4 : Int32), .ref q7, .ref q0]) S hK hA hP hD hS (fr_P_A u9) (kcX0_adjustment l D cB cI q7 H.size (4 : Int32) r10 (c_first (p_code u9)) (p_flags u9) _ hw) (cwV 3 hts gX3_shiftAndAdjustCodes_X0_adjustment rfl rfl rfl (by decide +kernel) ⟨Nat.le_of_ble_eq_true rfl, Nat.le_of_ble_eq_true rfl⟩) tru_h tru_b 7 rfl rfl rfl rfl rfl hl.1 (Nat.le_of_ble_eq_true rfl) dX3_shiftAndAdjustCodes_162 ⟨Nat.zero_le _, Nat.zero_le _⟩ (fun r12 u11 H locs hP hD hS hw => ?_)
      replace hP : va_P D vwCl (WP cB cI q0 q1 q2 q3 q4 q5 q6 q7 q8 q9 (ps_flags u9 u11)) H := hP
      replace hD : va_D A (WP cB cI q0 q1 q2 q3 q4 q5 q6 q7 q8 q9 (ps_flags u9 u11)) := hD
      refine lv_iconst (v := (1 : Int32)) hx hb dX3_shiftAndAdjustCodes_165 (by decide) ?_
      refine cl_Vv (As := [.int r12, .int (1 : Int32)]) (rest := []) (st := [.int (1 : Int32), .int r12, .ref q0]) S hK hA hP hD hS (fr_P (ps_flags u9 u11)) (kcX3_giveA l D cB cI q0 q1 q2 q3 q4 q5 q6 q7 q8 q9 H.size r12 (1 : Int32) (ps_flags u9 u11) _ hw) (cwV 2 hts gX3_shiftAndAdjustCodes_X3_giveA rfl rfl rfl (by decide +kernel) ⟨Nat.le_of_ble_eq_true rfl, Nat.le_of_ble_eq_true rfl⟩) tru_h tru_b 0 rfl rfl rfl rfl rfl hl.1 (Nat.le_of_ble_eq_true rfl) dX3_shiftAndAdjustCodes_166 ⟨Nat.zero_le _, Nat.zero_le _⟩ (fun u13 H locs hP hD hS hw => ?_)
      replace hP : va_P D vwCl (WP cB cI q0 q1 q2 q3 q4 q5 q6 q7 q8 q9 u13) H := hP
      replace hD : va_D A (WP cB cI q0 q1 q2 q3 q4 q5 q6 q7 q8 q9 u13) := hD
      refine lv_goto (tgt := 263) hx hb dX3_shiftAndAdjustCodes_169 (by decide) ?_
      exact rt_v (wo := (fun v => WP cB cI q0 q1 q2 q3 q4 q5 q6 q7 q8 q9 v)) S hr hlk u13 hP hS hw dX3_shiftAndAdjustCodes_263
    · replace hw := hw.1 c8
      refine lv_aload_n hx hb dX3_shiftAndAdjustCodes_136 rfl (lv_at hl 1 rfl) ?_
      refine lv_iconst (v := (0 : Int32)) hx hb dX3_shiftAndAdjustCodes_137 (by decide) ?_
      refine va_put (D := D) (ci := 3) (v := .int (0 : Int32)) (ty := .int) (C := RX3) (T := TX3) (N := 8) hx hb hts i_X3 tyX3 tyX3_ok nmX3 hown hK hP hD hS 0 rfl rfl 7 (by decide) f_43 (fun _ h9 => h9) rfl (by decide +kernel) rfl rfl (Nat.le_of_ble_eq_true rfl) dX3_shiftAndAdjustCodes_138 (fun H locs hP hD hS => ?_)
      replace hP : va_P D vwCl (WP cB cI q0 q1 q2 q3 q4 q5 q6 q7 q8 q9 (ps_code (ps_called u (0 : Int32)) u1)) H := hP
      replace hD : va_D A (WP cB cI q0 q1 q2 q3 q4 q5 q6 q7 q8 q9 (ps_code (ps_called u (0 : Int32)) u1)) := hD
      refine lv_goto (tgt := 263) hx hb dX3_shiftAndAdjustCodes_141 (by decide) ?_
      exact rt_v (wo := (fun v => WP cB cI q0 q1 q2 q3 q4 q5 q6 q7 q8 q9 v)) S hr hlk (ps_code (ps_called u (0 : Int32)) u1) hP hS hw dX3_shiftAndAdjustCodes_263
  replace hw := hw.2 c7
  by_cases c15 : (c_number u1) = (213 : Int32)
  · replace hw := hw.1 c15
    refine lv_tableIn (off := 157) (tgt := 172) hx hb dX3_shiftAndAdjustCodes_15 (by rw [c15]; decide) (by rw [c15]; decide) (by rw [c15]; rfl) (by decide) ?_
    refine lv_aload_n hx hb dX3_shiftAndAdjustCodes_172 rfl (lv_at hl 1 rfl) ?_
    refine lv_aload_n hx hb dX3_shiftAndAdjustCodes_173 rfl (lv_at hl 1 rfl) ?_
    refine va_get (D := D) (ci := 3) (v := .ref q7) (C := RX3) (T := TX3) (N := 8) hx hb hts i_X3 hown hK hP 0 rfl rfl 2 (by decide) f_28 (fun _ h9 => h9) rfl dX3_shiftAndAdjustCodes_174 ?_
    refine lv_iconst (v := (5 : Int32)) hx hb dX3_shiftAndAdjustCodes_177 (by decide) ?_
    refine lv_aload_n hx hb dX3_shiftAndAdjustCodes_178 rfl (lv_at hl 1 rfl) ?_
    refine lv_iconst (v := (1 : Int32)) hx hb dX3_shiftAndAdjustCodes_179 (by decide) ?_
    refine cl_Vi (As := [.int (1 : Int32)]) (rest := [.int (5 : Int32), .ref q7, .ref q0]) (st := [.int (1 : Int32), .ref q0, .int (5 : Int32), .ref q7, .ref q0]) S hK hA hP hD hS (fr_P (ps_code u u1)) (kcX3_a l D cB cI q0 q1 q2 q3 q4 q5 q6 q7 q8 q9 H.size (1 : Int32) (ps_code u u1) _ hw) (cwV 1 hts gX3_shiftAndAdjustCodes_X3_a rfl rfl rfl (by decide +kernel) ⟨Nat.le_of_ble_eq_true rfl, Nat.le_of_ble_eq_true rfl⟩) tru_h tru_b 0 rfl rfl rfl rfl rfl hl.1 (Nat.le_of_ble_eq_true rfl) dX3_shiftAndAdjustCodes_180 ⟨Nat.zero_le _, Nat.zero_le _⟩ (fun r17 u16 H locs hP hD hS hw => ?_)
    replace hP : va_P D vwCl (WP cB cI q0 q1 q2 q3 q4 q5 q6 q7 q8 q9 u16) H := hP
    replace hD : va_D A (WP cB cI q0 q1 q2 q3 q4 q5 q6 q7 q8 q9 u16) := hD
    refine lv_aload_n hx hb dX3_shiftAndAdjustCodes_183 rfl (lv_at hl 1 rfl) ?_
    refine va_get (D := D) (ci := 3) (v := .ref q8) (C := RX3) (T := TX3) (N := 8) hx hb hts i_X3 hown hK hP 0 rfl rfl 3 (by decide) f_35 (fun _ h9 => h9) rfl dX3_shiftAndAdjustCodes_184 ?_
    refine va_get (D := D) (ci := 1) (v := .int (c_first (p_code u16))) (C := RX1) (T := TX1) (N := 12) hx hb hts i_X1 hown hK hP 8 rfl rfl 9 (by decide) f_83 (fun _ h9 => h9) rfl dX3_shiftAndAdjustCodes_187 ?_
    refine cl_Vi (As := [.int (5 : Int32), .int r17, .int (c_first (p_code u16))]) (rest := [.ref q0]) (st := [.int (c_first (p_code u16)), .int r17, .int (5 : Int32), .ref q7, .ref q0]) S hK hA hP hD hS (fr_P_A u16) (kcX0_adjustment l D cB cI q7 H.size (5 : Int32) r17 (c_first (p_code u16)) (p_flags u16) _ hw) (cwV 3 hts gX3_shiftAndAdjustCodes_X0_adjustment rfl rfl rfl (by decide +kernel) ⟨Nat.le_of_ble_eq_true rfl, Nat.le_of_ble_eq_true rfl⟩) tru_h tru_b 7 rfl rfl rfl rfl rfl hl.1 (Nat.le_of_ble_eq_true rfl) dX3_shiftAndAdjustCodes_190 ⟨Nat.zero_le _, Nat.zero_le _⟩ (fun r19 u18 H locs hP hD hS hw => ?_)
    replace hP : va_P D vwCl (WP cB cI q0 q1 q2 q3 q4 q5 q6 q7 q8 q9 (ps_flags u16 u18)) H := hP
    replace hD : va_D A (WP cB cI q0 q1 q2 q3 q4 q5 q6 q7 q8 q9 (ps_flags u16 u18)) := hD
    refine lv_iconst (v := (1 : Int32)) hx hb dX3_shiftAndAdjustCodes_193 (by decide) ?_
    refine cl_Vv (As := [.int r19, .int (1 : Int32)]) (rest := []) (st := [.int (1 : Int32), .int r19, .ref q0]) S hK hA hP hD hS (fr_P (ps_flags u16 u18)) (kcX3_giveA l D cB cI q0 q1 q2 q3 q4 q5 q6 q7 q8 q9 H.size r19 (1 : Int32) (ps_flags u16 u18) _ hw) (cwV 2 hts gX3_shiftAndAdjustCodes_X3_giveA rfl rfl rfl (by decide +kernel) ⟨Nat.le_of_ble_eq_true rfl, Nat.le_of_ble_eq_true rfl⟩) tru_h tru_b 0 rfl rfl rfl rfl rfl hl.1 (Nat.le_of_ble_eq_true rfl) dX3_shiftAndAdjustCodes_194 ⟨Nat.zero_le _, Nat.zero_le _⟩ (fun u20 H locs hP hD hS hw => ?_)
    replace hP : va_P D vwCl (WP cB cI q0 q1 q2 q3 q4 q5 q6 q7 q8 q9 u20) H := hP
    replace hD : va_D A (WP cB cI q0 q1 q2 q3 q4 q5 q6 q7 q8 q9 u20) := hD
    refine lv_goto (tgt := 263) hx hb dX3_shiftAndAdjustCodes_197 (by decide) ?_
    exact rt_v (wo := (fun v => WP cB cI q0 q1 q2 q3 q4 q5 q6 q7 q8 q9 v)) S hr hlk u20 hP hS hw dX3_shiftAndAdjustCodes_263
  replace hw := hw.2 c15
  by_cases c22 : (c_number u1) = (214 : Int32)
  · replace hw := hw.1 c22
    refine lv_tableIn (off := 185) (tgt := 200) hx hb dX3_shiftAndAdjustCodes_15 (by rw [c22]; decide) (by rw [c22]; decide) (by rw [c22]; rfl) (by decide) ?_
    refine lv_aload_n hx hb dX3_shiftAndAdjustCodes_200 rfl (lv_at hl 1 rfl) ?_
    refine lv_aload_n hx hb dX3_shiftAndAdjustCodes_201 rfl (lv_at hl 1 rfl) ?_
    refine va_get (D := D) (ci := 3) (v := .ref q7) (C := RX3) (T := TX3) (N := 8) hx hb hts i_X3 hown hK hP 0 rfl rfl 2 (by decide) f_28 (fun _ h9 => h9) rfl dX3_shiftAndAdjustCodes_202 ?_
    refine lv_iconst (v := (1 : Int32)) hx hb dX3_shiftAndAdjustCodes_205 (by decide) ?_
    refine cl_Vi (As := [.int (1 : Int32)]) (rest := [.ref q0]) (st := [.int (1 : Int32), .ref q7, .ref q0]) S hK hA hP hD hS (fr_P_A (ps_code u u1)) (kcX0_has l D cB cI q7 H.size (1 : Int32) (p_flags u) _ hw) (cwV 1 hts gX3_shiftAndAdjustCodes_X0_has rfl rfl rfl (by decide +kernel) ⟨Nat.le_of_ble_eq_true rfl, Nat.le_of_ble_eq_true rfl⟩) tru_h tru_b 7 rfl rfl rfl rfl rfl hl.1 (Nat.le_of_ble_eq_true rfl) dX3_shiftAndAdjustCodes_206 ⟨Nat.zero_le _, Nat.zero_le _⟩ (fun r24 u23 H locs hP hD hS hw => ?_)
    replace hP : va_P D vwCl (WP cB cI q0 q1 q2 q3 q4 q5 q6 q7 q8 q9 (ps_code (ps_flags u u23) u1)) H := hP
    replace hD : va_D A (WP cB cI q0 q1 q2 q3 q4 q5 q6 q7 q8 q9 (ps_code (ps_flags u u23) u1)) := hD
    refine lv_if_eq (tgt := 218) hx hb dX3_shiftAndAdjustCodes_209 (by decide) (fun c25 => ?_) (fun c25 => ?_)
    · replace hw := hw.1 c25
      refine lv_iconst (v := (0 : Int32)) hx hb dX3_shiftAndAdjustCodes_218 (by decide) ?_
      exact b219 (0 : Int32) (ps_code (ps_flags u u23) u1) H locs ls hP hD hS (lv_sub hl [] rfl) hw
    · replace hw := hw.2 c25
      refine lv_sipush (v := (255 : Int32)) hx hb dX3_shiftAndAdjustCodes_212 (by decide) ?_
      refine lv_goto (tgt := 219) hx hb dX3_shiftAndAdjustCodes_215 (by decide) ?_
      exact b219 (255 : Int32) (ps_code (ps_flags u u23) u1) H locs ls hP hD hS (lv_sub hl [] rfl) hw
  replace hw := hw.2 c22
  by_cases c26 : (c_number u1) = (215 : Int32)
  · replace hw := hw.1 c26
    refine lv_tableIn (off := 211) (tgt := 226) hx hb dX3_shiftAndAdjustCodes_15 (by rw [c26]; decide) (by rw [c26]; decide) (by rw [c26]; rfl) (by decide) ?_
    refine lv_aload_n hx hb dX3_shiftAndAdjustCodes_226 rfl (lv_at hl 1 rfl) ?_
    refine va_get (D := D) (ci := 3) (v := .ref q4) (C := RX3) (T := TX3) (N := 8) hx hb hts i_X3 hown hK hP 0 rfl rfl 1 (by decide) f_21 (fun _ h9 => h9) rfl dX3_shiftAndAdjustCodes_227 ?_
    refine lv_iconst (v := (3 : Int32)) hx hb dX3_shiftAndAdjustCodes_230 (by decide) ?_
    refine cl_Vi (As := [.int (3 : Int32)]) (rest := []) (st := [.int (3 : Int32), .ref q4]) S hK hA hP hD hS (fr_P_R (ps_code u u1)) (kcX4_word l D cB cI q4 q5 q6 H.size (3 : Int32) (p_regs u) _ hw) (cwV 1 hts gX3_shiftAndAdjustCodes_X4_word rfl rfl rfl (by decide +kernel) ⟨Nat.le_of_ble_eq_true rfl, Nat.le_of_ble_eq_true rfl⟩) tru_h tru_b 4 rfl rfl rfl rfl rfl hl.1 (Nat.le_of_ble_eq_true rfl) dX3_shiftAndAdjustCodes_231 ⟨Nat.zero_le _, Nat.zero_le _⟩ (fun r28 u27 H locs hP hD hS hw => ?_)
    replace hP : va_P D vwCl (WP cB cI q0 q1 q2 q3 q4 q5 q6 q7 q8 q9 (ps_code (ps_regs u u27) u1)) H := hP
    replace hD : va_D A (WP cB cI q0 q1 q2 q3 q4 q5 q6 q7 q8 q9 (ps_code (ps_regs u u27) u1)) := hD
    refine lv_aload_n hx hb dX3_shiftAndAdjustCodes_234 rfl (lv_at hl 1 rfl) ?_
    refine lv_iconst (v := (0 : Int32)) hx hb dX3_shiftAndAdjustCodes_235 (by decide) ?_
    refine cl_Vi (As := [.int (0 : Int32)]) (rest := [.int r28]) (st := [.int (0 : Int32), .ref q0, .int r28]) S hK hA hP hD hS (fr_P (ps_code (ps_regs u u27) u1)) (kcX3_a l D cB cI q0 q1 q2 q3 q4 q5 q6 q7 q8 q9 H.size (0 : Int32) (ps_code (ps_regs u u27) u1) _ hw) (cwV 1 hts gX3_shiftAndAdjustCodes_X3_a rfl rfl rfl (by decide +kernel) ⟨Nat.le_of_ble_eq_true rfl, Nat.le_of_ble_eq_true rfl⟩) tru_h tru_b 0 rfl rfl rfl rfl rfl hl.1 (Nat.le_of_ble_eq_true rfl) dX3_shiftAndAdjustCodes_236 ⟨Nat.zero_le _, Nat.zero_le _⟩ (fun r30 u29 H locs hP hD hS hw => ?_)
    replace hP : va_P D vwCl (WP cB cI q0 q1 q2 q3 q4 q5 q6 q7 q8 q9 u29) H := hP
    replace hD : va_D A (WP cB cI q0 q1 q2 q3 q4 q5 q6 q7 q8 q9 u29) := hD
    refine lv_iadd hx hb dX3_shiftAndAdjustCodes_239 ?_
    refine lv_istore_n (lv' := [(2, .int (r28 + r30)), (1, .int r2), (0, .ref q0)]) hx hb dX3_shiftAndAdjustCodes_240 rfl hl (by decide) rfl (fun ls hl => ?_)
    refine lv_aload_n hx hb dX3_shiftAndAdjustCodes_241 rfl (lv_at hl 2 rfl) ?_
    refine lv_aload_n hx hb dX3_shiftAndAdjustCodes_242 rfl (lv_at hl 2 rfl) ?_
    refine va_get (D := D) (ci := 3) (v := .ref q1) (C := RX3) (T := TX3) (N := 8) hx hb hts i_X3 hown hK hP 0 rfl rfl 0 (by decide) f_12 (fun _ h9 => h9) rfl dX3_shiftAndAdjustCodes_243 ?_
    refine lv_aload_n hx hb dX3_shiftAndAdjustCodes_246 rfl (lv_at hl 2 rfl) ?_
    refine lv_iconst (v := (3 : Int32)) hx hb dX3_shiftAndAdjustCodes_247 (by decide) ?_
    refine cl_Vi (As := [.int (3 : Int32)]) (rest := [.ref q1, .ref q0]) (st := [.int (3 : Int32), .ref q0, .ref q1, .ref q0]) S hK hA hP hD hS (fr_P u29) (kcX3_segmentFor l D cB cI q0 q1 q2 q3 q4 q5 q6 q7 q8 q9 H.size (3 : Int32) u29 _ hw) (cwV 1 hts gX3_shiftAndAdjustCodes_X3_segmentFor rfl rfl rfl (by decide +kernel) ⟨Nat.le_of_ble_eq_true rfl, Nat.le_of_ble_eq_true rfl⟩) tru_h tru_b 0 rfl rfl rfl rfl rfl hl.1 (Nat.le_of_ble_eq_true rfl) dX3_shiftAndAdjustCodes_248 ⟨Nat.zero_le _, Nat.zero_le _⟩ (fun r32 u31 H locs hP hD hS hw => ?_)
    replace hP : va_P D vwCl (WP cB cI q0 q1 q2 q3 q4 q5 q6 q7 q8 q9 u31) H := hP
    replace hD : va_D A (WP cB cI q0 q1 q2 q3 q4 q5 q6 q7 q8 q9 u31) := hD
    refine lv_iload_n hx hb dX3_shiftAndAdjustCodes_251 rfl (lv_at hl 0 rfl) ?_
    refine lv_iconst (v := (0 : Int32)) hx hb dX3_shiftAndAdjustCodes_252 (by decide) ?_
    refine cl_Vi (As := [.int r32, .int (r28 + r30), .int (0 : Int32)]) (rest := [.ref q0]) (st := [.int (0 : Int32), .int (r28 + r30), .int r32, .ref q1, .ref q0]) S hK hA hP hD hS (fr_P_M u31) (kcX2_load l D cB cI q1 q2 q3 H.size r32 (r28 + r30) (0 : Int32) (p_mem u31) _ hw) (cwV 3 hts gX3_shiftAndAdjustCodes_X2_load rfl rfl rfl (by decide +kernel) ⟨Nat.le_of_ble_eq_true rfl, Nat.le_of_ble_eq_true rfl⟩) tru_h tru_b 1 rfl rfl rfl rfl rfl hl.1 (Nat.le_of_ble_eq_true rfl) dX3_shiftAndAdjustCodes_253 ⟨Nat.zero_le _, Nat.zero_le _⟩ (fun r34 u33 H locs hP hD hS hw => ?_)
    replace hP : va_P D vwCl (WP cB cI q0 q1 q2 q3 q4 q5 q6 q7 q8 q9 (ps_mem u31 u33)) H := hP
    replace hD : va_D A (WP cB cI q0 q1 q2 q3 q4 q5 q6 q7 q8 q9 (ps_mem u31 u33)) := hD
    refine lv_iconst (v := (0 : Int32)) hx hb dX3_shiftAndAdjustCodes_256 (by decide) ?_
    refine cl_Vv (As := [.int r34, .int (0 : Int32)]) (rest := []) (st := [.int (0 : Int32), .int r34, .ref q0]) S hK hA hP hD hS (fr_P (ps_mem u31 u33)) (kcX3_giveA l D cB cI q0 q1 q2 q3 q4 q5 q6 q7 q8 q9 H.size r34 (0 : Int32) (ps_mem u31 u33) _ hw) (cwV 2 hts gX3_shiftAndAdjustCodes_X3_giveA rfl rfl rfl (by decide +kernel) ⟨Nat.le_of_ble_eq_true rfl, Nat.le_of_ble_eq_true rfl⟩) tru_h tru_b 0 rfl rfl rfl rfl rfl hl.1 (Nat.le_of_ble_eq_true rfl) dX3_shiftAndAdjustCodes_257 ⟨Nat.zero_le _, Nat.zero_le _⟩ (fun u35 H locs hP hD hS hw => ?_)
    replace hP : va_P D vwCl (WP cB cI q0 q1 q2 q3 q4 q5 q6 q7 q8 q9 u35) H := hP
    replace hD : va_D A (WP cB cI q0 q1 q2 q3 q4 q5 q6 q7 q8 q9 u35) := hD
    refine lv_goto (tgt := 263) hx hb dX3_shiftAndAdjustCodes_260 (by decide) ?_
    exact rt_v (wo := (fun v => WP cB cI q0 q1 q2 q3 q4 q5 q6 q7 q8 q9 v)) S hr hlk u35 hP hS hw dX3_shiftAndAdjustCodes_263
  replace hw := hw.2 c26
  refine lv_tableOut (tgt := 263) hx hb dX3_shiftAndAdjustCodes_15 (by have e_c3 : ¬ ((c_number u1) : Int32).toInt = 208 := sw_ne c3; have e_c4 : ¬ ((c_number u1) : Int32).toInt = 209 := sw_ne c4; have e_c5 : ¬ ((c_number u1) : Int32).toInt = 210 := sw_ne c5; have e_c6 : ¬ ((c_number u1) : Int32).toInt = 211 := sw_ne c6; have e_c7 : ¬ ((c_number u1) : Int32).toInt = 212 := sw_ne c7; have e_c15 : ¬ ((c_number u1) : Int32).toInt = 213 := sw_ne c15; have e_c22 : ¬ ((c_number u1) : Int32).toInt = 214 := sw_ne c22; have e_c26 : ¬ ((c_number u1) : Int32).toInt = 215 := sw_ne c26; omega) (by decide) ?_
  exact rt_v (wo := (fun v => WP cB cI q0 q1 q2 q3 q4 q5 q6 q7 q8 q9 v)) S hr hlk (ps_code u u1) hP hS hw dX3_shiftAndAdjustCodes_263
-- X3_stepWordRegister
def wX3_stepWordRegister_b36  (P : SP → Prop) (s1 : Int32) (s2 : Int32) (u : SP) : Prop := (wX0_byOne s1 s2 (1 : Int32) (p_flags u) (fun r5 u4 => (wX4_setWord (c_number (p_code u)) r5 (p_regs u) (fun u6 => (P (ps_flags (ps_regs u u6) u4))))))
def wX3_stepWordRegister  (u : SP) (P : SP → Prop) : Prop := (wX4_word (c_number (p_code u)) (p_regs u) (fun r2 u1 => ((((c_number (p_code u)) &&& (8 : Int32)) = (0 : Int32) → (wX3_stepWordRegister_b36  P r2 (0 : Int32) (ps_regs u u1))) ∧ (¬ ((c_number (p_code u)) &&& (8 : Int32)) = (0 : Int32) → (wX3_stepWordRegister_b36  P r2 (1 : Int32) (ps_regs u u1))))))
set_option maxHeartbeats 4000000 in
set_option maxRecDepth 100000 in
theorem kcX3_stepWordRegister (l : Launch) (D : va_G) (cB cI : ClassId) (q0 q1 q2 q3 q4 q5 q6 q7 q8 q9 : Nat) (sz : Nat)  (u : SP) (P : SP → Prop) (hw : wX3_stepWordRegister  u P) : Met l yX3_stepWordRegister wsX3_stepWordRegister ({ frames := 4, cells := 0, slots := 0, locals := 97 } : Room) (va_Pc [.ref q0] (Pcw D (tyA cB cI) (WP cB cI q0 q1 q2 q3 q4 q5 q6 q7 q8 q9 u) sz Tru)) (va_Qv P (fun u t => va_P D vwCl (WP cB cI q0 q1 q2 q3 q4 q5 q6 q7 q8 q9 u) t.heap) (va_A (WP cB cI q0 q1 q2 q3 q4 q5 q6 q7 q8 q9 u) sz)) 0 0 (va_A (WP cB cI q0 q1 q2 q3 q4 q5 q6 q7 q8 q9 u) sz) := by
  refine en_ (cc := cX3_stepWordRegister) (maxL := 2) (ret := none) (own := RX3) (lv := [(0, .ref q0)]) (Qf := fun A => va_Qv P (fun u t => va_P D vwCl (WP cB cI q0 q1 q2 q3 q4 q5 q6 q7 q8 q9 u) t.heap) A) (by decide) rfl rfl (Nat.le_of_ble_eq_true rfl) rfl ?_
  intro p e s m below meth c A ls S hr hlk hname hsz hP hK hD hA hSub hS hE hl
  have hx := S.1
  have hb := S.2.1
  have hown := S.2.2.2.1
  have hts := S.2.2.2.2
  have i_X1 : ∀ w ∈ u_ws RX1 TX1 12, w ∈ wsX3_stepWordRegister := by decide +kernel
  have i_X3 : ∀ w ∈ u_ws RX3 TX3 8, w ∈ wsX3_stepWordRegister := by decide +kernel
  have f_21 := hts (.fieldLink RX3 21 "MachineCore$Processor" "registers" "LMachineCore$Registers;") (by decide +kernel)
  have f_28 := hts (.fieldLink RX3 28 "MachineCore$Processor" "arithmetic" "LMachineCore$Arithmetic;") (by decide +kernel)
  have f_35 := hts (.fieldLink RX3 35 "MachineCore$Processor" "code" "LMachineCore$Code;") (by decide +kernel)
  have f_47 := hts (.fieldLink RX3 47 "MachineCore$Code" "number" "I") (by decide +kernel)
  have b36 : ∀ (s1 : Int32) (s2 : Int32) (u : SP) (H : Heap) (locs : List Loc) (ls : Array Slot), va_P D vwCl (WP cB cI q0 q1 q2 q3 q4 q5 q6 q7 q8 q9 u) H → va_D A (WP cB cI q0 q1 q2 q3 q4 q5 q6 q7 q8 q9 u) → va_S A s.heap H locs → lv_has ls 2 [(0, .ref q0)] → wX3_stepWordRegister_b36  P s1 s2 u → W p l e ({ frames := 4, cells := 0, slots := 0, locals := 97 } : Room) s m ([.ref q0] : List Value).toArray below meth c H locs 0 0 (MQ below (va_Qv P (fun u t => va_P D vwCl (WP cB cI q0 q1 q2 q3 q4 q5 q6 q7 q8 q9 u) t.heap) A) ([.ref q0] : List Value).toArray s 0 0 A) (F0 m 36 ls [.int s2, .int s1, .ref q7]) := by
    intro s1 s2 u H locs ls hP hD hS hl hw
    unfold wX3_stepWordRegister_b36 at hw
    refine lv_iconst (v := (1 : Int32)) hx hb dX3_stepWordRegister_36 (by decide) ?_
    refine cl_Vi (As := [.int s1, .int s2, .int (1 : Int32)]) (rest := []) (st := [.int (1 : Int32), .int s2, .int s1, .ref q7]) S hK hA hP hD hS (fr_P_A u) (kcX0_byOne l D cB cI q7 H.size s1 s2 (1 : Int32) (p_flags u) _ hw) (cwV 3 hts gX3_stepWordRegister_X0_byOne rfl rfl rfl (by decide +kernel) ⟨Nat.le_of_ble_eq_true rfl, Nat.le_of_ble_eq_true rfl⟩) tru_h tru_b 7 rfl rfl rfl rfl rfl hl.1 (Nat.le_of_ble_eq_true rfl) dX3_stepWordRegister_37 ⟨Nat.zero_le _, Nat.zero_le _⟩ (fun r5 u4 H locs hP hD hS hw => ?_)
    replace hP : va_P D vwCl (WP cB cI q0 q1 q2 q3 q4 q5 q6 q7 q8 q9 (ps_flags u u4)) H := hP
    replace hD : va_D A (WP cB cI q0 q1 q2 q3 q4 q5 q6 q7 q8 q9 (ps_flags u u4)) := hD
    refine lv_istore_n (lv' := [(1, .int r5), (0, .ref q0)]) hx hb dX3_stepWordRegister_40 rfl hl (by decide) rfl (fun ls hl => ?_)
    refine lv_aload_n hx hb dX3_stepWordRegister_41 rfl (lv_at hl 1 rfl) ?_
    refine va_get (D := D) (ci := 3) (v := .ref q4) (C := RX3) (T := TX3) (N := 8) hx hb hts i_X3 hown hK hP 0 rfl rfl 1 (by decide) f_21 (fun _ h9 => h9) rfl dX3_stepWordRegister_42 ?_
    refine lv_aload_n hx hb dX3_stepWordRegister_45 rfl (lv_at hl 1 rfl) ?_
    refine va_get (D := D) (ci := 3) (v := .ref q8) (C := RX3) (T := TX3) (N := 8) hx hb hts i_X3 hown hK hP 0 rfl rfl 3 (by decide) f_35 (fun _ h9 => h9) rfl dX3_stepWordRegister_46 ?_
    refine va_get (D := D) (ci := 1) (v := .int (c_number (p_code u))) (C := RX1) (T := TX1) (N := 12) hx hb hts i_X1 hown hK hP 8 rfl rfl 1 (by decide) f_47 (fun _ h9 => h9) rfl dX3_stepWordRegister_49 ?_
    refine lv_iload_n hx hb dX3_stepWordRegister_52 rfl (lv_at hl 0 rfl) ?_
    refine cl_Vv (As := [.int (c_number (p_code u)), .int r5]) (rest := []) (st := [.int r5, .int (c_number (p_code u)), .ref q4]) S hK hA hP hD hS (fr_P_R (ps_flags u u4)) (kcX4_setWord l D cB cI q4 q5 q6 H.size (c_number (p_code u)) r5 (p_regs u) _ hw) (cwV 2 hts gX3_stepWordRegister_X4_setWord rfl rfl rfl (by decide +kernel) ⟨Nat.le_of_ble_eq_true rfl, Nat.le_of_ble_eq_true rfl⟩) tru_h tru_b 4 rfl rfl rfl rfl rfl hl.1 (Nat.le_of_ble_eq_true rfl) dX3_stepWordRegister_53 ⟨Nat.zero_le _, Nat.zero_le _⟩ (fun u6 H locs hP hD hS hw => ?_)
    replace hP : va_P D vwCl (WP cB cI q0 q1 q2 q3 q4 q5 q6 q7 q8 q9 (ps_flags (ps_regs u u6) u4)) H := hP
    replace hD : va_D A (WP cB cI q0 q1 q2 q3 q4 q5 q6 q7 q8 q9 (ps_flags (ps_regs u u6) u4)) := hD
    exact rt_v (wo := (fun v => WP cB cI q0 q1 q2 q3 q4 q5 q6 q7 q8 q9 v)) S hr hlk (ps_flags (ps_regs u u6) u4) hP hS hw dX3_stepWordRegister_56
  unfold wX3_stepWordRegister at hw
  obtain ⟨H, eH⟩ : ∃ H, H = s.heap := ⟨_, rfl⟩
  obtain ⟨locs, eL⟩ : ∃ locs : List Loc, locs = [] := ⟨_, rfl⟩
  replace hP : va_P D vwCl (WP cB cI q0 q1 q2 q3 q4 q5 q6 q7 q8 q9 u) H := by rw [eH]; exact hP
  replace hS : va_S A s.heap H locs := by rw [eH, eL]; exact hS
  suffices hgo : W p l e ({ frames := 4, cells := 0, slots := 0, locals := 97 } : Room) s m ([.ref q0] : List Value).toArray below meth c H locs 0 0 (MQ below (va_Qv P (fun u t => va_P D vwCl (WP cB cI q0 q1 q2 q3 q4 q5 q6 q7 q8 q9 u) t.heap) A) ([.ref q0] : List Value).toArray s 0 0 A) (F0 m 0 ls []) by rw [eH, eL] at hgo; exact hgo
  clear eH eL
  refine lv_aload_n hx hb dX3_stepWordRegister_0 rfl (lv_at hl 0 rfl) ?_
  refine va_get (D := D) (ci := 3) (v := .ref q7) (C := RX3) (T := TX3) (N := 8) hx hb hts i_X3 hown hK hP 0 rfl rfl 2 (by decide) f_28 (fun _ h9 => h9) rfl dX3_stepWordRegister_1 ?_
  refine lv_aload_n hx hb dX3_stepWordRegister_4 rfl (lv_at hl 0 rfl) ?_
  refine va_get (D := D) (ci := 3) (v := .ref q4) (C := RX3) (T := TX3) (N := 8) hx hb hts i_X3 hown hK hP 0 rfl rfl 1 (by decide) f_21 (fun _ h9 => h9) rfl dX3_stepWordRegister_5 ?_
  refine lv_aload_n hx hb dX3_stepWordRegister_8 rfl (lv_at hl 0 rfl) ?_
  refine va_get (D := D) (ci := 3) (v := .ref q8) (C := RX3) (T := TX3) (N := 8) hx hb hts i_X3 hown hK hP 0 rfl rfl 3 (by decide) f_35 (fun _ h9 => h9) rfl dX3_stepWordRegister_9 ?_
  refine va_get (D := D) (ci := 1) (v := .int (c_number (p_code u))) (C := RX1) (T := TX1) (N := 12) hx hb hts i_X1 hown hK hP 8 rfl rfl 1 (by decide) f_47 (fun _ h9 => h9) rfl dX3_stepWordRegister_12 ?_
  refine cl_Vi (As := [.int (c_number (p_code u))]) (rest := [.ref q7]) (st := [.int (c_number (p_code u)), .ref q4, .ref q7]) S hK hA hP hD hS (fr_P_R u) (kcX4_word l D cB cI q4 q5 q6 H.size (c_number (p_code u)) (p_regs u) _ hw) (cwV 1 hts gX3_stepWordRegister_X4_word rfl rfl rfl (by decide +kernel) ⟨Nat.le_of_ble_eq_true rfl, Nat.le_of_ble_eq_true rfl⟩) tru_h tru_b 4 rfl rfl rfl rfl rfl hl.1 (Nat.le_of_ble_eq_true rfl) dX3_stepWordRegister_15 ⟨Nat.zero_le _, Nat.zero_le _⟩ (fun r2 u1 H locs hP hD hS hw => ?_)
  replace hP : va_P D vwCl (WP cB cI q0 q1 q2 q3 q4 q5 q6 q7 q8 q9 (ps_regs u u1)) H := hP
  replace hD : va_D A (WP cB cI q0 q1 q2 q3 q4 q5 q6 q7 q8 q9 (ps_regs u u1)) := hD
  refine lv_aload_n hx hb dX3_stepWordRegister_18 rfl (lv_at hl 0 rfl) ?_
  refine va_get (D := D) (ci := 3) (v := .ref q8) (C := RX3) (T := TX3) (N := 8) hx hb hts i_X3 hown hK hP 0 rfl rfl 3 (by decide) f_35 (fun _ h9 => h9) rfl dX3_stepWordRegister_19 ?_
  refine va_get (D := D) (ci := 1) (v := .int (c_number (p_code u))) (C := RX1) (T := TX1) (N := 12) hx hb hts i_X1 hown hK hP 8 rfl rfl 1 (by decide) f_47 (fun _ h9 => h9) rfl dX3_stepWordRegister_22 ?_
  refine lv_bipush (v := (8 : Int32)) hx hb dX3_stepWordRegister_25 (by decide) ?_
  refine lv_iand hx hb dX3_stepWordRegister_27 ?_
  refine lv_if_eq (tgt := 35) hx hb dX3_stepWordRegister_28 (by decide) (fun c3 => ?_) (fun c3 => ?_)
  · replace hw := hw.1 c3
    refine lv_iconst (v := (0 : Int32)) hx hb dX3_stepWordRegister_35 (by decide) ?_
    exact b36 r2 (0 : Int32) (ps_regs u u1) H locs ls hP hD hS (lv_sub hl [0] rfl) hw
  · replace hw := hw.2 c3
    refine lv_iconst (v := (1 : Int32)) hx hb dX3_stepWordRegister_31 (by decide) ?_
    refine lv_goto (tgt := 36) hx hb dX3_stepWordRegister_32 (by decide) ?_
    exact b36 r2 (1 : Int32) (ps_regs u u1) H locs ls hP hD hS (lv_sub hl [0] rfl) hw
-- X3_stringStride
def wX3_stringStride_b15  (P : Int32 → SP → Prop) (s0 : Int32) (u : SP) : Prop := (wX0_has (1024 : Int32) (p_flags u) (fun r5 u4 => ((r5 = (0 : Int32) → (P s0 (ps_flags u u4))) ∧ (¬ r5 = (0 : Int32) → (P (-s0) (ps_flags u u4))))))
def wX3_stringStride  (u : SP) (P : Int32 → SP → Prop) : Prop := (wX1_wide  (p_code u) (fun r2 u1 => ((r2 = (0 : Int32) → (wX3_stringStride_b15  P (1 : Int32) (ps_code u u1))) ∧ (¬ r2 = (0 : Int32) → (wX3_stringStride_b15  P (2 : Int32) (ps_code u u1))))))
set_option maxHeartbeats 4000000 in
set_option maxRecDepth 100000 in
theorem kcX3_stringStride (l : Launch) (D : va_G) (cB cI : ClassId) (q0 q1 q2 q3 q4 q5 q6 q7 q8 q9 : Nat) (sz : Nat)  (u : SP) (P : Int32 → SP → Prop) (hw : wX3_stringStride  u P) : Met l yX3_stringStride wsX3_stringStride ({ frames := 1, cells := 0, slots := 0, locals := 21 } : Room) (va_Pc [.ref q0] (Pcw D (tyA cB cI) (WP cB cI q0 q1 q2 q3 q4 q5 q6 q7 q8 q9 u) sz Tru)) (va_Qi P (fun u t => va_P D vwCl (WP cB cI q0 q1 q2 q3 q4 q5 q6 q7 q8 q9 u) t.heap) (va_A (WP cB cI q0 q1 q2 q3 q4 q5 q6 q7 q8 q9 u) sz)) 0 0 (va_A (WP cB cI q0 q1 q2 q3 q4 q5 q6 q7 q8 q9 u) sz) := by
  refine en_ (cc := cX3_stringStride) (maxL := 2) (ret := (some .int)) (own := RX3) (lv := [(0, .ref q0)]) (Qf := fun A => va_Qi P (fun u t => va_P D vwCl (WP cB cI q0 q1 q2 q3 q4 q5 q6 q7 q8 q9 u) t.heap) A) (by decide) rfl rfl (Nat.le_of_ble_eq_true rfl) rfl ?_
  intro p e s m below meth c A ls S hr hlk hname hsz hP hK hD hA hSub hS hE hl
  have hx := S.1
  have hb := S.2.1
  have hown := S.2.2.2.1
  have hts := S.2.2.2.2
  have i_X3 : ∀ w ∈ u_ws RX3 TX3 8, w ∈ wsX3_stringStride := by decide +kernel
  have f_28 := hts (.fieldLink RX3 28 "MachineCore$Processor" "arithmetic" "LMachineCore$Arithmetic;") (by decide +kernel)
  have f_35 := hts (.fieldLink RX3 35 "MachineCore$Processor" "code" "LMachineCore$Code;") (by decide +kernel)
  have b15 : ∀ (s0 : Int32) (u : SP) (H : Heap) (locs : List Loc) (ls : Array Slot), va_P D vwCl (WP cB cI q0 q1 q2 q3 q4 q5 q6 q7 q8 q9 u) H → va_D A (WP cB cI q0 q1 q2 q3 q4 q5 q6 q7 q8 q9 u) → va_S A s.heap H locs → lv_has ls 2 [(0, .ref q0)] → wX3_stringStride_b15  P s0 u → W p l e ({ frames := 1, cells := 0, slots := 0, locals := 21 } : Room) s m ([.ref q0] : List Value).toArray below meth c H locs 0 0 (MQ below (va_Qi P (fun u t => va_P D vwCl (WP cB cI q0 q1 q2 q3 q4 q5 q6 q7 q8 q9 u) t.heap) A) ([.ref q0] : List Value).toArray s 0 0 A) (F0 m 15 ls [.int s0]) := by
    intro s0 u H locs ls hP hD hS hl hw
    unfold wX3_stringStride_b15 at hw
    refine lv_istore_n (lv' := [(1, .int s0), (0, .ref q0)]) hx hb dX3_stringStride_15 rfl hl (by decide) rfl (fun ls hl => ?_)
    refine lv_aload_n hx hb dX3_stringStride_16 rfl (lv_at hl 1 rfl) ?_
    refine va_get (D := D) (ci := 3) (v := .ref q7) (C := RX3) (T := TX3) (N := 8) hx hb hts i_X3 hown hK hP 0 rfl rfl 2 (by decide) f_28 (fun _ h9 => h9) rfl dX3_stringStride_17 ?_
    refine lv_sipush (v := (1024 : Int32)) hx hb dX3_stringStride_20 (by decide) ?_
    refine cl_Vi (As := [.int (1024 : Int32)]) (rest := []) (st := [.int (1024 : Int32), .ref q7]) S hK hA hP hD hS (fr_P_A u) (kcX0_has l D cB cI q7 H.size (1024 : Int32) (p_flags u) _ hw) (cwV 1 hts gX3_stringStride_X0_has rfl rfl rfl (by decide +kernel) ⟨Nat.le_of_ble_eq_true rfl, Nat.le_of_ble_eq_true rfl⟩) tru_h tru_b 7 rfl rfl rfl rfl rfl hl.1 (Nat.le_of_ble_eq_true rfl) dX3_stringStride_23 ⟨Nat.zero_le _, Nat.zero_le _⟩ (fun r5 u4 H locs hP hD hS hw => ?_)
    replace hP : va_P D vwCl (WP cB cI q0 q1 q2 q3 q4 q5 q6 q7 q8 q9 (ps_flags u u4)) H := hP
    replace hD : va_D A (WP cB cI q0 q1 q2 q3 q4 q5 q6 q7 q8 q9 (ps_flags u u4)) := hD
    refine lv_if_eq (tgt := 34) hx hb dX3_stringStride_26 (by decide) (fun c6 => ?_) (fun c6 => ?_)
    · replace hw := hw.1 c6
      refine lv_iload_n hx hb dX3_stringStride_34 rfl (lv_at hl 0 rfl) ?_
      exact rt_i (wo := (fun v => WP cB cI q0 q1 q2 q3 q4 q5 q6 q7 q8 q9 v)) S hr hlk (ps_flags u u4) hP hS hw dX3_stringStride_35
    · replace hw := hw.2 c6
      refine lv_iload_n hx hb dX3_stringStride_29 rfl (lv_at hl 0 rfl) ?_
      refine lv_ineg hx hb dX3_stringStride_30 ?_
      refine lv_goto (tgt := 35) hx hb dX3_stringStride_31 (by decide) ?_
      exact rt_i (wo := (fun v => WP cB cI q0 q1 q2 q3 q4 q5 q6 q7 q8 q9 v)) S hr hlk (ps_flags u u4) hP hS hw dX3_stringStride_35
  unfold wX3_stringStride at hw
  obtain ⟨H, eH⟩ : ∃ H, H = s.heap := ⟨_, rfl⟩
  obtain ⟨locs, eL⟩ : ∃ locs : List Loc, locs = [] := ⟨_, rfl⟩
  replace hP : va_P D vwCl (WP cB cI q0 q1 q2 q3 q4 q5 q6 q7 q8 q9 u) H := by rw [eH]; exact hP
  replace hS : va_S A s.heap H locs := by rw [eH, eL]; exact hS
  suffices hgo : W p l e ({ frames := 1, cells := 0, slots := 0, locals := 21 } : Room) s m ([.ref q0] : List Value).toArray below meth c H locs 0 0 (MQ below (va_Qi P (fun u t => va_P D vwCl (WP cB cI q0 q1 q2 q3 q4 q5 q6 q7 q8 q9 u) t.heap) A) ([.ref q0] : List Value).toArray s 0 0 A) (F0 m 0 ls []) by rw [eH, eL] at hgo; exact hgo
  clear eH eL
  refine lv_aload_n hx hb dX3_stringStride_0 rfl (lv_at hl 0 rfl) ?_
  refine va_get (D := D) (ci := 3) (v := .ref q8) (C := RX3) (T := TX3) (N := 8) hx hb hts i_X3 hown hK hP 0 rfl rfl 3 (by decide) f_35 (fun _ h9 => h9) rfl dX3_stringStride_1 ?_
  refine cl_Vi (As := []) (rest := []) (st := [.ref q8]) S hK hA hP hD hS (fr_P_C u) (kcX1_wide l D cB cI q8 H.size  (p_code u) _ hw) (cwV 0 hts gX3_stringStride_X1_wide rfl rfl rfl (by decide +kernel) ⟨Nat.le_of_ble_eq_true rfl, Nat.le_of_ble_eq_true rfl⟩) tru_h tru_b 8 rfl rfl rfl rfl rfl hl.1 (Nat.le_of_ble_eq_true rfl) dX3_stringStride_4 ⟨Nat.zero_le _, Nat.zero_le _⟩ (fun r2 u1 H locs hP hD hS hw => ?_)
  replace hP : va_P D vwCl (WP cB cI q0 q1 q2 q3 q4 q5 q6 q7 q8 q9 (ps_code u u1)) H := hP
  replace hD : va_D A (WP cB cI q0 q1 q2 q3 q4 q5 q6 q7 q8 q9 (ps_code u u1)) := hD
  refine lv_if_eq (tgt := 14) hx hb dX3_stringStride_7 (by decide) (fun c3 => ?_) (fun c3 => ?_)
  · replace hw := hw.1 c3
    refine lv_iconst (v := (1 : Int32)) hx hb dX3_stringStride_14 (by decide) ?_
    exact b15 (1 : Int32) (ps_code u u1) H locs ls hP hD hS (lv_sub hl [0] rfl) hw
  · replace hw := hw.2 c3
    refine lv_iconst (v := (2 : Int32)) hx hb dX3_stringStride_10 (by decide) ?_
    refine lv_goto (tgt := 15) hx hb dX3_stringStride_11 (by decide) ?_
    exact b15 (2 : Int32) (ps_code u u1) H locs ls hP hD hS (lv_sub hl [0] rfl) hw
-- X3_passSource
def wX3_passSource  (u : SP) (P : SP → Prop) : Prop := (wX4_word (6 : Int32) (p_regs u) (fun r2 u1 => (wX3_stringStride  (ps_regs u u1) (fun r4 u3 => (wX4_setWord (6 : Int32) (r2 + r4) (p_regs u3) (fun u5 => (P (ps_regs u3 u5))))))))
set_option maxHeartbeats 4000000 in
set_option maxRecDepth 100000 in
theorem kcX3_passSource (l : Launch) (D : va_G) (cB cI : ClassId) (q0 q1 q2 q3 q4 q5 q6 q7 q8 q9 : Nat) (sz : Nat)  (u : SP) (P : SP → Prop) (hw : wX3_passSource  u P) : Met l yX3_passSource wsX3_passSource ({ frames := 2, cells := 0, slots := 0, locals := 42 } : Room) (va_Pc [.ref q0] (Pcw D (tyA cB cI) (WP cB cI q0 q1 q2 q3 q4 q5 q6 q7 q8 q9 u) sz Tru)) (va_Qv P (fun u t => va_P D vwCl (WP cB cI q0 q1 q2 q3 q4 q5 q6 q7 q8 q9 u) t.heap) (va_A (WP cB cI q0 q1 q2 q3 q4 q5 q6 q7 q8 q9 u) sz)) 0 0 (va_A (WP cB cI q0 q1 q2 q3 q4 q5 q6 q7 q8 q9 u) sz) := by
  refine en_ (cc := cX3_passSource) (maxL := 1) (ret := none) (own := RX3) (lv := [(0, .ref q0)]) (Qf := fun A => va_Qv P (fun u t => va_P D vwCl (WP cB cI q0 q1 q2 q3 q4 q5 q6 q7 q8 q9 u) t.heap) A) (by decide) rfl rfl (Nat.le_of_ble_eq_true rfl) rfl ?_
  intro p e s m below meth c A ls S hr hlk hname hsz hP hK hD hA hSub hS hE hl
  have hx := S.1
  have hb := S.2.1
  have hown := S.2.2.2.1
  have hts := S.2.2.2.2
  have i_X3 : ∀ w ∈ u_ws RX3 TX3 8, w ∈ wsX3_passSource := by decide +kernel
  have f_21 := hts (.fieldLink RX3 21 "MachineCore$Processor" "registers" "LMachineCore$Registers;") (by decide +kernel)
  unfold wX3_passSource at hw
  obtain ⟨H, eH⟩ : ∃ H, H = s.heap := ⟨_, rfl⟩
  obtain ⟨locs, eL⟩ : ∃ locs : List Loc, locs = [] := ⟨_, rfl⟩
  replace hP : va_P D vwCl (WP cB cI q0 q1 q2 q3 q4 q5 q6 q7 q8 q9 u) H := by rw [eH]; exact hP
  replace hS : va_S A s.heap H locs := by rw [eH, eL]; exact hS
  suffices hgo : W p l e ({ frames := 2, cells := 0, slots := 0, locals := 42 } : Room) s m ([.ref q0] : List Value).toArray below meth c H locs 0 0 (MQ below (va_Qv P (fun u t => va_P D vwCl (WP cB cI q0 q1 q2 q3 q4 q5 q6 q7 q8 q9 u) t.heap) A) ([.ref q0] : List Value).toArray s 0 0 A) (F0 m 0 ls []) by rw [eH, eL] at hgo; exact hgo
  clear eH eL
  refine lv_aload_n hx hb dX3_passSource_0 rfl (lv_at hl 0 rfl) ?_
  refine va_get (D := D) (ci := 3) (v := .ref q4) (C := RX3) (T := TX3) (N := 8) hx hb hts i_X3 hown hK hP 0 rfl rfl 1 (by decide) f_21 (fun _ h9 => h9) rfl dX3_passSource_1 ?_
  refine lv_bipush (v := (6 : Int32)) hx hb dX3_passSource_4 (by decide) ?_
  refine lv_aload_n hx hb dX3_passSource_6 rfl (lv_at hl 0 rfl) ?_
  refine va_get (D := D) (ci := 3) (v := .ref q4) (C := RX3) (T := TX3) (N := 8) hx hb hts i_X3 hown hK hP 0 rfl rfl 1 (by decide) f_21 (fun _ h9 => h9) rfl dX3_passSource_7 ?_
  refine lv_bipush (v := (6 : Int32)) hx hb dX3_passSource_10 (by decide) ?_
  refine cl_Vi (As := [.int (6 : Int32)]) (rest := [.int (6 : Int32), .ref q4]) (st := [.int (6 : Int32), .ref q4, .int (6 : Int32), .ref q4]) S hK hA hP hD hS (fr_P_R u) (kcX4_word l D cB cI q4 q5 q6 H.size (6 : Int32) (p_regs u) _ hw) (cwV 1 hts gX3_passSource_X4_word rfl rfl rfl (by decide +kernel) ⟨Nat.le_of_ble_eq_true rfl, Nat.le_of_ble_eq_true rfl⟩) tru_h tru_b 4 rfl rfl rfl rfl rfl hl.1 (Nat.le_of_ble_eq_true rfl) dX3_passSource_12 ⟨Nat.zero_le _, Nat.zero_le _⟩ (fun r2 u1 H locs hP hD hS hw => ?_)
  replace hP : va_P D vwCl (WP cB cI q0 q1 q2 q3 q4 q5 q6 q7 q8 q9 (ps_regs u u1)) H := hP
  replace hD : va_D A (WP cB cI q0 q1 q2 q3 q4 q5 q6 q7 q8 q9 (ps_regs u u1)) := hD
  refine lv_aload_n hx hb dX3_passSource_15 rfl (lv_at hl 0 rfl) ?_
  refine cl_Vi (As := []) (rest := [.int r2, .int (6 : Int32), .ref q4]) (st := [.ref q0, .int r2, .int (6 : Int32), .ref q4]) S hK hA hP hD hS (fr_P (ps_regs u u1)) (kcX3_stringStride l D cB cI q0 q1 q2 q3 q4 q5 q6 q7 q8 q9 H.size  (ps_regs u u1) _ hw) (cwV 0 hts gX3_passSource_X3_stringStride rfl rfl rfl (by decide +kernel) ⟨Nat.le_of_ble_eq_true rfl, Nat.le_of_ble_eq_true rfl⟩) tru_h tru_b 0 rfl rfl rfl rfl rfl hl.1 (Nat.le_of_ble_eq_true rfl) dX3_passSource_16 ⟨Nat.zero_le _, Nat.zero_le _⟩ (fun r4 u3 H locs hP hD hS hw => ?_)
  replace hP : va_P D vwCl (WP cB cI q0 q1 q2 q3 q4 q5 q6 q7 q8 q9 u3) H := hP
  replace hD : va_D A (WP cB cI q0 q1 q2 q3 q4 q5 q6 q7 q8 q9 u3) := hD
  refine lv_iadd hx hb dX3_passSource_19 ?_
  refine cl_Vv (As := [.int (6 : Int32), .int (r2 + r4)]) (rest := []) (st := [.int (r2 + r4), .int (6 : Int32), .ref q4]) S hK hA hP hD hS (fr_P_R u3) (kcX4_setWord l D cB cI q4 q5 q6 H.size (6 : Int32) (r2 + r4) (p_regs u3) _ hw) (cwV 2 hts gX3_passSource_X4_setWord rfl rfl rfl (by decide +kernel) ⟨Nat.le_of_ble_eq_true rfl, Nat.le_of_ble_eq_true rfl⟩) tru_h tru_b 4 rfl rfl rfl rfl rfl hl.1 (Nat.le_of_ble_eq_true rfl) dX3_passSource_20 ⟨Nat.zero_le _, Nat.zero_le _⟩ (fun u5 H locs hP hD hS hw => ?_)
  replace hP : va_P D vwCl (WP cB cI q0 q1 q2 q3 q4 q5 q6 q7 q8 q9 (ps_regs u3 u5)) H := hP
  replace hD : va_D A (WP cB cI q0 q1 q2 q3 q4 q5 q6 q7 q8 q9 (ps_regs u3 u5)) := hD
  exact rt_v (wo := (fun v => WP cB cI q0 q1 q2 q3 q4 q5 q6 q7 q8 q9 v)) S hr hlk (ps_regs u3 u5) hP hS hw dX3_passSource_23
-- X3_passTarget
def wX3_passTarget  (u : SP) (P : SP → Prop) : Prop := (wX4_word (7 : Int32) (p_regs u) (fun r2 u1 => (wX3_stringStride  (ps_regs u u1) (fun r4 u3 => (wX4_setWord (7 : Int32) (r2 + r4) (p_regs u3) (fun u5 => (P (ps_regs u3 u5))))))))
set_option maxHeartbeats 4000000 in
set_option maxRecDepth 100000 in
theorem kcX3_passTarget (l : Launch) (D : va_G) (cB cI : ClassId) (q0 q1 q2 q3 q4 q5 q6 q7 q8 q9 : Nat) (sz : Nat)  (u : SP) (P : SP → Prop) (hw : wX3_passTarget  u P) : Met l yX3_passTarget wsX3_passTarget ({ frames := 2, cells := 0, slots := 0, locals := 42 } : Room) (va_Pc [.ref q0] (Pcw D (tyA cB cI) (WP cB cI q0 q1 q2 q3 q4 q5 q6 q7 q8 q9 u) sz Tru)) (va_Qv P (fun u t => va_P D vwCl (WP cB cI q0 q1 q2 q3 q4 q5 q6 q7 q8 q9 u) t.heap) (va_A (WP cB cI q0 q1 q2 q3 q4 q5 q6 q7 q8 q9 u) sz)) 0 0 (va_A (WP cB cI q0 q1 q2 q3 q4 q5 q6 q7 q8 q9 u) sz) := by
  refine en_ (cc := cX3_passTarget) (maxL := 1) (ret := none) (own := RX3) (lv := [(0, .ref q0)]) (Qf := fun A => va_Qv P (fun u t => va_P D vwCl (WP cB cI q0 q1 q2 q3 q4 q5 q6 q7 q8 q9 u) t.heap) A) (by decide) rfl rfl (Nat.le_of_ble_eq_true rfl) rfl ?_
  intro p e s m below meth c A ls S hr hlk hname hsz hP hK hD hA hSub hS hE hl
  have hx := S.1
  have hb := S.2.1
  have hown := S.2.2.2.1
  have hts := S.2.2.2.2
  have i_X3 : ∀ w ∈ u_ws RX3 TX3 8, w ∈ wsX3_passTarget := by decide +kernel
  have f_21 := hts (.fieldLink RX3 21 "MachineCore$Processor" "registers" "LMachineCore$Registers;") (by decide +kernel)
  unfold wX3_passTarget at hw
  obtain ⟨H, eH⟩ : ∃ H, H = s.heap := ⟨_, rfl⟩
  obtain ⟨locs, eL⟩ : ∃ locs : List Loc, locs = [] := ⟨_, rfl⟩
  replace hP : va_P D vwCl (WP cB cI q0 q1 q2 q3 q4 q5 q6 q7 q8 q9 u) H := by rw [eH]; exact hP
  replace hS : va_S A s.heap H locs := by rw [eH, eL]; exact hS
  suffices hgo : W p l e ({ frames := 2, cells := 0, slots := 0, locals := 42 } : Room) s m ([.ref q0] : List Value).toArray below meth c H locs 0 0 (MQ below (va_Qv P (fun u t => va_P D vwCl (WP cB cI q0 q1 q2 q3 q4 q5 q6 q7 q8 q9 u) t.heap) A) ([.ref q0] : List Value).toArray s 0 0 A) (F0 m 0 ls []) by rw [eH, eL] at hgo; exact hgo
  clear eH eL
  refine lv_aload_n hx hb dX3_passTarget_0 rfl (lv_at hl 0 rfl) ?_
  refine va_get (D := D) (ci := 3) (v := .ref q4) (C := RX3) (T := TX3) (N := 8) hx hb hts i_X3 hown hK hP 0 rfl rfl 1 (by decide) f_21 (fun _ h9 => h9) rfl dX3_passTarget_1 ?_
  refine lv_bipush (v := (7 : Int32)) hx hb dX3_passTarget_4 (by decide) ?_
  refine lv_aload_n hx hb dX3_passTarget_6 rfl (lv_at hl 0 rfl) ?_
  refine va_get (D := D) (ci := 3) (v := .ref q4) (C := RX3) (T := TX3) (N := 8) hx hb hts i_X3 hown hK hP 0 rfl rfl 1 (by decide) f_21 (fun _ h9 => h9) rfl dX3_passTarget_7 ?_
  refine lv_bipush (v := (7 : Int32)) hx hb dX3_passTarget_10 (by decide) ?_
  refine cl_Vi (As := [.int (7 : Int32)]) (rest := [.int (7 : Int32), .ref q4]) (st := [.int (7 : Int32), .ref q4, .int (7 : Int32), .ref q4]) S hK hA hP hD hS (fr_P_R u) (kcX4_word l D cB cI q4 q5 q6 H.size (7 : Int32) (p_regs u) _ hw) (cwV 1 hts gX3_passTarget_X4_word rfl rfl rfl (by decide +kernel) ⟨Nat.le_of_ble_eq_true rfl, Nat.le_of_ble_eq_true rfl⟩) tru_h tru_b 4 rfl rfl rfl rfl rfl hl.1 (Nat.le_of_ble_eq_true rfl) dX3_passTarget_12 ⟨Nat.zero_le _, Nat.zero_le _⟩ (fun r2 u1 H locs hP hD hS hw => ?_)
  replace hP : va_P D vwCl (WP cB cI q0 q1 q2 q3 q4 q5 q6 q7 q8 q9 (ps_regs u u1)) H := hP
  replace hD : va_D A (WP cB cI q0 q1 q2 q3 q4 q5 q6 q7 q8 q9 (ps_regs u u1)) := hD
  refine lv_aload_n hx hb dX3_passTarget_15 rfl (lv_at hl 0 rfl) ?_
  refine cl_Vi (As := []) (rest := [.int r2, .int (7 : Int32), .ref q4]) (st := [.ref q0, .int r2, .int (7 : Int32), .ref q4]) S hK hA hP hD hS (fr_P (ps_regs u u1)) (kcX3_stringStride l D cB cI q0 q1 q2 q3 q4 q5 q6 q7 q8 q9 H.size  (ps_regs u u1) _ hw) (cwV 0 hts gX3_passTarget_X3_stringStride rfl rfl rfl (by decide +kernel) ⟨Nat.le_of_ble_eq_true rfl, Nat.le_of_ble_eq_true rfl⟩) tru_h tru_b 0 rfl rfl rfl rfl rfl hl.1 (Nat.le_of_ble_eq_true rfl) dX3_passTarget_16 ⟨Nat.zero_le _, Nat.zero_le _⟩ (fun r4 u3 H locs hP hD hS hw => ?_)
  replace hP : va_P D vwCl (WP cB cI q0 q1 q2 q3 q4 q5 q6 q7 q8 q9 u3) H := hP
  replace hD : va_D A (WP cB cI q0 q1 q2 q3 q4 q5 q6 q7 q8 q9 u3) := hD
  refine lv_iadd hx hb dX3_passTarget_19 ?_
  refine cl_Vv (As := [.int (7 : Int32), .int (r2 + r4)]) (rest := []) (st := [.int (r2 + r4), .int (7 : Int32), .ref q4]) S hK hA hP hD hS (fr_P_R u3) (kcX4_setWord l D cB cI q4 q5 q6 H.size (7 : Int32) (r2 + r4) (p_regs u3) _ hw) (cwV 2 hts gX3_passTarget_X4_setWord rfl rfl rfl (by decide +kernel) ⟨Nat.le_of_ble_eq_true rfl, Nat.le_of_ble_eq_true rfl⟩) tru_h tru_b 4 rfl rfl rfl rfl rfl hl.1 (Nat.le_of_ble_eq_true rfl) dX3_passTarget_20 ⟨Nat.zero_le _, Nat.zero_le _⟩ (fun u5 H locs hP hD hS hw => ?_)
  replace hP : va_P D vwCl (WP cB cI q0 q1 q2 q3 q4 q5 q6 q7 q8 q9 (ps_regs u3 u5)) H := hP
  replace hD : va_D A (WP cB cI q0 q1 q2 q3 q4 q5 q6 q7 q8 q9 (ps_regs u3 u5)) := hD
  exact rt_v (wo := (fun v => WP cB cI q0 q1 q2 q3 q4 q5 q6 q7 q8 q9 v)) S hr hlk (ps_regs u3 u5) hP hS hw dX3_passTarget_23
-- X3_stringOnce
def wX3_stringOnce_b212  (P : SP → Prop) (x1 : Int32) (x3 : Int32) (x5 : Int32) (u : SP) : Prop := (wX3_a x1 u (fun r47 u46 => (wX2_load x5 x3 x1 (p_mem u46) (fun r49 u48 => (wX0_compare r47 r49 x1 (p_flags u46) (fun u50 => (wX3_passTarget  (ps_flags (ps_mem u46 u48) u50) (fun u52 => (P u52)))))))))
def wX3_stringOnce  (u : SP) (P : SP → Prop) : Prop := (wX1_wide  (p_code u) (fun r2 u1 => (wX4_word (6 : Int32) (p_regs u) (fun r4 u3 => (wX4_word (7 : Int32) u3 (fun r6 u5 => (wX3_segmentFor (3 : Int32) (ps_code (ps_regs u u5) u1) (fun r8 u7 => (wX4_segment (0 : Int32) (p_regs u7) (fun r10 u9 => (((((c_number (p_code u7)) >>> ((1 : Int32) &&& 31)) &&& (7 : Int32)) = (2 : Int32) → (wX2_load r8 r4 r2 (p_mem u7) (fun r13 u12 => (wX2_store r10 r6 r13 r2 u12 (fun u14 => (wX3_passSource  (ps_regs (ps_mem u7 u14) u9) (fun u16 => (wX3_passTarget  u16 (fun u18 => (P u18)))))))))) ∧ (¬ (((c_number (p_code u7)) >>> ((1 : Int32) &&& 31)) &&& (7 : Int32)) = (2 : Int32) → (((((c_number (p_code u7)) >>> ((1 : Int32) &&& 31)) &&& (7 : Int32)) = (3 : Int32) → (wX2_load r8 r4 r2 (p_mem u7) (fun r22 u21 => (wX2_load r10 r6 r2 u21 (fun r24 u23 => (wX0_compare r22 r24 r2 (p_flags u7) (fun u25 => (wX3_passSource  (ps_flags (ps_regs (ps_mem u7 u23) u9) u25) (fun u27 => (wX3_passTarget  u27 (fun u29 => (P u29)))))))))))) ∧ (¬ (((c_number (p_code u7)) >>> ((1 : Int32) &&& 31)) &&& (7 : Int32)) = (3 : Int32) → (((((c_number (p_code u7)) >>> ((1 : Int32) &&& 31)) &&& (7 : Int32)) = (4 : Int32) → (wX3_stringOnce_b212  P r2 r6 r10 (ps_regs u7 u9))) ∧ (¬ (((c_number (p_code u7)) >>> ((1 : Int32) &&& 31)) &&& (7 : Int32)) = (4 : Int32) → (((((c_number (p_code u7)) >>> ((1 : Int32) &&& 31)) &&& (7 : Int32)) = (5 : Int32) → (wX3_a r2 (ps_regs u7 u9) (fun r34 u33 => (wX2_store r10 r6 r34 r2 (p_mem u33) (fun u35 => (wX3_passTarget  (ps_mem u33 u35) (fun u37 => (P u37)))))))) ∧ (¬ (((c_number (p_code u7)) >>> ((1 : Int32) &&& 31)) &&& (7 : Int32)) = (5 : Int32) → (((((c_number (p_code u7)) >>> ((1 : Int32) &&& 31)) &&& (7 : Int32)) = (6 : Int32) → (wX2_load r8 r4 r2 (p_mem u7) (fun r41 u40 => (wX3_giveA r41 r2 (ps_regs (ps_mem u7 u40) u9) (fun u42 => (wX3_passSource  u42 (fun u44 => (P u44)))))))) ∧ (¬ (((c_number (p_code u7)) >>> ((1 : Int32) &&& 31)) &&& (7 : Int32)) = (6 : Int32) → (wX3_stringOnce_b212  P r2 r6 r10 (ps_regs u7 u9))))))))))))))))))))))
set_option maxHeartbeats 4000000 in
set_option maxRecDepth 100000 in
theorem kcX3_stringOnce (l : Launch) (D : va_G) (cB cI : ClassId) (q0 q1 q2 q3 q4 q5 q6 q7 q8 q9 : Nat) (sz : Nat)  (u : SP) (P : SP → Prop) (hw : wX3_stringOnce  u P) : Met l yX3_stringOnce wsX3_stringOnce ({ frames := 4, cells := 0, slots := 0, locals := 95 } : Room) (va_Pc [.ref q0] (Pcw D (tyA cB cI) (WP cB cI q0 q1 q2 q3 q4 q5 q6 q7 q8 q9 u) sz Tru)) (va_Qv P (fun u t => va_P D vwCl (WP cB cI q0 q1 q2 q3 q4 q5 q6 q7 q8 q9 u) t.heap) (va_A (WP cB cI q0 q1 q2 q3 q4 q5 q6 q7 q8 q9 u) sz)) 0 0 (va_A (WP cB cI q0 q1 q2 q3 q4 q5 q6 q7 q8 q9 u) sz) := by
  refine en_ (cc := cX3_stringOnce) (maxL := 6) (ret := none) (own := RX3) (lv := [(0, .ref q0)]) (Qf := fun A => va_Qv P (fun u t => va_P D vwCl (WP cB cI q0 q1 q2 q3 q4 q5 q6 q7 q8 q9 u) t.heap) A) (by decide) rfl rfl (Nat.le_of_ble_eq_true rfl) rfl ?_
  intro p e s m below meth c A ls S hr hlk hname hsz hP hK hD hA hSub hS hE hl
  have hx := S.1
  have hb := S.2.1
  have hown := S.2.2.2.1
  have hts := S.2.2.2.2
  have i_X1 : ∀ w ∈ u_ws RX1 TX1 12, w ∈ wsX3_stringOnce := by decide +kernel
  have i_X3 : ∀ w ∈ u_ws RX3 TX3 8, w ∈ wsX3_stringOnce := by decide +kernel
  have f_12 := hts (.fieldLink RX3 12 "MachineCore$Processor" "memory" "LMachineCore$Memory;") (by decide +kernel)
  have f_21 := hts (.fieldLink RX3 21 "MachineCore$Processor" "registers" "LMachineCore$Registers;") (by decide +kernel)
  have f_28 := hts (.fieldLink RX3 28 "MachineCore$Processor" "arithmetic" "LMachineCore$Arithmetic;") (by decide +kernel)
  have f_35 := hts (.fieldLink RX3 35 "MachineCore$Processor" "code" "LMachineCore$Code;") (by decide +kernel)
  have f_47 := hts (.fieldLink RX3 47 "MachineCore$Code" "number" "I") (by decide +kernel)
  have b212 : ∀ (x1 : Int32) (x3 : Int32) (x5 : Int32) (u : SP) (H : Heap) (locs : List Loc) (ls : Array Slot), va_P D vwCl (WP cB cI q0 q1 q2 q3 q4 q5 q6 q7 q8 q9 u) H → va_D A (WP cB cI q0 q1 q2 q3 q4 q5 q6 q7 q8 q9 u) → va_S A s.heap H locs → lv_has ls 6 [(0, .ref q0), (1, .int x1), (3, .int x3), (5, .int x5)] → wX3_stringOnce_b212  P x1 x3 x5 u → W p l e ({ frames := 4, cells := 0, slots := 0, locals := 95 } : Room) s m ([.ref q0] : List Value).toArray below meth c H locs 0 0 (MQ below (va_Qv P (fun u t => va_P D vwCl (WP cB cI q0 q1 q2 q3 q4 q5 q6 q7 q8 q9 u) t.heap) A) ([.ref q0] : List Value).toArray s 0 0 A) (F0 m 212 ls []) := by
    intro x1 x3 x5 u H locs ls hP hD hS hl hw
    unfold wX3_stringOnce_b212 at hw
    refine lv_aload_n hx hb dX3_stringOnce_212 rfl (lv_at hl 0 rfl) ?_
    refine va_get (D := D) (ci := 3) (v := .ref q7) (C := RX3) (T := TX3) (N := 8) hx hb hts i_X3 hown hK hP 0 rfl rfl 2 (by decide) f_28 (fun _ h9 => h9) rfl dX3_stringOnce_213 ?_
    refine lv_aload_n hx hb dX3_stringOnce_216 rfl (lv_at hl 0 rfl) ?_
    refine lv_iload_n hx hb dX3_stringOnce_217 rfl (lv_at hl 1 rfl) ?_
    refine cl_Vi (As := [.int x1]) (rest := [.ref q7]) (st := [.int x1, .ref q0, .ref q7]) S hK hA hP hD hS (fr_P u) (kcX3_a l D cB cI q0 q1 q2 q3 q4 q5 q6 q7 q8 q9 H.size x1 u _ hw) (cwV 1 hts gX3_stringOnce_X3_a rfl rfl rfl (by decide +kernel) ⟨Nat.le_of_ble_eq_true rfl, Nat.le_of_ble_eq_true rfl⟩) tru_h tru_b 0 rfl rfl rfl rfl rfl hl.1 (Nat.le_of_ble_eq_true rfl) dX3_stringOnce_218 ⟨Nat.zero_le _, Nat.zero_le _⟩ (fun r47 u46 H locs hP hD hS hw => ?_)
    replace hP : va_P D vwCl (WP cB cI q0 q1 q2 q3 q4 q5 q6 q7 q8 q9 u46) H := hP
    replace hD : va_D A (WP cB cI q0 q1 q2 q3 q4 q5 q6 q7 q8 q9 u46) := hD
    refine lv_aload_n hx hb dX3_stringOnce_221 rfl (lv_at hl 0 rfl) ?_
    refine va_get (D := D) (ci := 3) (v := .ref q1) (C := RX3) (T := TX3) (N := 8) hx hb hts i_X3 hown hK hP 0 rfl rfl 0 (by decide) f_12 (fun _ h9 => h9) rfl dX3_stringOnce_222 ?_
    refine lv_iload hx hb dX3_stringOnce_225 (lv_at hl 3 rfl) ?_
    refine lv_iload_n hx hb dX3_stringOnce_227 rfl (lv_at hl 2 rfl) ?_
    refine lv_iload_n hx hb dX3_stringOnce_228 rfl (lv_at hl 1 rfl) ?_
    refine cl_Vi (As := [.int x5, .int x3, .int x1]) (rest := [.int r47, .ref q7]) (st := [.int x1, .int x3, .int x5, .ref q1, .int r47, .ref q7]) S hK hA hP hD hS (fr_P_M u46) (kcX2_load l D cB cI q1 q2 q3 H.size x5 x3 x1 (p_mem u46) _ hw) (cwV 3 hts gX3_stringOnce_X2_load rfl rfl rfl (by decide +kernel) ⟨Nat.le_of_ble_eq_true rfl, Nat.le_of_ble_eq_true rfl⟩) tru_h tru_b 1 rfl rfl rfl rfl rfl hl.1 (Nat.le_of_ble_eq_true rfl) dX3_stringOnce_229 ⟨Nat.zero_le _, Nat.zero_le _⟩ (fun r49 u48 H locs hP hD hS hw => ?_)
    replace hP : va_P D vwCl (WP cB cI q0 q1 q2 q3 q4 q5 q6 q7 q8 q9 (ps_mem u46 u48)) H := hP
    replace hD : va_D A (WP cB cI q0 q1 q2 q3 q4 q5 q6 q7 q8 q9 (ps_mem u46 u48)) := hD
    refine lv_iload_n hx hb dX3_stringOnce_232 rfl (lv_at hl 1 rfl) ?_
    refine cl_Vv (As := [.int r47, .int r49, .int x1]) (rest := []) (st := [.int x1, .int r49, .int r47, .ref q7]) S hK hA hP hD hS (fr_P_A (ps_mem u46 u48)) (kcX0_compare l D cB cI q7 H.size r47 r49 x1 (p_flags u46) _ hw) (cwV 3 hts gX3_stringOnce_X0_compare rfl rfl rfl (by decide +kernel) ⟨Nat.le_of_ble_eq_true rfl, Nat.le_of_ble_eq_true rfl⟩) tru_h tru_b 7 rfl rfl rfl rfl rfl hl.1 (Nat.le_of_ble_eq_true rfl) dX3_stringOnce_233 ⟨Nat.zero_le _, Nat.zero_le _⟩ (fun u50 H locs hP hD hS hw => ?_)
    replace hP : va_P D vwCl (WP cB cI q0 q1 q2 q3 q4 q5 q6 q7 q8 q9 (ps_flags (ps_mem u46 u48) u50)) H := hP
    replace hD : va_D A (WP cB cI q0 q1 q2 q3 q4 q5 q6 q7 q8 q9 (ps_flags (ps_mem u46 u48) u50)) := hD
    refine lv_aload_n hx hb dX3_stringOnce_236 rfl (lv_at hl 0 rfl) ?_
    refine cl_Vv (As := []) (rest := []) (st := [.ref q0]) S hK hA hP hD hS (fr_P (ps_flags (ps_mem u46 u48) u50)) (kcX3_passTarget l D cB cI q0 q1 q2 q3 q4 q5 q6 q7 q8 q9 H.size  (ps_flags (ps_mem u46 u48) u50) _ hw) (cwV 0 hts gX3_stringOnce_X3_passTarget rfl rfl rfl (by decide +kernel) ⟨Nat.le_of_ble_eq_true rfl, Nat.le_of_ble_eq_true rfl⟩) tru_h tru_b 0 rfl rfl rfl rfl rfl hl.1 (Nat.le_of_ble_eq_true rfl) dX3_stringOnce_237 ⟨Nat.zero_le _, Nat.zero_le _⟩ (fun u52 H locs hP hD hS hw => ?_)
    replace hP : va_P D vwCl (WP cB cI q0 q1 q2 q3 q4 q5 q6 q7 q8 q9 u52) H := hP
    replace hD : va_D A (WP cB cI q0 q1 q2 q3 q4 q5 q6 q7 q8 q9 u52) := hD
    exact rt_v (wo := (fun v => WP cB cI q0 q1 q2 q3 q4 q5 q6 q7 q8 q9 v)) S hr hlk u52 hP hS hw dX3_stringOnce_240
  unfold wX3_stringOnce at hw
  obtain ⟨H, eH⟩ : ∃ H, H = s.heap := ⟨_, rfl⟩
  obtain ⟨locs, eL⟩ : ∃ locs : List Loc, locs = [] := ⟨_, rfl⟩
  replace hP : va_P D vwCl (WP cB cI q0 q1 q2 q3 q4 q5 q6 q7 q8 q9 u) H := by rw [eH]; exact hP
  replace hS : va_S A s.heap H locs := by rw [eH, eL]; exact hS
  suffices hgo : W p l e ({ frames := 4, cells := 0, slots := 0, locals := 95 } : Room) s m ([.ref q0] : List Value).toArray below meth c H locs 0 0 (MQ below (va_Qv P (fun u t => va_P D vwCl (WP cB cI q0 q1 q2 q3 q4 q5 q6 q7 q8 q9 u) t.heap) A) ([.ref q0] : List Value).toArray s 0 0 A) (F0 m 0 ls []) by rw [eH, eL] at hgo; exact hgo
  clear eH eL
  refine lv_aload_n hx hb dX3_stringOnce_0 rfl (lv_at hl 0 rfl) ?_
  refine va_get (D := D) (ci := 3) (v := .ref q8) (C := RX3) (T := TX3) (N := 8) hx hb hts i_X3 hown hK hP 0 rfl rfl 3 (by decide) f_35 (fun _ h9 => h9) rfl dX3_stringOnce_1 ?_
  refine cl_Vi (As := []) (rest := []) (st := [.ref q8]) S hK hA hP hD hS (fr_P_C u) (kcX1_wide l D cB cI q8 H.size  (p_code u) _ hw) (cwV 0 hts gX3_stringOnce_X1_wide rfl rfl rfl (by decide +kernel) ⟨Nat.le_of_ble_eq_true rfl, Nat.le_of_ble_eq_true rfl⟩) tru_h tru_b 8 rfl rfl rfl rfl rfl hl.1 (Nat.le_of_ble_eq_true rfl) dX3_stringOnce_4 ⟨Nat.zero_le _, Nat.zero_le _⟩ (fun r2 u1 H locs hP hD hS hw => ?_)
  replace hP : va_P D vwCl (WP cB cI q0 q1 q2 q3 q4 q5 q6 q7 q8 q9 (ps_code u u1)) H := hP
  replace hD : va_D A (WP cB cI q0 q1 q2 q3 q4 q5 q6 q7 q8 q9 (ps_code u u1)) := hD
  refine lv_istore_n (lv' := [(1, .int r2), (0, .ref q0)]) hx hb dX3_stringOnce_7 rfl hl (by decide) rfl (fun ls hl => ?_)
  refine lv_aload_n hx hb dX3_stringOnce_8 rfl (lv_at hl 1 rfl) ?_
  refine va_get (D := D) (ci := 3) (v := .ref q4) (C := RX3) (T := TX3) (N := 8) hx hb hts i_X3 hown hK hP 0 rfl rfl 1 (by decide) f_21 (fun _ h9 => h9) rfl dX3_stringOnce_9 ?_
  refine lv_bipush (v := (6 : Int32)) hx hb dX3_stringOnce_12 (by decide) ?_
  refine cl_Vi (As := [.int (6 : Int32)]) (rest := []) (st := [.int (6 : Int32), .ref q4]) S hK hA hP hD hS (fr_P_R (ps_code u u1)) (kcX4_word l D cB cI q4 q5 q6 H.size (6 : Int32) (p_regs u) _ hw) (cwV 1 hts gX3_stringOnce_X4_word rfl rfl rfl (by decide +kernel) ⟨Nat.le_of_ble_eq_true rfl, Nat.le_of_ble_eq_true rfl⟩) tru_h tru_b 4 rfl rfl rfl rfl rfl hl.1 (Nat.le_of_ble_eq_true rfl) dX3_stringOnce_14 ⟨Nat.zero_le _, Nat.zero_le _⟩ (fun r4 u3 H locs hP hD hS hw => ?_)
  replace hP : va_P D vwCl (WP cB cI q0 q1 q2 q3 q4 q5 q6 q7 q8 q9 (ps_code (ps_regs u u3) u1)) H := hP
  replace hD : va_D A (WP cB cI q0 q1 q2 q3 q4 q5 q6 q7 q8 q9 (ps_code (ps_regs u u3) u1)) := hD
  refine lv_istore_n (lv' := [(2, .int r4), (1, .int r2), (0, .ref q0)]) hx hb dX3_stringOnce_17 rfl hl (by decide) rfl (fun ls hl => ?_)
  refine lv_aload_n hx hb dX3_stringOnce_18 rfl (lv_at hl 2 rfl) ?_
  refine va_get (D := D) (ci := 3) (v := .ref q4) (C := RX3) (T := TX3) (N := 8) hx hb hts i_X3 hown hK hP 0 rfl rfl 1 (by decide) f_21 (fun _ h9 => h9) rfl dX3_stringOnce_19 ?_
  refine lv_bipush (v := (7 : Int32)) hx hb dX3_stringOnce_22 (by decide) ?_
  refine cl_Vi (As := [.int (7 : Int32)]) (rest := []) (st := [.int (7 : Int32), .ref q4]) S hK hA hP hD hS (fr_P_R (ps_code (ps_regs u u3) u1)) (kcX4_word l D cB cI q4 q5 q6 H.size (7 : Int32) u3 _ hw) (cwV 1 hts gX3_stringOnce_X4_word rfl rfl rfl (by decide +kernel) ⟨Nat.le_of_ble_eq_true rfl, Nat.le_of_ble_eq_true rfl⟩) tru_h tru_b 4 rfl rfl rfl rfl rfl hl.1 (Nat.le_of_ble_eq_true rfl) dX3_stringOnce_24 ⟨Nat.zero_le _, Nat.zero_le _⟩ (fun r6 u5 H locs hP hD hS hw => ?_)
  replace hP : va_P D vwCl (WP cB cI q0 q1 q2 q3 q4 q5 q6 q7 q8 q9 (ps_code (ps_regs u u5) u1)) H := hP
  replace hD : va_D A (WP cB cI q0 q1 q2 q3 q4 q5 q6 q7 q8 q9 (ps_code (ps_regs u u5) u1)) := hD
  refine lv_istore_n (lv' := [(3, .int r6), (2, .int r4), (1, .int r2), (0, .ref q0)]) hx hb dX3_stringOnce_27 rfl hl (by decide) rfl (fun ls hl => ?_)
  refine lv_aload_n hx hb dX3_stringOnce_28 rfl (lv_at hl 3 rfl) ?_
  refine lv_iconst (v := (3 : Int32)) hx hb dX3_stringOnce_29 (by decide) ?_
  refine cl_Vi (As := [.int (3 : Int32)]) (rest := []) (st := [.int (3 : Int32), .ref q0]) S hK hA hP hD hS (fr_P (ps_code (ps_regs u u5) u1)) (kcX3_segmentFor l D cB cI q0 q1 q2 q3 q4 q5 q6 q7 q8 q9 H.size (3 : Int32) (ps_code (ps_regs u u5) u1) _ hw) (cwV 1 hts gX3_stringOnce_X3_segmentFor rfl rfl rfl (by decide +kernel) ⟨Nat.le_of_ble_eq_true rfl, Nat.le_of_ble_eq_true rfl⟩) tru_h tru_b 0 rfl rfl rfl rfl rfl hl.1 (Nat.le_of_ble_eq_true rfl) dX3_stringOnce_30 ⟨Nat.zero_le _, Nat.zero_le _⟩ (fun r8 u7 H locs hP hD hS hw => ?_)
  replace hP : va_P D vwCl (WP cB cI q0 q1 q2 q3 q4 q5 q6 q7 q8 q9 u7) H := hP
  replace hD : va_D A (WP cB cI q0 q1 q2 q3 q4 q5 q6 q7 q8 q9 u7) := hD
  refine lv_istore (lv' := [(4, .int r8), (3, .int r6), (2, .int r4), (1, .int r2), (0, .ref q0)]) hx hb dX3_stringOnce_33 hl (by decide) rfl (fun ls hl => ?_)
  refine lv_aload_n hx hb dX3_stringOnce_35 rfl (lv_at hl 4 rfl) ?_
  refine va_get (D := D) (ci := 3) (v := .ref q4) (C := RX3) (T := TX3) (N := 8) hx hb hts i_X3 hown hK hP 0 rfl rfl 1 (by decide) f_21 (fun _ h9 => h9) rfl dX3_stringOnce_36 ?_
  refine lv_iconst (v := (0 : Int32)) hx hb dX3_stringOnce_39 (by decide) ?_
  refine cl_Vi (As := [.int (0 : Int32)]) (rest := []) (st := [.int (0 : Int32), .ref q4]) S hK hA hP hD hS (fr_P_R u7) (kcX4_segment l D cB cI q4 q5 q6 H.size (0 : Int32) (p_regs u7) _ hw) (cwV 1 hts gX3_stringOnce_X4_segment rfl rfl rfl (by decide +kernel) ⟨Nat.le_of_ble_eq_true rfl, Nat.le_of_ble_eq_true rfl⟩) tru_h tru_b 4 rfl rfl rfl rfl rfl hl.1 (Nat.le_of_ble_eq_true rfl) dX3_stringOnce_40 ⟨Nat.zero_le _, Nat.zero_le _⟩ (fun r10 u9 H locs hP hD hS hw => ?_)
  replace hP : va_P D vwCl (WP cB cI q0 q1 q2 q3 q4 q5 q6 q7 q8 q9 (ps_regs u7 u9)) H := hP
  replace hD : va_D A (WP cB cI q0 q1 q2 q3 q4 q5 q6 q7 q8 q9 (ps_regs u7 u9)) := hD
  refine lv_istore (lv' := [(5, .int r10), (4, .int r8), (3, .int r6), (2, .int r4), (1, .int r2), (0, .ref q0)]) hx hb dX3_stringOnce_43 hl (by decide) rfl (fun ls hl => ?_)
  refine lv_aload_n hx hb dX3_stringOnce_45 rfl (lv_at hl 5 rfl) ?_
  refine va_get (D := D) (ci := 3) (v := .ref q8) (C := RX3) (T := TX3) (N := 8) hx hb hts i_X3 hown hK hP 0 rfl rfl 3 (by decide) f_35 (fun _ h9 => h9) rfl dX3_stringOnce_46 ?_
  refine va_get (D := D) (ci := 1) (v := .int (c_number (p_code u7))) (C := RX1) (T := TX1) (N := 12) hx hb hts i_X1 hown hK hP 8 rfl rfl 1 (by decide) f_47 (fun _ h9 => h9) rfl dX3_stringOnce_49 ?_
  refine lv_iconst (v := (1 : Int32)) hx hb dX3_stringOnce_52 (by decide) ?_
  refine lv_ishr hx hb dX3_stringOnce_53 ?_
  refine lv_bipush (v := (7 : Int32)) hx hb dX3_stringOnce_54 (by decide) ?_
  refine lv_iand hx hb dX3_stringOnce_56 ?_
  by_cases c11 : (((c_number (p_code u7)) >>> ((1 : Int32) &&& 31)) &&& (7 : Int32)) = (2 : Int32)
  · replace hw := hw.1 c11
    refine lv_tableIn (off := 35) (tgt := 92) hx hb dX3_stringOnce_57 (by rw [c11]; decide) (by rw [c11]; decide) (by rw [c11]; rfl) (by decide) ?_
    refine lv_aload_n hx hb dX3_stringOnce_92 rfl (lv_at hl 5 rfl) ?_
    refine va_get (D := D) (ci := 3) (v := .ref q1) (C := RX3) (T := TX3) (N := 8) hx hb hts i_X3 hown hK hP 0 rfl rfl 0 (by decide) f_12 (fun _ h9 => h9) rfl dX3_stringOnce_93 ?_
    refine lv_iload hx hb dX3_stringOnce_96 (lv_at hl 0 rfl) ?_
    refine lv_iload_n hx hb dX3_stringOnce_98 rfl (lv_at hl 2 rfl) ?_
    refine lv_aload_n hx hb dX3_stringOnce_99 rfl (lv_at hl 5 rfl) ?_
    refine va_get (D := D) (ci := 3) (v := .ref q1) (C := RX3) (T := TX3) (N := 8) hx hb hts i_X3 hown hK hP 0 rfl rfl 0 (by decide) f_12 (fun _ h9 => h9) rfl dX3_stringOnce_100 ?_
    refine lv_iload hx hb dX3_stringOnce_103 (lv_at hl 1 rfl) ?_
    refine lv_iload_n hx hb dX3_stringOnce_105 rfl (lv_at hl 3 rfl) ?_
    refine lv_iload_n hx hb dX3_stringOnce_106 rfl (lv_at hl 4 rfl) ?_
    refine cl_Vi (As := [.int r8, .int r4, .int r2]) (rest := [.int r6, .int r10, .ref q1]) (st := [.int r2, .int r4, .int r8, .ref q1, .int r6, .int r10, .ref q1]) S hK hA hP hD hS (fr_P_M (ps_regs u7 u9)) (kcX2_load l D cB cI q1 q2 q3 H.size r8 r4 r2 (p_mem u7) _ hw) (cwV 3 hts gX3_stringOnce_X2_load rfl rfl rfl (by decide +kernel) ⟨Nat.le_of_ble_eq_true rfl, Nat.le_of_ble_eq_true rfl⟩) tru_h tru_b 1 rfl rfl rfl rfl rfl hl.1 (Nat.le_of_ble_eq_true rfl) dX3_stringOnce_107 ⟨Nat.zero_le _, Nat.zero_le _⟩ (fun r13 u12 H locs hP hD hS hw => ?_)
    replace hP : va_P D vwCl (WP cB cI q0 q1 q2 q3 q4 q5 q6 q7 q8 q9 (ps_regs (ps_mem u7 u12) u9)) H := hP
    replace hD : va_D A (WP cB cI q0 q1 q2 q3 q4 q5 q6 q7 q8 q9 (ps_regs (ps_mem u7 u12) u9)) := hD
    refine lv_iload_n hx hb dX3_stringOnce_110 rfl (lv_at hl 4 rfl) ?_
    refine cl_Vv (As := [.int r10, .int r6, .int r13, .int r2]) (rest := []) (st := [.int r2, .int r13, .int r6, .int r10, .ref q1]) S hK hA hP hD hS (fr_P_M (ps_regs (ps_mem u7 u12) u9)) (kcX2_store l D cB cI q1 q2 q3 H.size r10 r6 r13 r2 u12 _ hw) (cwV 4 hts gX3_stringOnce_X2_store rfl rfl rfl (by decide +kernel) ⟨Nat.le_of_ble_eq_true rfl, Nat.le_of_ble_eq_true rfl⟩) tru_h tru_b 1 rfl rfl rfl rfl rfl hl.1 (Nat.le_of_ble_eq_true rfl) dX3_stringOnce_111 ⟨Nat.zero_le _, Nat.zero_le _⟩ (fun u14 H locs hP hD hS hw => ?_)
    replace hP : va_P D vwCl (WP cB cI q0 q1 q2 q3 q4 q5 q6 q7 q8 q9 (ps_regs (ps_mem u7 u14) u9)) H := hP
    replace hD : va_D A (WP cB cI q0 q1 q2 q3 q4 q5 q6 q7 q8 q9 (ps_regs (ps_mem u7 u14) u9)) := hD
    refine lv_aload_n hx hb dX3_stringOnce_114 rfl (lv_at hl 5 rfl) ?_
    refine cl_Vv (As := []) (rest := []) (st := [.ref q0]) S hK hA hP hD hS (fr_P (ps_regs (ps_mem u7 u14) u9)) (kcX3_passSource l D cB cI q0 q1 q2 q3 q4 q5 q6 q7 q8 q9 H.size  (ps_regs (ps_mem u7 u14) u9) _ hw) (cwV 0 hts gX3_stringOnce_X3_passSource rfl rfl rfl (by decide +kernel) ⟨Nat.le_of_ble_eq_true rfl, Nat.le_of_ble_eq_true rfl⟩) tru_h tru_b 0 rfl rfl rfl rfl rfl hl.1 (Nat.le_of_ble_eq_true rfl) dX3_stringOnce_115 ⟨Nat.zero_le _, Nat.zero_le _⟩ (fun u16 H locs hP hD hS hw => ?_)
    replace hP : va_P D vwCl (WP cB cI q0 q1 q2 q3 q4 q5 q6 q7 q8 q9 u16) H := hP
    replace hD : va_D A (WP cB cI q0 q1 q2 q3 q4 q5 q6 q7 q8 q9 u16) := hD
    refine lv_aload_n hx hb dX3_stringOnce_118 rfl (lv_at hl 5 rfl) ?_
    refine cl_Vv (As := []) (rest := []) (st := [.ref q0]) S hK hA hP hD hS (fr_P u16) (kcX3_passTarget l D cB cI q0 q1 q2 q3 q4 q5 q6 q7 q8 q9 H.size  u16 _ hw) (cwV 0 hts gX3_stringOnce_X3_passTarget rfl rfl rfl (by decide +kernel) ⟨Nat.le_of_ble_eq_true rfl, Nat.le_of_ble_eq_true rfl⟩) tru_h tru_b 0 rfl rfl rfl rfl rfl hl.1 (Nat.le_of_ble_eq_true rfl) dX3_stringOnce_119 ⟨Nat.zero_le _, Nat.zero_le _⟩ (fun u18 H locs hP hD hS hw => ?_)
    replace hP : va_P D vwCl (WP cB cI q0 q1 q2 q3 q4 q5 q6 q7 q8 q9 u18) H := hP
    replace hD : va_D A (WP cB cI q0 q1 q2 q3 q4 q5 q6 q7 q8 q9 u18) := hD
    refine lv_goto (tgt := 240) hx hb dX3_stringOnce_122 (by decide) ?_
    exact rt_v (wo := (fun v => WP cB cI q0 q1 q2 q3 q4 q5 q6 q7 q8 q9 v)) S hr hlk u18 hP hS hw dX3_stringOnce_240
  replace hw := hw.2 c11
  by_cases c20 : (((c_number (p_code u7)) >>> ((1 : Int32) &&& 31)) &&& (7 : Int32)) = (3 : Int32)
  · replace hw := hw.1 c20
    refine lv_tableIn (off := 68) (tgt := 125) hx hb dX3_stringOnce_57 (by rw [c20]; decide) (by rw [c20]; decide) (by rw [c20]; rfl) (by decide) ?_
    refine lv_aload_n hx hb dX3_stringOnce_125 rfl (lv_at hl 5 rfl) ?_
    refine va_get (D := D) (ci := 3) (v := .ref q7) (C := RX3) (T := TX3) (N := 8) hx hb hts i_X3 hown hK hP 0 rfl rfl 2 (by decide) f_28 (fun _ h9 => h9) rfl dX3_stringOnce_126 ?_
    refine lv_aload_n hx hb dX3_stringOnce_129 rfl (lv_at hl 5 rfl) ?_
    refine va_get (D := D) (ci := 3) (v := .ref q1) (C := RX3) (T := TX3) (N := 8) hx hb hts i_X3 hown hK hP 0 rfl rfl 0 (by decide) f_12 (fun _ h9 => h9) rfl dX3_stringOnce_130 ?_
    refine lv_iload hx hb dX3_stringOnce_133 (lv_at hl 1 rfl) ?_
    refine lv_iload_n hx hb dX3_stringOnce_135 rfl (lv_at hl 3 rfl) ?_
    refine lv_iload_n hx hb dX3_stringOnce_136 rfl (lv_at hl 4 rfl) ?_
    refine cl_Vi (As := [.int r8, .int r4, .int r2]) (rest := [.ref q7]) (st := [.int r2, .int r4, .int r8, .ref q1, .ref q7]) S hK hA hP hD hS (fr_P_M (ps_regs u7 u9)) (kcX2_load l D cB cI q1 q2 q3 H.size r8 r4 r2 (p_mem u7) _ hw) (cwV 3 hts gX3_stringOnce_X2_load rfl rfl rfl (by decide +kernel) ⟨Nat.le_of_ble_eq_true rfl, Nat.le_of_ble_eq_true rfl⟩) tru_h tru_b 1 rfl rfl rfl rfl rfl hl.1 (Nat.le_of_ble_eq_true rfl) dX3_stringOnce_137 ⟨Nat.zero_le _, Nat.zero_le _⟩ (fun r22 u21 H locs hP hD hS hw => ?_)
    replace hP : va_P D vwCl (WP cB cI q0 q1 q2 q3 q4 q5 q6 q7 q8 q9 (ps_regs (ps_mem u7 u21) u9)) H := hP
    replace hD : va_D A (WP cB cI q0 q1 q2 q3 q4 q5 q6 q7 q8 q9 (ps_regs (ps_mem u7 u21) u9)) := hD
    refine lv_aload_n hx hb dX3_stringOnce_140 rfl (lv_at hl 5 rfl) ?_
    refine va_get (D := D) (ci := 3) (v := .ref q1) (C := RX3) (T := TX3) (N := 8) hx hb hts i_X3 hown hK hP 0 rfl rfl 0 (by decide) f_12 (fun _ h9 => h9) rfl dX3_stringOnce_141 ?_
    refine lv_iload hx hb dX3_stringOnce_144 (lv_at hl 0 rfl) ?_
    refine lv_iload_n hx hb dX3_stringOnce_146 rfl (lv_at hl 2 rfl) ?_
    refine lv_iload_n hx hb dX3_stringOnce_147 rfl (lv_at hl 4 rfl) ?_
    refine cl_Vi (As := [.int r10, .int r6, .int r2]) (rest := [.int r22, .ref q7]) (st := [.int r2, .int r6, .int r10, .ref q1, .int r22, .ref q7]) S hK hA hP hD hS (fr_P_M (ps_regs (ps_mem u7 u21) u9)) (kcX2_load l D cB cI q1 q2 q3 H.size r10 r6 r2 u21 _ hw) (cwV 3 hts gX3_stringOnce_X2_load rfl rfl rfl (by decide +kernel) ⟨Nat.le_of_ble_eq_true rfl, Nat.le_of_ble_eq_true rfl⟩) tru_h tru_b 1 rfl rfl rfl rfl rfl hl.1 (Nat.le_of_ble_eq_true rfl) dX3_stringOnce_148 ⟨Nat.zero_le _, Nat.zero_le _⟩ (fun r24 u23 H locs hP hD hS hw => ?_)
    replace hP : va_P D vwCl (WP cB cI q0 q1 q2 q3 q4 q5 q6 q7 q8 q9 (ps_regs (ps_mem u7 u23) u9)) H := hP
    replace hD : va_D A (WP cB cI q0 q1 q2 q3 q4 q5 q6 q7 q8 q9 (ps_regs (ps_mem u7 u23) u9)) := hD
    refine lv_iload_n hx hb dX3_stringOnce_151 rfl (lv_at hl 4 rfl) ?_
    refine cl_Vv (As := [.int r22, .int r24, .int r2]) (rest := []) (st := [.int r2, .int r24, .int r22, .ref q7]) S hK hA hP hD hS (fr_P_A (ps_regs (ps_mem u7 u23) u9)) (kcX0_compare l D cB cI q7 H.size r22 r24 r2 (p_flags u7) _ hw) (cwV 3 hts gX3_stringOnce_X0_compare rfl rfl rfl (by decide +kernel) ⟨Nat.le_of_ble_eq_true rfl, Nat.le_of_ble_eq_true rfl⟩) tru_h tru_b 7 rfl rfl rfl rfl rfl hl.1 (Nat.le_of_ble_eq_true rfl) dX3_stringOnce_152 ⟨Nat.zero_le _, Nat.zero_le _⟩ (fun u25 H locs hP hD hS hw => ?_)
    replace hP : va_P D vwCl (WP cB cI q0 q1 q2 q3 q4 q5 q6 q7 q8 q9 (ps_flags (ps_regs (ps_mem u7 u23) u9) u25)) H := hP
    replace hD : va_D A (WP cB cI q0 q1 q2 q3 q4 q5 q6 q7 q8 q9 (ps_flags (ps_regs (ps_mem u7 u23) u9) u25)) := hD
    refine lv_aload_n hx hb dX3_stringOnce_155 rfl (lv_at hl 5 rfl) ?_
    refine cl_Vv (As := []) (rest := []) (st := [.ref q0]) S hK hA hP hD hS (fr_P (ps_flags (ps_regs (ps_mem u7 u23) u9) u25)) (kcX3_passSource l D cB cI q0 q1 q2 q3 q4 q5 q6 q7 q8 q9 H.size  (ps_flags (ps_regs (ps_mem u7 u23) u9) u25) _ hw) (cwV 0 hts gX3_stringOnce_X3_passSource rfl rfl rfl (by decide +kernel) ⟨Nat.le_of_ble_eq_true rfl, Nat.le_of_ble_eq_true rfl⟩) tru_h tru_b 0 rfl rfl rfl rfl rfl hl.1 (Nat.le_of_ble_eq_true rfl) dX3_stringOnce_156 ⟨Nat.zero_le _, Nat.zero_le _⟩ (fun u27 H locs hP hD hS hw => ?_)
    replace hP : va_P D vwCl (WP cB cI q0 q1 q2 q3 q4 q5 q6 q7 q8 q9 u27) H := hP
    replace hD : va_D A (WP cB cI q0 q1 q2 q3 q4 q5 q6 q7 q8 q9 u27) := hD
    refine lv_aload_n hx hb dX3_stringOnce_159 rfl (lv_at hl 5 rfl) ?_
    refine cl_Vv (As := []) (rest := []) (st := [.ref q0]) S hK hA hP hD hS (fr_P u27) (kcX3_passTarget l D cB cI q0 q1 q2 q3 q4 q5 q6 q7 q8 q9 H.size  u27 _ hw) (cwV 0 hts gX3_stringOnce_X3_passTarget rfl rfl rfl (by decide +kernel) ⟨Nat.le_of_ble_eq_true rfl, Nat.le_of_ble_eq_true rfl⟩) tru_h tru_b 0 rfl rfl rfl rfl rfl hl.1 (Nat.le_of_ble_eq_true rfl) dX3_stringOnce_160 ⟨Nat.zero_le _, Nat.zero_le _⟩ (fun u29 H locs hP hD hS hw => ?_)
    replace hP : va_P D vwCl (WP cB cI q0 q1 q2 q3 q4 q5 q6 q7 q8 q9 u29) H := hP
    replace hD : va_D A (WP cB cI q0 q1 q2 q3 q4 q5 q6 q7 q8 q9 u29) := hD
    refine lv_goto (tgt := 240) hx hb dX3_stringOnce_163 (by decide) ?_
    exact rt_v (wo := (fun v => WP cB cI q0 q1 q2 q3 q4 q5 q6 q7 q8 q9 v)) S hr hlk u29 hP hS hw dX3_stringOnce_240
  replace hw := hw.2 c20
  by_cases c31 : (((c_number (p_code u7)) >>> ((1 : Int32) &&& 31)) &&& (7 : Int32)) = (4 : Int32)
  · replace hw := hw.1 c31
    refine lv_tableIn (off := 155) (tgt := 212) hx hb dX3_stringOnce_57 (by rw [c31]; decide) (by rw [c31]; decide) (by rw [c31]; rfl) (by decide) ?_
    exact b212 r2 r6 r10 (ps_regs u7 u9) H locs ls hP hD hS (lv_sub hl [5, 4, 2, 0] rfl) hw
  replace hw := hw.2 c31
  by_cases c32 : (((c_number (p_code u7)) >>> ((1 : Int32) &&& 31)) &&& (7 : Int32)) = (5 : Int32)
  · replace hw := hw.1 c32
    refine lv_tableIn (off := 109) (tgt := 166) hx hb dX3_stringOnce_57 (by rw [c32]; decide) (by rw [c32]; decide) (by rw [c32]; rfl) (by decide) ?_
    refine lv_aload_n hx hb dX3_stringOnce_166 rfl (lv_at hl 5 rfl) ?_
    refine va_get (D := D) (ci := 3) (v := .ref q1) (C := RX3) (T := TX3) (N := 8) hx hb hts i_X3 hown hK hP 0 rfl rfl 0 (by decide) f_12 (fun _ h9 => h9) rfl dX3_stringOnce_167 ?_
    refine lv_iload hx hb dX3_stringOnce_170 (lv_at hl 0 rfl) ?_
    refine lv_iload_n hx hb dX3_stringOnce_172 rfl (lv_at hl 2 rfl) ?_
    refine lv_aload_n hx hb dX3_stringOnce_173 rfl (lv_at hl 5 rfl) ?_
    refine lv_iload_n hx hb dX3_stringOnce_174 rfl (lv_at hl 4 rfl) ?_
    refine cl_Vi (As := [.int r2]) (rest := [.int r6, .int r10, .ref q1]) (st := [.int r2, .ref q0, .int r6, .int r10, .ref q1]) S hK hA hP hD hS (fr_P (ps_regs u7 u9)) (kcX3_a l D cB cI q0 q1 q2 q3 q4 q5 q6 q7 q8 q9 H.size r2 (ps_regs u7 u9) _ hw) (cwV 1 hts gX3_stringOnce_X3_a rfl rfl rfl (by decide +kernel) ⟨Nat.le_of_ble_eq_true rfl, Nat.le_of_ble_eq_true rfl⟩) tru_h tru_b 0 rfl rfl rfl rfl rfl hl.1 (Nat.le_of_ble_eq_true rfl) dX3_stringOnce_175 ⟨Nat.zero_le _, Nat.zero_le _⟩ (fun r34 u33 H locs hP hD hS hw => ?_)
    replace hP : va_P D vwCl (WP cB cI q0 q1 q2 q3 q4 q5 q6 q7 q8 q9 u33) H := hP
    replace hD : va_D A (WP cB cI q0 q1 q2 q3 q4 q5 q6 q7 q8 q9 u33) := hD
    refine lv_iload_n hx hb dX3_stringOnce_178 rfl (lv_at hl 4 rfl) ?_
    refine cl_Vv (As := [.int r10, .int r6, .int r34, .int r2]) (rest := []) (st := [.int r2, .int r34, .int r6, .int r10, .ref q1]) S hK hA hP hD hS (fr_P_M u33) (kcX2_store l D cB cI q1 q2 q3 H.size r10 r6 r34 r2 (p_mem u33) _ hw) (cwV 4 hts gX3_stringOnce_X2_store rfl rfl rfl (by decide +kernel) ⟨Nat.le_of_ble_eq_true rfl, Nat.le_of_ble_eq_true rfl⟩) tru_h tru_b 1 rfl rfl rfl rfl rfl hl.1 (Nat.le_of_ble_eq_true rfl) dX3_stringOnce_179 ⟨Nat.zero_le _, Nat.zero_le _⟩ (fun u35 H locs hP hD hS hw => ?_)
    replace hP : va_P D vwCl (WP cB cI q0 q1 q2 q3 q4 q5 q6 q7 q8 q9 (ps_mem u33 u35)) H := hP
    replace hD : va_D A (WP cB cI q0 q1 q2 q3 q4 q5 q6 q7 q8 q9 (ps_mem u33 u35)) := hD
    refine lv_aload_n hx hb dX3_stringOnce_182 rfl (lv_at hl 5 rfl) ?_
    refine cl_Vv (As := []) (rest := []) (st := [.ref q0]) S hK hA hP hD hS (fr_P (ps_mem u33 u35)) (kcX3_passTarget l D cB cI q0 q1 q2 q3 q4 q5 q6 q7 q8 q9 H.size  (ps_mem u33 u35) _ hw) (cwV 0 hts gX3_stringOnce_X3_passTarget rfl rfl rfl (by decide +kernel) ⟨Nat.le_of_ble_eq_true rfl, Nat.le_of_ble_eq_true rfl⟩) tru_h tru_b 0 rfl rfl rfl rfl rfl hl.1 (Nat.le_of_ble_eq_true rfl) dX3_stringOnce_183 ⟨Nat.zero_le _, Nat.zero_le _⟩ (fun u37 H locs hP hD hS hw => ?_)
    replace hP : va_P D vwCl (WP cB cI q0 q1 q2 q3 q4 q5 q6 q7 q8 q9 u37) H := hP
    replace hD : va_D A (WP cB cI q0 q1 q2 q3 q4 q5 q6 q7 q8 q9 u37) := hD
    refine lv_goto (tgt := 240) hx hb dX3_stringOnce_186 (by decide) ?_
    exact rt_v (wo := (fun v => WP cB cI q0 q1 q2 q3 q4 q5 q6 q7 q8 q9 v)) S hr hlk u37 hP hS hw dX3_stringOnce_240
  replace hw := hw.2 c32
  by_cases c39 : (((c_number (p_code u7)) >>> ((1 : Int32) &&& 31)) &&& (7 : Int32)) = (6 : Int32)
  · replace hw := hw.1 c39
    refine lv_tableIn (off := 132) (tgt := 189) hx hb dX3_stringOnce_57 (by rw [c39]; decide) (by rw [c39]; decide) (by rw [c39]; rfl) (by decide) ?_
    refine lv_aload_n hx hb dX3_stringOnce_189 rfl (lv_at hl 5 rfl) ?_
    refine lv_aload_n hx hb dX3_stringOnce_190 rfl (lv_at hl 5 rfl) ?_
    refine va_get (D := D) (ci := 3) (v := .ref q1) (C := RX3) (T := TX3) (N := 8) hx hb hts i_X3 hown hK hP 0 rfl rfl 0 (by decide) f_12 (fun _ h9 => h9) rfl dX3_stringOnce_191 ?_
    refine lv_iload hx hb dX3_stringOnce_194 (lv_at hl 1 rfl) ?_
    refine lv_iload_n hx hb dX3_stringOnce_196 rfl (lv_at hl 3 rfl) ?_
    refine lv_iload_n hx hb dX3_stringOnce_197 rfl (lv_at hl 4 rfl) ?_
    refine cl_Vi (As := [.int r8, .int r4, .int r2]) (rest := [.ref q0]) (st := [.int r2, .int r4, .int r8, .ref q1, .ref q0]) S hK hA hP hD hS (fr_P_M (ps_regs u7 u9)) (kcX2_load l D cB cI q1 q2 q3 H.size r8 r4 r2 (p_mem u7) _ hw) (cwV 3 hts gX3_stringOnce_X2_load rfl rfl rfl (by decide +kernel) ⟨Nat.le_of_ble_eq_true rfl, Nat.le_of_ble_eq_true rfl⟩) tru_h tru_b 1 rfl rfl rfl rfl rfl hl.1 (Nat.le_of_ble_eq_true rfl) dX3_stringOnce_198 ⟨Nat.zero_le _, Nat.zero_le _⟩ (fun r41 u40 H locs hP hD hS hw => ?_)
    replace hP : va_P D vwCl (WP cB cI q0 q1 q2 q3 q4 q5 q6 q7 q8 q9 (ps_regs (ps_mem u7 u40) u9)) H := hP
    replace hD : va_D A (WP cB cI q0 q1 q2 q3 q4 q5 q6 q7 q8 q9 (ps_regs (ps_mem u7 u40) u9)) := hD
    refine lv_iload_n hx hb dX3_stringOnce_201 rfl (lv_at hl 4 rfl) ?_
    refine cl_Vv (As := [.int r41, .int r2]) (rest := []) (st := [.int r2, .int r41, .ref q0]) S hK hA hP hD hS (fr_P (ps_regs (ps_mem u7 u40) u9)) (kcX3_giveA l D cB cI q0 q1 q2 q3 q4 q5 q6 q7 q8 q9 H.size r41 r2 (ps_regs (ps_mem u7 u40) u9) _ hw) (cwV 2 hts gX3_stringOnce_X3_giveA rfl rfl rfl (by decide +kernel) ⟨Nat.le_of_ble_eq_true rfl, Nat.le_of_ble_eq_true rfl⟩) tru_h tru_b 0 rfl rfl rfl rfl rfl hl.1 (Nat.le_of_ble_eq_true rfl) dX3_stringOnce_202 ⟨Nat.zero_le _, Nat.zero_le _⟩ (fun u42 H locs hP hD hS hw => ?_)
    replace hP : va_P D vwCl (WP cB cI q0 q1 q2 q3 q4 q5 q6 q7 q8 q9 u42) H := hP
    replace hD : va_D A (WP cB cI q0 q1 q2 q3 q4 q5 q6 q7 q8 q9 u42) := hD
    refine lv_aload_n hx hb dX3_stringOnce_205 rfl (lv_at hl 5 rfl) ?_
    refine cl_Vv (As := []) (rest := []) (st := [.ref q0]) S hK hA hP hD hS (fr_P u42) (kcX3_passSource l D cB cI q0 q1 q2 q3 q4 q5 q6 q7 q8 q9 H.size  u42 _ hw) (cwV 0 hts gX3_stringOnce_X3_passSource rfl rfl rfl (by decide +kernel) ⟨Nat.le_of_ble_eq_true rfl, Nat.le_of_ble_eq_true rfl⟩) tru_h tru_b 0 rfl rfl rfl rfl rfl hl.1 (Nat.le_of_ble_eq_true rfl) dX3_stringOnce_206 ⟨Nat.zero_le _, Nat.zero_le _⟩ (fun u44 H locs hP hD hS hw => ?_)
    replace hP : va_P D vwCl (WP cB cI q0 q1 q2 q3 q4 q5 q6 q7 q8 q9 u44) H := hP
    replace hD : va_D A (WP cB cI q0 q1 q2 q3 q4 q5 q6 q7 q8 q9 u44) := hD
    refine lv_goto (tgt := 240) hx hb dX3_stringOnce_209 (by decide) ?_
    exact rt_v (wo := (fun v => WP cB cI q0 q1 q2 q3 q4 q5 q6 q7 q8 q9 v)) S hr hlk u44 hP hS hw dX3_stringOnce_240
  replace hw := hw.2 c39
  refine lv_tableOut (tgt := 212) hx hb dX3_stringOnce_57 (by have e_c11 : ¬ ((((c_number (p_code u7)) >>> ((1 : Int32) &&& 31)) &&& (7 : Int32)) : Int32).toInt = 2 := sw_ne c11; have e_c20 : ¬ ((((c_number (p_code u7)) >>> ((1 : Int32) &&& 31)) &&& (7 : Int32)) : Int32).toInt = 3 := sw_ne c20; have e_c31 : ¬ ((((c_number (p_code u7)) >>> ((1 : Int32) &&& 31)) &&& (7 : Int32)) : Int32).toInt = 4 := sw_ne c31; have e_c32 : ¬ ((((c_number (p_code u7)) >>> ((1 : Int32) &&& 31)) &&& (7 : Int32)) : Int32).toInt = 5 := sw_ne c32; have e_c39 : ¬ ((((c_number (p_code u7)) >>> ((1 : Int32) &&& 31)) &&& (7 : Int32)) : Int32).toInt = 6 := sw_ne c39; omega) (by decide) ?_
  exact b212 r2 r6 r10 (ps_regs u7 u9) H locs ls hP hD hS (lv_sub hl [5, 4, 2, 0] rfl) hw
-- X3_strings
def wX3_strings_b116  (P : SP → Prop)  (u : SP) : Prop := (wX4_word (1 : Int32) (p_regs u) (fun r22 u21 => ((r22 = (0 : Int32) → (P (ps_regs u u21))) ∧ (¬ r22 = (0 : Int32) → (wX4_moveTo (c_begin (p_code u)) u21 (fun u24 => (P (ps_regs u u24))))))))
def wX3_strings_b37  (P : SP → Prop) : Nat → Int32 → Int32 → SP → Prop
  | 0, _, _, _ => False
  | n + 1, x1, x2, u => (((64 : Int32) ≤ x2 → (wX3_strings_b116  P u)) ∧ (¬ (64 : Int32) ≤ x2 → (wX4_word (1 : Int32) (p_regs u) (fun r7 u6 => ((r7 = (0 : Int32) → (wX3_strings_b116  P (ps_regs u u6))) ∧ (¬ r7 = (0 : Int32) → (wX4_word (1 : Int32) u6 (fun r10 u9 => (wX4_setWord (1 : Int32) (r10 - (1 : Int32)) u9 (fun u11 => (wX3_stringOnce  (ps_regs (ps_repetitions u ((p_repetitions u) + (1 : Int32))) u11) (fun u13 => (wX1_compares  (p_code u13) (fun r16 u15 => ((r16 = (0 : Int32) → (wX3_strings_b37  P n x1 (x2 + (1 : Int32)) (ps_code u13 u15))) ∧ (¬ r16 = (0 : Int32) → (wX0_has (64 : Int32) (p_flags u13) (fun r19 u18 => ((r19 = x1 → (wX3_strings_b37  P n x1 (x2 + (1 : Int32)) (ps_code (ps_flags u13 u18) u15))) ∧ (¬ r19 = x1 → (P (ps_code (ps_flags u13 u18) u15))))))))))))))))))))))
def wX3_strings_b34  (P : SP → Prop) (s0 : Int32) (u : SP) : Prop := (∃ n, wX3_strings_b37  P n s0 (0 : Int32) u)
def wX3_strings  (u : SP) (P : SP → Prop) : Prop := (((c_repeat (p_code u)) = (-1 : Int32) → (wX3_stringOnce  u (fun u3 => (P u3)))) ∧ (¬ (c_repeat (p_code u)) = (-1 : Int32) → (((c_repeat (p_code u)) = (243 : Int32) → (wX3_strings_b34  P (1 : Int32) u)) ∧ (¬ (c_repeat (p_code u)) = (243 : Int32) → (wX3_strings_b34  P (0 : Int32) u)))))
set_option maxHeartbeats 4000000 in
set_option maxRecDepth 100000 in
theorem kcX3_strings (l : Launch) (D : va_G) (cB cI : ClassId) (q0 q1 q2 q3 q4 q5 q6 q7 q8 q9 : Nat) (sz : Nat)  (u : SP) (P : SP → Prop) (hw : wX3_strings  u P) : Met l yX3_strings wsX3_strings ({ frames := 5, cells := 0, slots := 0, locals := 120 } : Room) (va_Pc [.ref q0] (Pcw D (tyA cB cI) (WP cB cI q0 q1 q2 q3 q4 q5 q6 q7 q8 q9 u) sz Tru)) (va_Qv P (fun u t => va_P D vwCl (WP cB cI q0 q1 q2 q3 q4 q5 q6 q7 q8 q9 u) t.heap) (va_A (WP cB cI q0 q1 q2 q3 q4 q5 q6 q7 q8 q9 u) sz)) 0 0 (va_A (WP cB cI q0 q1 q2 q3 q4 q5 q6 q7 q8 q9 u) sz) := by
  refine en_ (cc := cX3_strings) (maxL := 3) (ret := none) (own := RX3) (lv := [(0, .ref q0)]) (Qf := fun A => va_Qv P (fun u t => va_P D vwCl (WP cB cI q0 q1 q2 q3 q4 q5 q6 q7 q8 q9 u) t.heap) A) (by decide) rfl rfl (Nat.le_of_ble_eq_true rfl) rfl ?_
  intro p e s m below meth c A ls S hr hlk hname hsz hP hK hD hA hSub hS hE hl
  have hx := S.1
  have hb := S.2.1
  have hown := S.2.2.2.1
  have hts := S.2.2.2.2
  have i_X1 : ∀ w ∈ u_ws RX1 TX1 12, w ∈ wsX3_strings := by decide +kernel
  have i_X3 : ∀ w ∈ u_ws RX3 TX3 8, w ∈ wsX3_strings := by decide +kernel
  have f_21 := hts (.fieldLink RX3 21 "MachineCore$Processor" "registers" "LMachineCore$Registers;") (by decide +kernel)
  have f_28 := hts (.fieldLink RX3 28 "MachineCore$Processor" "arithmetic" "LMachineCore$Arithmetic;") (by decide +kernel)
  have f_35 := hts (.fieldLink RX3 35 "MachineCore$Processor" "code" "LMachineCore$Code;") (by decide +kernel)
  have f_237 := hts (.fieldLink RX3 237 "MachineCore$Code" "repeat" "I") (by decide +kernel)
  have f_243 := hts (.fieldLink RX3 243 "MachineCore$Processor" "repetitions" "I") (by decide +kernel)
  have f_252 := hts (.fieldLink RX3 252 "MachineCore$Code" "begin" "I") (by decide +kernel)
  have b116 : ∀  (u : SP) (H : Heap) (locs : List Loc) (ls : Array Slot), va_P D vwCl (WP cB cI q0 q1 q2 q3 q4 q5 q6 q7 q8 q9 u) H → va_D A (WP cB cI q0 q1 q2 q3 q4 q5 q6 q7 q8 q9 u) → va_S A s.heap H locs → lv_has ls 3 [(0, .ref q0)] → wX3_strings_b116  P u → W p l e ({ frames := 5, cells := 0, slots := 0, locals := 120 } : Room) s m ([.ref q0] : List Value).toArray below meth c H locs 0 0 (MQ below (va_Qv P (fun u t => va_P D vwCl (WP cB cI q0 q1 q2 q3 q4 q5 q6 q7 q8 q9 u) t.heap) A) ([.ref q0] : List Value).toArray s 0 0 A) (F0 m 116 ls []) := by
    intro u H locs ls hP hD hS hl hw
    unfold wX3_strings_b116 at hw
    refine lv_aload_n hx hb dX3_strings_116 rfl (lv_at hl 0 rfl) ?_
    refine va_get (D := D) (ci := 3) (v := .ref q4) (C := RX3) (T := TX3) (N := 8) hx hb hts i_X3 hown hK hP 0 rfl rfl 1 (by decide) f_21 (fun _ h9 => h9) rfl dX3_strings_117 ?_
    refine lv_iconst (v := (1 : Int32)) hx hb dX3_strings_120 (by decide) ?_
    refine cl_Vi (As := [.int (1 : Int32)]) (rest := []) (st := [.int (1 : Int32), .ref q4]) S hK hA hP hD hS (fr_P_R u) (kcX4_word l D cB cI q4 q5 q6 H.size (1 : Int32) (p_regs u) _ hw) (cwV 1 hts gX3_strings_X4_word rfl rfl rfl (by decide +kernel) ⟨Nat.le_of_ble_eq_true rfl, Nat.le_of_ble_eq_true rfl⟩) tru_h tru_b 4 rfl rfl rfl rfl rfl hl.1 (Nat.le_of_ble_eq_true rfl) dX3_strings_121 ⟨Nat.zero_le _, Nat.zero_le _⟩ (fun r22 u21 H locs hP hD hS hw => ?_)
    replace hP : va_P D vwCl (WP cB cI q0 q1 q2 q3 q4 q5 q6 q7 q8 q9 (ps_regs u u21)) H := hP
    replace hD : va_D A (WP cB cI q0 q1 q2 q3 q4 q5 q6 q7 q8 q9 (ps_regs u u21)) := hD
    refine lv_if_eq (tgt := 141) hx hb dX3_strings_124 (by decide) (fun c23 => ?_) (fun c23 => ?_)
    · replace hw := hw.1 c23
      exact rt_v (wo := (fun v => WP cB cI q0 q1 q2 q3 q4 q5 q6 q7 q8 q9 v)) S hr hlk (ps_regs u u21) hP hS hw dX3_strings_141
    · replace hw := hw.2 c23
      refine lv_aload_n hx hb dX3_strings_127 rfl (lv_at hl 0 rfl) ?_
      refine va_get (D := D) (ci := 3) (v := .ref q4) (C := RX3) (T := TX3) (N := 8) hx hb hts i_X3 hown hK hP 0 rfl rfl 1 (by decide) f_21 (fun _ h9 => h9) rfl dX3_strings_128 ?_
      refine lv_aload_n hx hb dX3_strings_131 rfl (lv_at hl 0 rfl) ?_
      refine va_get (D := D) (ci := 3) (v := .ref q8) (C := RX3) (T := TX3) (N := 8) hx hb hts i_X3 hown hK hP 0 rfl rfl 3 (by decide) f_35 (fun _ h9 => h9) rfl dX3_strings_132 ?_
      refine va_get (D := D) (ci := 1) (v := .int (c_begin (p_code u))) (C := RX1) (T := TX1) (N := 12) hx hb hts i_X1 hown hK hP 8 rfl rfl 0 (by decide) f_252 (fun _ h9 => h9) rfl dX3_strings_135 ?_
      refine cl_Vv (As := [.int (c_begin (p_code u))]) (rest := []) (st := [.int (c_begin (p_code u)), .ref q4]) S hK hA hP hD hS (fr_P_R (ps_regs u u21)) (kcX4_moveTo l D cB cI q4 q5 q6 H.size (c_begin (p_code u)) u21 _ hw) (cwV 1 hts gX3_strings_X4_moveTo rfl rfl rfl (by decide +kernel) ⟨Nat.le_of_ble_eq_true rfl, Nat.le_of_ble_eq_true rfl⟩) tru_h tru_b 4 rfl rfl rfl rfl rfl hl.1 (Nat.le_of_ble_eq_true rfl) dX3_strings_138 ⟨Nat.zero_le _, Nat.zero_le _⟩ (fun u24 H locs hP hD hS hw => ?_)
      replace hP : va_P D vwCl (WP cB cI q0 q1 q2 q3 q4 q5 q6 q7 q8 q9 (ps_regs u u24)) H := hP
      replace hD : va_D A (WP cB cI q0 q1 q2 q3 q4 q5 q6 q7 q8 q9 (ps_regs u u24)) := hD
      exact rt_v (wo := (fun v => WP cB cI q0 q1 q2 q3 q4 q5 q6 q7 q8 q9 v)) S hr hlk (ps_regs u u24) hP hS hw dX3_strings_141
  have b37 : ∀ (n : Nat) (x1 : Int32) (x2 : Int32) (u : SP) (H : Heap) (locs : List Loc) (ls : Array Slot), va_P D vwCl (WP cB cI q0 q1 q2 q3 q4 q5 q6 q7 q8 q9 u) H → va_D A (WP cB cI q0 q1 q2 q3 q4 q5 q6 q7 q8 q9 u) → va_S A s.heap H locs → lv_has ls 3 [(0, .ref q0), (1, .int x1), (2, .int x2)] → wX3_strings_b37  P n x1 x2 u → W p l e ({ frames := 5, cells := 0, slots := 0, locals := 120 } : Room) s m ([.ref q0] : List Value).toArray below meth c H locs 0 0 (MQ below (va_Qv P (fun u t => va_P D vwCl (WP cB cI q0 q1 q2 q3 q4 q5 q6 q7 q8 q9 u) t.heap) A) ([.ref q0] : List Value).toArray s 0 0 A) (F0 m 37 ls []) := by
    intro n
    induction n with
    | zero => intro x1 x2 u H locs ls hP hD hS hl hw; exact False.elim hw
    | succ n ih =>
      intro x1 x2 u H locs ls hP hD hS hl hw
      rw [wX3_strings_b37] at hw
      refine lv_iload_n hx hb dX3_strings_37 rfl (lv_at hl 2 rfl) ?_
      refine lv_bipush (v := (64 : Int32)) hx hb dX3_strings_38 (by decide) ?_
      refine lv_icmp_ge (tgt := 116) hx hb dX3_strings_40 (by decide) (fun c5 => ?_) (fun c5 => ?_)
      · replace hw := hw.1 c5
        exact b116 u H locs ls hP hD hS (lv_sub hl [0] rfl) hw
      · replace hw := hw.2 c5
        refine lv_aload_n hx hb dX3_strings_43 rfl (lv_at hl 0 rfl) ?_
        refine va_get (D := D) (ci := 3) (v := .ref q4) (C := RX3) (T := TX3) (N := 8) hx hb hts i_X3 hown hK hP 0 rfl rfl 1 (by decide) f_21 (fun _ h9 => h9) rfl dX3_strings_44 ?_
        refine lv_iconst (v := (1 : Int32)) hx hb dX3_strings_47 (by decide) ?_
        refine cl_Vi (As := [.int (1 : Int32)]) (rest := []) (st := [.int (1 : Int32), .ref q4]) S hK hA hP hD hS (fr_P_R u) (kcX4_word l D cB cI q4 q5 q6 H.size (1 : Int32) (p_regs u) _ hw) (cwV 1 hts gX3_strings_X4_word rfl rfl rfl (by decide +kernel) ⟨Nat.le_of_ble_eq_true rfl, Nat.le_of_ble_eq_true rfl⟩) tru_h tru_b 4 rfl rfl rfl rfl rfl hl.1 (Nat.le_of_ble_eq_true rfl) dX3_strings_48 ⟨Nat.zero_le _, Nat.zero_le _⟩ (fun r7 u6 H locs hP hD hS hw => ?_)
        replace hP : va_P D vwCl (WP cB cI q0 q1 q2 q3 q4 q5 q6 q7 q8 q9 (ps_regs u u6)) H := hP
        replace hD : va_D A (WP cB cI q0 q1 q2 q3 q4 q5 q6 q7 q8 q9 (ps_regs u u6)) := hD
        refine lv_if_eq (tgt := 116) hx hb dX3_strings_51 (by decide) (fun c8 => ?_) (fun c8 => ?_)
        · replace hw := hw.1 c8
          exact b116 (ps_regs u u6) H locs ls hP hD hS (lv_sub hl [0] rfl) hw
        · replace hw := hw.2 c8
          refine lv_aload_n hx hb dX3_strings_54 rfl (lv_at hl 0 rfl) ?_
          refine va_get (D := D) (ci := 3) (v := .ref q4) (C := RX3) (T := TX3) (N := 8) hx hb hts i_X3 hown hK hP 0 rfl rfl 1 (by decide) f_21 (fun _ h9 => h9) rfl dX3_strings_55 ?_
          refine lv_iconst (v := (1 : Int32)) hx hb dX3_strings_58 (by decide) ?_
          refine lv_aload_n hx hb dX3_strings_59 rfl (lv_at hl 0 rfl) ?_
          refine va_get (D := D) (ci := 3) (v := .ref q4) (C := RX3) (T := TX3) (N := 8) hx hb hts i_X3 hown hK hP 0 rfl rfl 1 (by decide) f_21 (fun _ h9 => h9) rfl dX3_strings_60 ?_
          refine lv_iconst (v := (1 : Int32)) hx hb dX3_strings_63 (by decide) ?_
          refine cl_Vi (As := [.int (1 : Int32)]) (rest := [.int (1 : Int32), .ref q4]) (st := [.int (1 : Int32), .ref q4, .int (1 : Int32), .ref q4]) S hK hA hP hD hS (fr_P_R (ps_regs u u6)) (kcX4_word l D cB cI q4 q5 q6 H.size (1 : Int32) u6 _ hw) (cwV 1 hts gX3_strings_X4_word rfl rfl rfl (by decide +kernel) ⟨Nat.le_of_ble_eq_true rfl, Nat.le_of_ble_eq_true rfl⟩) tru_h tru_b 4 rfl rfl rfl rfl rfl hl.1 (Nat.le_of_ble_eq_true rfl) dX3_strings_64 ⟨Nat.zero_le _, Nat.zero_le _⟩ (fun r10 u9 H locs hP hD hS hw => ?_)
          replace hP : va_P D vwCl (WP cB cI q0 q1 q2 q3 q4 q5 q6 q7 q8 q9 (ps_regs u u9)) H := hP
          replace hD : va_D A (WP cB cI q0 q1 q2 q3 q4 q5 q6 q7 q8 q9 (ps_regs u u9)) := hD
          refine lv_iconst (v := (1 : Int32)) hx hb dX3_strings_67 (by decide) ?_
          refine lv_isub hx hb dX3_strings_68 ?_
          refine cl_Vv (As := [.int (1 : Int32), .int (r10 - (1 : Int32))]) (rest := []) (st := [.int (r10 - (1 : Int32)), .int (1 : Int32), .ref q4]) S hK hA hP hD hS (fr_P_R (ps_regs u u9)) (kcX4_setWord l D cB cI q4 q5 q6 H.size (1 : Int32) (r10 - (1 : Int32)) u9 _ hw) (cwV 2 hts gX3_strings_X4_setWord rfl rfl rfl (by decide +kernel) ⟨Nat.le_of_ble_eq_true rfl, Nat.le_of_ble_eq_true rfl⟩) tru_h tru_b 4 rfl rfl rfl rfl rfl hl.1 (Nat.le_of_ble_eq_true rfl) dX3_strings_69 ⟨Nat.zero_le _, Nat.zero_le _⟩ (fun u11 H locs hP hD hS hw => ?_)
          replace hP : va_P D vwCl (WP cB cI q0 q1 q2 q3 q4 q5 q6 q7 q8 q9 (ps_regs u u11)) H := hP
          replace hD : va_D A (WP cB cI q0 q1 q2 q3 q4 q5 q6 q7 q8 q9 (ps_regs u u11)) := hD
          refine lv_aload_n hx hb dX3_strings_72 rfl (lv_at hl 0 rfl) ?_
          refine lv_dup hx hb dX3_strings_73 rfl ?_
          refine va_get (D := D) (ci := 3) (v := .int (p_repetitions u)) (C := RX3) (T := TX3) (N := 8) hx hb hts i_X3 hown hK hP 0 rfl rfl 6 (by decide) f_243 (fun _ h9 => h9) rfl dX3_strings_74 ?_
          refine lv_iconst (v := (1 : Int32)) hx hb dX3_strings_77 (by decide) ?_
          refine lv_iadd hx hb dX3_strings_78 ?_
          refine va_put (D := D) (ci := 3) (v := .int ((p_repetitions u) + (1 : Int32))) (ty := .int) (C := RX3) (T := TX3) (N := 8) hx hb hts i_X3 tyX3 tyX3_ok nmX3 hown hK hP hD hS 0 rfl rfl 6 (by decide) f_243 (fun _ h9 => h9) rfl (by decide +kernel) rfl rfl (Nat.le_of_ble_eq_true rfl) dX3_strings_79 (fun H locs hP hD hS => ?_)
          replace hP : va_P D vwCl (WP cB cI q0 q1 q2 q3 q4 q5 q6 q7 q8 q9 (ps_regs (ps_repetitions u ((p_repetitions u) + (1 : Int32))) u11)) H := hP
          replace hD : va_D A (WP cB cI q0 q1 q2 q3 q4 q5 q6 q7 q8 q9 (ps_regs (ps_repetitions u ((p_repetitions u) + (1 : Int32))) u11)) := hD
          refine lv_aload_n hx hb dX3_strings_82 rfl (lv_at hl 0 rfl) ?_
          refine cl_Vv (As := []) (rest := []) (st := [.ref q0]) S hK hA hP hD hS (fr_P (ps_regs (ps_repetitions u ((p_repetitions u) + (1 : Int32))) u11)) (kcX3_stringOnce l D cB cI q0 q1 q2 q3 q4 q5 q6 q7 q8 q9 H.size  (ps_regs (ps_repetitions u ((p_repetitions u) + (1 : Int32))) u11) _ hw) (cwV 0 hts gX3_strings_X3_stringOnce rfl rfl rfl (by decide +kernel) ⟨Nat.le_of_ble_eq_true rfl, Nat.le_of_ble_eq_true rfl⟩) tru_h tru_b 0 rfl rfl rfl rfl rfl hl.1 (Nat.le_of_ble_eq_true rfl) dX3_strings_83 ⟨Nat.zero_le _, Nat.zero_le _⟩ (fun u13 H locs hP hD hS hw => ?_)
          replace hP : va_P D vwCl (WP cB cI q0 q1 q2 q3 q4 q5 q6 q7 q8 q9 u13) H := hP
          replace hD : va_D A (WP cB cI q0 q1 q2 q3 q4 q5 q6 q7 q8 q9 u13) := hD
          refine lv_aload_n hx hb dX3_strings_86 rfl (lv_at hl 0 rfl) ?_
          refine va_get (D := D) (ci := 3) (v := .ref q8) (C := RX3) (T := TX3) (N := 8) hx hb hts i_X3 hown hK hP 0 rfl rfl 3 (by decide) f_35 (fun _ h9 => h9) rfl dX3_strings_87 ?_
          refine cl_Vi (As := []) (rest := []) (st := [.ref q8]) S hK hA hP hD hS (fr_P_C u13) (kcX1_compares l D cB cI q8 H.size  (p_code u13) _ hw) (cwV 0 hts gX3_strings_X1_compares rfl rfl rfl (by decide +kernel) ⟨Nat.le_of_ble_eq_true rfl, Nat.le_of_ble_eq_true rfl⟩) tru_h tru_b 8 rfl rfl rfl rfl rfl hl.1 (Nat.le_of_ble_eq_true rfl) dX3_strings_90 ⟨Nat.zero_le _, Nat.zero_le _⟩ (fun r16 u15 H locs hP hD hS hw => ?_)
          replace hP : va_P D vwCl (WP cB cI q0 q1 q2 q3 q4 q5 q6 q7 q8 q9 (ps_code u13 u15)) H := hP
          replace hD : va_D A (WP cB cI q0 q1 q2 q3 q4 q5 q6 q7 q8 q9 (ps_code u13 u15)) := hD
          refine lv_if_eq (tgt := 110) hx hb dX3_strings_93 (by decide) (fun c17 => ?_) (fun c17 => ?_)
          · replace hw := hw.1 c17
            refine lv_iinc (v := (x2 + (1 : Int32))) (lv' := [(2, .int (x2 + (1 : Int32))), (0, .ref q0), (1, .int x1)]) hx hb dX3_strings_110 hl (k := 2) rfl rfl (by decide) rfl (fun ls hl => ?_)
            refine lv_goto (tgt := 37) hx hb dX3_strings_113 (by decide) ?_
            exact ih x1 (x2 + (1 : Int32)) (ps_code u13 u15) H locs ls hP hD hS (lv_sub hl [1, 2, 0] rfl) hw
          · replace hw := hw.2 c17
            refine lv_aload_n hx hb dX3_strings_96 rfl (lv_at hl 0 rfl) ?_
            refine va_get (D := D) (ci := 3) (v := .ref q7) (C := RX3) (T := TX3) (N := 8) hx hb hts i_X3 hown hK hP 0 rfl rfl 2 (by decide) f_28 (fun _ h9 => h9) rfl dX3_strings_97 ?_
            refine lv_bipush (v := (64 : Int32)) hx hb dX3_strings_100 (by decide) ?_
            refine cl_Vi (As := [.int (64 : Int32)]) (rest := []) (st := [.int (64 : Int32), .ref q7]) S hK hA hP hD hS (fr_P_A (ps_code u13 u15)) (kcX0_has l D cB cI q7 H.size (64 : Int32) (p_flags u13) _ hw) (cwV 1 hts gX3_strings_X0_has rfl rfl rfl (by decide +kernel) ⟨Nat.le_of_ble_eq_true rfl, Nat.le_of_ble_eq_true rfl⟩) tru_h tru_b 7 rfl rfl rfl rfl rfl hl.1 (Nat.le_of_ble_eq_true rfl) dX3_strings_102 ⟨Nat.zero_le _, Nat.zero_le _⟩ (fun r19 u18 H locs hP hD hS hw => ?_)
            replace hP : va_P D vwCl (WP cB cI q0 q1 q2 q3 q4 q5 q6 q7 q8 q9 (ps_code (ps_flags u13 u18) u15)) H := hP
            replace hD : va_D A (WP cB cI q0 q1 q2 q3 q4 q5 q6 q7 q8 q9 (ps_code (ps_flags u13 u18) u15)) := hD
            refine lv_iload_n hx hb dX3_strings_105 rfl (lv_at hl 1 rfl) ?_
            refine lv_icmp_eq (tgt := 110) hx hb dX3_strings_106 (by decide) (fun c20 => ?_) (fun c20 => ?_)
            · replace hw := hw.1 c20
              refine lv_iinc (v := (x2 + (1 : Int32))) (lv' := [(2, .int (x2 + (1 : Int32))), (0, .ref q0), (1, .int x1)]) hx hb dX3_strings_110 hl (k := 2) rfl rfl (by decide) rfl (fun ls hl => ?_)
              refine lv_goto (tgt := 37) hx hb dX3_strings_113 (by decide) ?_
              exact ih x1 (x2 + (1 : Int32)) (ps_code (ps_flags u13 u18) u15) H locs ls hP hD hS (lv_sub hl [1, 2, 0] rfl) hw
            · replace hw := hw.2 c20
              exact rt_v (wo := (fun v => WP cB cI q0 q1 q2 q3 q4 q5 q6 q7 q8 q9 v)) S hr hlk (ps_code (ps_flags u13 u18) u15) hP hS hw dX3_strings_109
  have b34 : ∀ (s0 : Int32) (u : SP) (H : Heap) (locs : List Loc) (ls : Array Slot), va_P D vwCl (WP cB cI q0 q1 q2 q3 q4 q5 q6 q7 q8 q9 u) H → va_D A (WP cB cI q0 q1 q2 q3 q4 q5 q6 q7 q8 q9 u) → va_S A s.heap H locs → lv_has ls 3 [(0, .ref q0)] → wX3_strings_b34  P s0 u → W p l e ({ frames := 5, cells := 0, slots := 0, locals := 120 } : Room) s m ([.ref q0] : List Value).toArray below meth c H locs 0 0 (MQ below (va_Qv P (fun u t => va_P D vwCl (WP cB cI q0 q1 q2 q3 q4 q5 q6 q7 q8 q9 u) t.heap) A) ([.ref q0] : List Value).toArray s 0 0 A) (F0 m 34 ls [.int s0]) := by
    intro s0 u H locs ls hP hD hS hl hw
    unfold wX3_strings_b34 at hw
    refine lv_istore_n (lv' := [(1, .int s0), (0, .ref q0)]) hx hb dX3_strings_34 rfl hl (by decide) rfl (fun ls hl => ?_)
    refine lv_iconst (v := (0 : Int32)) hx hb dX3_strings_35 (by decide) ?_
    refine lv_istore_n (lv' := [(2, .int (0 : Int32)), (1, .int s0), (0, .ref q0)]) hx hb dX3_strings_36 rfl hl (by decide) rfl (fun ls hl => ?_)
    obtain ⟨n, hw⟩ := hw
    exact b37 n s0 (0 : Int32) u H locs ls hP hD hS (lv_sub hl [2, 1, 0] rfl) hw
  unfold wX3_strings at hw
  obtain ⟨H, eH⟩ : ∃ H, H = s.heap := ⟨_, rfl⟩
  obtain ⟨locs, eL⟩ : ∃ locs : List Loc, locs = [] := ⟨_, rfl⟩
  replace hP : va_P D vwCl (WP cB cI q0 q1 q2 q3 q4 q5 q6 q7 q8 q9 u) H := by rw [eH]; exact hP
  replace hS : va_S A s.heap H locs := by rw [eH, eL]; exact hS
  suffices hgo : W p l e ({ frames := 5, cells := 0, slots := 0, locals := 120 } : Room) s m ([.ref q0] : List Value).toArray below meth c H locs 0 0 (MQ below (va_Qv P (fun u t => va_P D vwCl (WP cB cI q0 q1 q2 q3 q4 q5 q6 q7 q8 q9 u) t.heap) A) ([.ref q0] : List Value).toArray s 0 0 A) (F0 m 0 ls []) by rw [eH, eL] at hgo; exact hgo
  clear eH eL
  refine lv_aload_n hx hb dX3_strings_0 rfl (lv_at hl 0 rfl) ?_
  refine va_get (D := D) (ci := 3) (v := .ref q8) (C := RX3) (T := TX3) (N := 8) hx hb hts i_X3 hown hK hP 0 rfl rfl 3 (by decide) f_35 (fun _ h9 => h9) rfl dX3_strings_1 ?_
  refine va_get (D := D) (ci := 1) (v := .int (c_repeat (p_code u))) (C := RX1) (T := TX1) (N := 12) hx hb hts i_X1 hown hK hP 8 rfl rfl 3 (by decide) f_237 (fun _ h9 => h9) rfl dX3_strings_4 ?_
  refine lv_iconst (v := (-1 : Int32)) hx hb dX3_strings_7 (by decide) ?_
  refine lv_icmp_ne (tgt := 16) hx hb dX3_strings_8 (by decide) (fun c1 => ?_) (fun c1 => ?_)
  · replace hw := hw.2 c1
    refine lv_aload_n hx hb dX3_strings_16 rfl (lv_at hl 0 rfl) ?_
    refine va_get (D := D) (ci := 3) (v := .ref q8) (C := RX3) (T := TX3) (N := 8) hx hb hts i_X3 hown hK hP 0 rfl rfl 3 (by decide) f_35 (fun _ h9 => h9) rfl dX3_strings_17 ?_
    refine va_get (D := D) (ci := 1) (v := .int (c_repeat (p_code u))) (C := RX1) (T := TX1) (N := 12) hx hb hts i_X1 hown hK hP 8 rfl rfl 3 (by decide) f_237 (fun _ h9 => h9) rfl dX3_strings_20 ?_
    refine lv_sipush (v := (243 : Int32)) hx hb dX3_strings_23 (by decide) ?_
    refine lv_icmp_ne (tgt := 33) hx hb dX3_strings_26 (by decide) (fun c2 => ?_) (fun c2 => ?_)
    · replace hw := hw.2 c2
      refine lv_iconst (v := (0 : Int32)) hx hb dX3_strings_33 (by decide) ?_
      exact b34 (0 : Int32) u H locs ls hP hD hS (lv_sub hl [0] rfl) hw
    · replace hw := hw.1 c2
      refine lv_iconst (v := (1 : Int32)) hx hb dX3_strings_29 (by decide) ?_
      refine lv_goto (tgt := 34) hx hb dX3_strings_30 (by decide) ?_
      exact b34 (1 : Int32) u H locs ls hP hD hS (lv_sub hl [0] rfl) hw
  · replace hw := hw.1 c1
    refine lv_aload_n hx hb dX3_strings_11 rfl (lv_at hl 0 rfl) ?_
    refine cl_Vv (As := []) (rest := []) (st := [.ref q0]) S hK hA hP hD hS (fr_P u) (kcX3_stringOnce l D cB cI q0 q1 q2 q3 q4 q5 q6 q7 q8 q9 H.size  u _ hw) (cwV 0 hts gX3_strings_X3_stringOnce rfl rfl rfl (by decide +kernel) ⟨Nat.le_of_ble_eq_true rfl, Nat.le_of_ble_eq_true rfl⟩) tru_h tru_b 0 rfl rfl rfl rfl rfl hl.1 (Nat.le_of_ble_eq_true rfl) dX3_strings_12 ⟨Nat.zero_le _, Nat.zero_le _⟩ (fun u3 H locs hP hD hS hw => ?_)
    replace hP : va_P D vwCl (WP cB cI q0 q1 q2 q3 q4 q5 q6 q7 q8 q9 u3) H := hP
    replace hD : va_D A (WP cB cI q0 q1 q2 q3 q4 q5 q6 q7 q8 q9 u3) := hD
    exact rt_v (wo := (fun v => WP cB cI q0 q1 q2 q3 q4 q5 q6 q7 q8 q9 v)) S hr hlk u3 hP hS hw dX3_strings_15
-- X3_execute
def wX3_execute_b238  (P : SP → Prop)  (u : SP) : Prop := (((p_called u) = (-1 : Int32) → (P u)) ∧ (¬ (p_called u) = (-1 : Int32) → (wX3_interrupt (p_called u) u (fun u49 => (P u49)))))
def wX3_execute_b207  (P : SP → Prop) (s1 : Int32) (s2 : Int32) (s3 : Int32) (u : SP) : Prop := (wX4_give s1 s2 s3 (p_regs u) (fun u46 => (wX3_execute_b238  P (ps_regs u u46))))
def wX3_execute_b109  (P : SP → Prop)  (u : SP) : Prop := (wX0_holds ((c_number (p_code u)) &&& (15 : Int32)) (p_flags u) (fun r43 u42 => (wX3_jumpIf r43 (ps_flags u u42) (fun u44 => (wX3_execute_b238  P u44)))))
def wX3_execute_b88  (P : SP → Prop)  (u : SP) : Prop := (wX3_operationCodes  u (fun u40 => (wX3_execute_b238  P u40)))
def wX3_execute  (u : SP) (P : SP → Prop) : Prop := ((((c_number (p_code u)) >>> ((4 : Int32) &&& 31)) = (0 : Int32) → (wX3_execute_b88  P (ps_called u (-1 : Int32)))) ∧ (¬ ((c_number (p_code u)) >>> ((4 : Int32) &&& 31)) = (0 : Int32) → ((((c_number (p_code u)) >>> ((4 : Int32) &&& 31)) = (1 : Int32) → (wX3_execute_b88  P (ps_called u (-1 : Int32)))) ∧ (¬ ((c_number (p_code u)) >>> ((4 : Int32) &&& 31)) = (1 : Int32) → ((((c_number (p_code u)) >>> ((4 : Int32) &&& 31)) = (2 : Int32) → (wX3_execute_b88  P (ps_called u (-1 : Int32)))) ∧ (¬ ((c_number (p_code u)) >>> ((4 : Int32) &&& 31)) = (2 : Int32) → ((((c_number (p_code u)) >>> ((4 : Int32) &&& 31)) = (3 : Int32) → (wX3_execute_b88  P (ps_called u (-1 : Int32)))) ∧ (¬ ((c_number (p_code u)) >>> ((4 : Int32) &&& 31)) = (3 : Int32) → ((((c_number (p_code u)) >>> ((4 : Int32) &&& 31)) = (4 : Int32) → (wX3_stepWordRegister  (ps_called u (-1 : Int32)) (fun u6 => (wX3_execute_b238  P u6)))) ∧ (¬ ((c_number (p_code u)) >>> ((4 : Int32) &&& 31)) = (4 : Int32) → ((((c_number (p_code u)) >>> ((4 : Int32) &&& 31)) = (5 : Int32) → (wX3_registerStackCodes  (ps_called u (-1 : Int32)) (fun u9 => (wX3_execute_b238  P u9)))) ∧ (¬ ((c_number (p_code u)) >>> ((4 : Int32) &&& 31)) = (5 : Int32) → ((((c_number (p_code u)) >>> ((4 : Int32) &&& 31)) = (6 : Int32) → (wX3_execute_b109  P (ps_called u (-1 : Int32)))) ∧ (¬ ((c_number (p_code u)) >>> ((4 : Int32) &&& 31)) = (6 : Int32) → ((((c_number (p_code u)) >>> ((4 : Int32) &&& 31)) = (7 : Int32) → (wX3_execute_b109  P (ps_called u (-1 : Int32)))) ∧ (¬ ((c_number (p_code u)) >>> ((4 : Int32) &&& 31)) = (7 : Int32) → ((((c_number (p_code u)) >>> ((4 : Int32) &&& 31)) = (8 : Int32) → (wX3_operandCodes  (ps_called u (-1 : Int32)) (fun u14 => (wX3_execute_b238  P u14)))) ∧ (¬ ((c_number (p_code u)) >>> ((4 : Int32) &&& 31)) = (8 : Int32) → ((((c_number (p_code u)) >>> ((4 : Int32) &&& 31)) = (9 : Int32) → (wX3_exchangeAndFlagCodes  (ps_called u (-1 : Int32)) (fun u17 => (wX3_execute_b238  P u17)))) ∧ (¬ ((c_number (p_code u)) >>> ((4 : Int32) &&& 31)) = (9 : Int32) → ((((c_number (p_code u)) >>> ((4 : Int32) &&& 31)) = (10 : Int32) → (wX1_isString  (p_code u) (fun r21 u20 => ((r21 = (0 : Int32) → (wX3_placeCodes  (ps_code (ps_called u (-1 : Int32)) u20) (fun u23 => (wX3_execute_b238  P u23)))) ∧ (¬ r21 = (0 : Int32) → (wX3_strings  (ps_code (ps_called u (-1 : Int32)) u20) (fun u25 => (wX3_execute_b238  P u25)))))))) ∧ (¬ ((c_number (p_code u)) >>> ((4 : Int32) &&& 31)) = (10 : Int32) → ((((c_number (p_code u)) >>> ((4 : Int32) &&& 31)) = (11 : Int32) → ((((c_number (p_code u)) &&& (8 : Int32)) = (0 : Int32) → (wX3_execute_b207  P (c_number (p_code u)) (c_first (p_code u)) (0 : Int32) (ps_called u (-1 : Int32)))) ∧ (¬ ((c_number (p_code u)) &&& (8 : Int32)) = (0 : Int32) → (wX3_execute_b207  P (c_number (p_code u)) (c_first (p_code u)) (1 : Int32) (ps_called u (-1 : Int32)))))) ∧ (¬ ((c_number (p_code u)) >>> ((4 : Int32) &&& 31)) = (11 : Int32) → ((((c_number (p_code u)) >>> ((4 : Int32) &&& 31)) = (12 : Int32) → (wX3_returnCodes  (ps_called u (-1 : Int32)) (fun u30 => (wX3_execute_b238  P u30)))) ∧ (¬ ((c_number (p_code u)) >>> ((4 : Int32) &&& 31)) = (12 : Int32) → ((((c_number (p_code u)) >>> ((4 : Int32) &&& 31)) = (13 : Int32) → (wX3_shiftAndAdjustCodes  (ps_called u (-1 : Int32)) (fun u33 => (wX3_execute_b238  P u33)))) ∧ (¬ ((c_number (p_code u)) >>> ((4 : Int32) &&& 31)) = (13 : Int32) → ((((c_number (p_code u)) >>> ((4 : Int32) &&& 31)) = (14 : Int32) → (wX3_loopAndPortCodes  (ps_called u (-1 : Int32)) (fun u36 => (wX3_execute_b238  P u36)))) ∧ (¬ ((c_number (p_code u)) >>> ((4 : Int32) &&& 31)) = (14 : Int32) → (wX3_lastCodes  (ps_called u (-1 : Int32)) (fun u38 => (wX3_execute_b238  P u38)))))))))))))))))))))))))))))))))
set_option maxHeartbeats 4000000 in
set_option maxRecDepth 100000 in
theorem kcX3_execute (l : Launch) (D : va_G) (cB cI : ClassId) (q0 q1 q2 q3 q4 q5 q6 q7 q8 q9 : Nat) (sz : Nat)  (u : SP) (P : SP → Prop) (hw : wX3_execute  u P) : Met l yX3_execute wsX3_execute ({ frames := 6, cells := 0, slots := 0, locals := 143 } : Room) (va_Pc [.ref q0] (Pcw D (tyA cB cI) (WP cB cI q0 q1 q2 q3 q4 q5 q6 q7 q8 q9 u) sz Tru)) (va_Qv P (fun u t => va_P D vwCl (WP cB cI q0 q1 q2 q3 q4 q5 q6 q7 q8 q9 u) t.heap) (va_A (WP cB cI q0 q1 q2 q3 q4 q5 q6 q7 q8 q9 u) sz)) 0 0 (va_A (WP cB cI q0 q1 q2 q3 q4 q5 q6 q7 q8 q9 u) sz) := by
  refine en_ (cc := cX3_execute) (maxL := 1) (ret := none) (own := RX3) (lv := [(0, .ref q0)]) (Qf := fun A => va_Qv P (fun u t => va_P D vwCl (WP cB cI q0 q1 q2 q3 q4 q5 q6 q7 q8 q9 u) t.heap) A) (by decide) rfl rfl (Nat.le_of_ble_eq_true rfl) rfl ?_
  intro p e s m below meth c A ls S hr hlk hname hsz hP hK hD hA hSub hS hE hl
  have hx := S.1
  have hb := S.2.1
  have hown := S.2.2.2.1
  have hts := S.2.2.2.2
  have i_X1 : ∀ w ∈ u_ws RX1 TX1 12, w ∈ wsX3_execute := by decide +kernel
  have i_X3 : ∀ w ∈ u_ws RX3 TX3 8, w ∈ wsX3_execute := by decide +kernel
  have f_21 := hts (.fieldLink RX3 21 "MachineCore$Processor" "registers" "LMachineCore$Registers;") (by decide +kernel)
  have f_28 := hts (.fieldLink RX3 28 "MachineCore$Processor" "arithmetic" "LMachineCore$Arithmetic;") (by decide +kernel)
  have f_35 := hts (.fieldLink RX3 35 "MachineCore$Processor" "code" "LMachineCore$Code;") (by decide +kernel)
  have f_43 := hts (.fieldLink RX3 43 "MachineCore$Processor" "called" "I") (by decide +kernel)
  have f_47 := hts (.fieldLink RX3 47 "MachineCore$Code" "number" "I") (by decide +kernel)
  have f_83 := hts (.fieldLink RX3 83 "MachineCore$Code" "first" "I") (by decide +kernel)
  have b238 : ∀  (u : SP) (H : Heap) (locs : List Loc) (ls : Array Slot), va_P D vwCl (WP cB cI q0 q1 q2 q3 q4 q5 q6 q7 q8 q9 u) H → va_D A (WP cB cI q0 q1 q2 q3 q4 q5 q6 q7 q8 q9 u) → va_S A s.heap H locs → lv_has ls 1 [(0, .ref q0)] → wX3_execute_b238  P u → W p l e ({ frames := 6, cells := 0, slots := 0, locals := 143 } : Room) s m ([.ref q0] : List Value).toArray below meth c H locs 0 0 (MQ below (va_Qv P (fun u t => va_P D vwCl (WP cB cI q0 q1 q2 q3 q4 q5 q6 q7 q8 q9 u) t.heap) A) ([.ref q0] : List Value).toArray s 0 0 A) (F0 m 238 ls []) := by
    intro u H locs ls hP hD hS hl hw
    unfold wX3_execute_b238 at hw
    refine lv_aload_n hx hb dX3_execute_238 rfl (lv_at hl 0 rfl) ?_
    refine va_get (D := D) (ci := 3) (v := .int (p_called u)) (C := RX3) (T := TX3) (N := 8) hx hb hts i_X3 hown hK hP 0 rfl rfl 7 (by decide) f_43 (fun _ h9 => h9) rfl dX3_execute_239 ?_
    refine lv_iconst (v := (-1 : Int32)) hx hb dX3_execute_242 (by decide) ?_
    refine lv_icmp_eq (tgt := 254) hx hb dX3_execute_243 (by decide) (fun c48 => ?_) (fun c48 => ?_)
    · replace hw := hw.1 c48
      exact rt_v (wo := (fun v => WP cB cI q0 q1 q2 q3 q4 q5 q6 q7 q8 q9 v)) S hr hlk u hP hS hw dX3_execute_254
    · replace hw := hw.2 c48
      refine lv_aload_n hx hb dX3_execute_246 rfl (lv_at hl 0 rfl) ?_
      refine lv_aload_n hx hb dX3_execute_247 rfl (lv_at hl 0 rfl) ?_
      refine va_get (D := D) (ci := 3) (v := .int (p_called u)) (C := RX3) (T := TX3) (N := 8) hx hb hts i_X3 hown hK hP 0 rfl rfl 7 (by decide) f_43 (fun _ h9 => h9) rfl dX3_execute_248 ?_
      refine cl_Vv (As := [.int (p_called u)]) (rest := []) (st := [.int (p_called u), .ref q0]) S hK hA hP hD hS (fr_P u) (kcX3_interrupt l D cB cI q0 q1 q2 q3 q4 q5 q6 q7 q8 q9 H.size (p_called u) u _ hw) (cwV 1 hts gX3_execute_X3_interrupt rfl rfl rfl (by decide +kernel) ⟨Nat.le_of_ble_eq_true rfl, Nat.le_of_ble_eq_true rfl⟩) tru_h tru_b 0 rfl rfl rfl rfl rfl hl.1 (Nat.le_of_ble_eq_true rfl) dX3_execute_251 ⟨Nat.zero_le _, Nat.zero_le _⟩ (fun u49 H locs hP hD hS hw => ?_)
      replace hP : va_P D vwCl (WP cB cI q0 q1 q2 q3 q4 q5 q6 q7 q8 q9 u49) H := hP
      replace hD : va_D A (WP cB cI q0 q1 q2 q3 q4 q5 q6 q7 q8 q9 u49) := hD
      exact rt_v (wo := (fun v => WP cB cI q0 q1 q2 q3 q4 q5 q6 q7 q8 q9 v)) S hr hlk u49 hP hS hw dX3_execute_254
  have b207 : ∀ (s1 : Int32) (s2 : Int32) (s3 : Int32) (u : SP) (H : Heap) (locs : List Loc) (ls : Array Slot), va_P D vwCl (WP cB cI q0 q1 q2 q3 q4 q5 q6 q7 q8 q9 u) H → va_D A (WP cB cI q0 q1 q2 q3 q4 q5 q6 q7 q8 q9 u) → va_S A s.heap H locs → lv_has ls 1 [(0, .ref q0)] → wX3_execute_b207  P s1 s2 s3 u → W p l e ({ frames := 6, cells := 0, slots := 0, locals := 143 } : Room) s m ([.ref q0] : List Value).toArray below meth c H locs 0 0 (MQ below (va_Qv P (fun u t => va_P D vwCl (WP cB cI q0 q1 q2 q3 q4 q5 q6 q7 q8 q9 u) t.heap) A) ([.ref q0] : List Value).toArray s 0 0 A) (F0 m 207 ls [.int s3, .int s2, .int s1, .ref q4]) := by
    intro s1 s2 s3 u H locs ls hP hD hS hl hw
    unfold wX3_execute_b207 at hw
    refine cl_Vv (As := [.int s1, .int s2, .int s3]) (rest := []) (st := [.int s3, .int s2, .int s1, .ref q4]) S hK hA hP hD hS (fr_P_R u) (kcX4_give l D cB cI q4 q5 q6 H.size s1 s2 s3 (p_regs u) _ hw) (cwV 3 hts gX3_execute_X4_give rfl rfl rfl (by decide +kernel) ⟨Nat.le_of_ble_eq_true rfl, Nat.le_of_ble_eq_true rfl⟩) tru_h tru_b 4 rfl rfl rfl rfl rfl hl.1 (Nat.le_of_ble_eq_true rfl) dX3_execute_207 ⟨Nat.zero_le _, Nat.zero_le _⟩ (fun u46 H locs hP hD hS hw => ?_)
    replace hP : va_P D vwCl (WP cB cI q0 q1 q2 q3 q4 q5 q6 q7 q8 q9 (ps_regs u u46)) H := hP
    replace hD : va_D A (WP cB cI q0 q1 q2 q3 q4 q5 q6 q7 q8 q9 (ps_regs u u46)) := hD
    refine lv_goto (tgt := 238) hx hb dX3_execute_210 (by decide) ?_
    exact b238 (ps_regs u u46) H locs ls hP hD hS (lv_sub hl [0] rfl) hw
  have b109 : ∀  (u : SP) (H : Heap) (locs : List Loc) (ls : Array Slot), va_P D vwCl (WP cB cI q0 q1 q2 q3 q4 q5 q6 q7 q8 q9 u) H → va_D A (WP cB cI q0 q1 q2 q3 q4 q5 q6 q7 q8 q9 u) → va_S A s.heap H locs → lv_has ls 1 [(0, .ref q0)] → wX3_execute_b109  P u → W p l e ({ frames := 6, cells := 0, slots := 0, locals := 143 } : Room) s m ([.ref q0] : List Value).toArray below meth c H locs 0 0 (MQ below (va_Qv P (fun u t => va_P D vwCl (WP cB cI q0 q1 q2 q3 q4 q5 q6 q7 q8 q9 u) t.heap) A) ([.ref q0] : List Value).toArray s 0 0 A) (F0 m 109 ls []) := by
    intro u H locs ls hP hD hS hl hw
    unfold wX3_execute_b109 at hw
    refine lv_aload_n hx hb dX3_execute_109 rfl (lv_at hl 0 rfl) ?_
    refine lv_aload_n hx hb dX3_execute_110 rfl (lv_at hl 0 rfl) ?_
    refine va_get (D := D) (ci := 3) (v := .ref q7) (C := RX3) (T := TX3) (N := 8) hx hb hts i_X3 hown hK hP 0 rfl rfl 2 (by decide) f_28 (fun _ h9 => h9) rfl dX3_execute_111 ?_
    refine lv_aload_n hx hb dX3_execute_114 rfl (lv_at hl 0 rfl) ?_
    refine va_get (D := D) (ci := 3) (v := .ref q8) (C := RX3) (T := TX3) (N := 8) hx hb hts i_X3 hown hK hP 0 rfl rfl 3 (by decide) f_35 (fun _ h9 => h9) rfl dX3_execute_115 ?_
    refine va_get (D := D) (ci := 1) (v := .int (c_number (p_code u))) (C := RX1) (T := TX1) (N := 12) hx hb hts i_X1 hown hK hP 8 rfl rfl 1 (by decide) f_47 (fun _ h9 => h9) rfl dX3_execute_118 ?_
    refine lv_bipush (v := (15 : Int32)) hx hb dX3_execute_121 (by decide) ?_
    refine lv_iand hx hb dX3_execute_123 ?_
    refine cl_Vi (As := [.int ((c_number (p_code u)) &&& (15 : Int32))]) (rest := [.ref q0]) (st := [.int ((c_number (p_code u)) &&& (15 : Int32)), .ref q7, .ref q0]) S hK hA hP hD hS (fr_P_A u) (kcX0_holds l D cB cI q7 H.size ((c_number (p_code u)) &&& (15 : Int32)) (p_flags u) _ hw) (cwV 1 hts gX3_execute_X0_holds rfl rfl rfl (by decide +kernel) ⟨Nat.le_of_ble_eq_true rfl, Nat.le_of_ble_eq_true rfl⟩) tru_h tru_b 7 rfl rfl rfl rfl rfl hl.1 (Nat.le_of_ble_eq_true rfl) dX3_execute_124 ⟨Nat.zero_le _, Nat.zero_le _⟩ (fun r43 u42 H locs hP hD hS hw => ?_)
    replace hP : va_P D vwCl (WP cB cI q0 q1 q2 q3 q4 q5 q6 q7 q8 q9 (ps_flags u u42)) H := hP
    replace hD : va_D A (WP cB cI q0 q1 q2 q3 q4 q5 q6 q7 q8 q9 (ps_flags u u42)) := hD
    refine cl_Vv (As := [.int r43]) (rest := []) (st := [.int r43, .ref q0]) S hK hA hP hD hS (fr_P (ps_flags u u42)) (kcX3_jumpIf l D cB cI q0 q1 q2 q3 q4 q5 q6 q7 q8 q9 H.size r43 (ps_flags u u42) _ hw) (cwV 1 hts gX3_execute_X3_jumpIf rfl rfl rfl (by decide +kernel) ⟨Nat.le_of_ble_eq_true rfl, Nat.le_of_ble_eq_true rfl⟩) tru_h tru_b 0 rfl rfl rfl rfl rfl hl.1 (Nat.le_of_ble_eq_true rfl) dX3_execute_127 ⟨Nat.zero_le _, Nat.zero_le _⟩ (fun u44 H locs hP hD hS hw => ?_)
    replace hP : va_P D vwCl (WP cB cI q0 q1 q2 q3 q4 q5 q6 q7 q8 q9 u44) H := hP
    replace hD : va_D A (WP cB cI q0 q1 q2 q3 q4 q5 q6 q7 q8 q9 u44) := hD
    refine lv_goto (tgt := 238) hx hb dX3_execute_130 (by decide) ?_
    exact b238 u44 H locs ls hP hD hS (lv_sub hl [0] rfl) hw
  have b88 : ∀  (u : SP) (H : Heap) (locs : List Loc) (ls : Array Slot), va_P D vwCl (WP cB cI q0 q1 q2 q3 q4 q5 q6 q7 q8 q9 u) H → va_D A (WP cB cI q0 q1 q2 q3 q4 q5 q6 q7 q8 q9 u) → va_S A s.heap H locs → lv_has ls 1 [(0, .ref q0)] → wX3_execute_b88  P u → W p l e ({ frames := 6, cells := 0, slots := 0, locals := 143 } : Room) s m ([.ref q0] : List Value).toArray below meth c H locs 0 0 (MQ below (va_Qv P (fun u t => va_P D vwCl (WP cB cI q0 q1 q2 q3 q4 q5 q6 q7 q8 q9 u) t.heap) A) ([.ref q0] : List Value).toArray s 0 0 A) (F0 m 88 ls []) := by
    intro u H locs ls hP hD hS hl hw
    unfold wX3_execute_b88 at hw
    refine lv_aload_n hx hb dX3_execute_88 rfl (lv_at hl 0 rfl) ?_
    refine cl_Vv (As := []) (rest := []) (st := [.ref q0]) S hK hA hP hD hS (fr_P u) (kcX3_operationCodes l D cB cI q0 q1 q2 q3 q4 q5 q6 q7 q8 q9 H.size  u _ hw) (cwV 0 hts gX3_execute_X3_operationCodes rfl rfl rfl (by decide +kernel) ⟨Nat.le_of_ble_eq_true rfl, Nat.le_of_ble_eq_true rfl⟩) tru_h tru_b 0 rfl rfl rfl rfl rfl hl.1 (Nat.le_of_ble_eq_true rfl) dX3_execute_89 ⟨Nat.zero_le _, Nat.zero_le _⟩ (fun u40 H locs hP hD hS hw => ?_)
    replace hP : va_P D vwCl (WP cB cI q0 q1 q2 q3 q4 q5 q6 q7 q8 q9 u40) H := hP
    replace hD : va_D A (WP cB cI q0 q1 q2 q3 q4 q5 q6 q7 q8 q9 u40) := hD
    refine lv_goto (tgt := 238) hx hb dX3_execute_92 (by decide) ?_
    exact b238 u40 H locs ls hP hD hS (lv_sub hl [0] rfl) hw
  unfold wX3_execute at hw
  obtain ⟨H, eH⟩ : ∃ H, H = s.heap := ⟨_, rfl⟩
  obtain ⟨locs, eL⟩ : ∃ locs : List Loc, locs = [] := ⟨_, rfl⟩
  replace hP : va_P D vwCl (WP cB cI q0 q1 q2 q3 q4 q5 q6 q7 q8 q9 u) H := by rw [eH]; exact hP
  replace hS : va_S A s.heap H locs := by rw [eH, eL]; exact hS
  suffices hgo : W p l e ({ frames := 6, cells := 0, slots := 0, locals := 143 } : Room) s m ([.ref q0] : List Value).toArray below meth c H locs 0 0 (MQ below (va_Qv P (fun u t => va_P D vwCl (WP cB cI q0 q1 q2 q3 q4 q5 q6 q7 q8 q9 u) t.heap) A) ([.ref q0] : List Value).toArray s 0 0 A) (F0 m 0 ls []) by rw [eH, eL] at hgo; exact hgo
  clear eH eL
  refine lv_aload_n hx hb dX3_execute_0 rfl (lv_at hl 0 rfl) ?_
  refine lv_iconst (v := (-1 : Int32)) hx hb dX3_execute_1 (by decide) ?_
  refine va_put (D := D) (ci := 3) (v := .int (-1 : Int32)) (ty := .int) (C := RX3) (T := TX3) (N := 8) hx hb hts i_X3 tyX3 tyX3_ok nmX3 hown hK hP hD hS 0 rfl rfl 7 (by decide) f_43 (fun _ h9 => h9) rfl (by decide +kernel) rfl rfl (Nat.le_of_ble_eq_true rfl) dX3_execute_2 (fun H locs hP hD hS => ?_)
  replace hP : va_P D vwCl (WP cB cI q0 q1 q2 q3 q4 q5 q6 q7 q8 q9 (ps_called u (-1 : Int32))) H := hP
  replace hD : va_D A (WP cB cI q0 q1 q2 q3 q4 q5 q6 q7 q8 q9 (ps_called u (-1 : Int32))) := hD
  refine lv_aload_n hx hb dX3_execute_5 rfl (lv_at hl 0 rfl) ?_
  refine va_get (D := D) (ci := 3) (v := .ref q8) (C := RX3) (T := TX3) (N := 8) hx hb hts i_X3 hown hK hP 0 rfl rfl 3 (by decide) f_35 (fun _ h9 => h9) rfl dX3_execute_6 ?_
  refine va_get (D := D) (ci := 1) (v := .int (c_number (p_code u))) (C := RX1) (T := TX1) (N := 12) hx hb hts i_X1 hown hK hP 8 rfl rfl 1 (by decide) f_47 (fun _ h9 => h9) rfl dX3_execute_9 ?_
  refine lv_iconst (v := (4 : Int32)) hx hb dX3_execute_12 (by decide) ?_
  refine lv_ishr hx hb dX3_execute_13 ?_
  by_cases c1 : ((c_number (p_code u)) >>> ((4 : Int32) &&& 31)) = (0 : Int32)
  · replace hw := hw.1 c1
    refine lv_tableIn (off := 74) (tgt := 88) hx hb dX3_execute_14 (by rw [c1]; decide) (by rw [c1]; decide) (by rw [c1]; rfl) (by decide) ?_
    exact b88 (ps_called u (-1 : Int32)) H locs ls hP hD hS (lv_sub hl [0] rfl) hw
  replace hw := hw.2 c1
  by_cases c2 : ((c_number (p_code u)) >>> ((4 : Int32) &&& 31)) = (1 : Int32)
  · replace hw := hw.1 c2
    refine lv_tableIn (off := 74) (tgt := 88) hx hb dX3_execute_14 (by rw [c2]; decide) (by rw [c2]; decide) (by rw [c2]; rfl) (by decide) ?_
    exact b88 (ps_called u (-1 : Int32)) H locs ls hP hD hS (lv_sub hl [0] rfl) hw
  replace hw := hw.2 c2
  by_cases c3 : ((c_number (p_code u)) >>> ((4 : Int32) &&& 31)) = (2 : Int32)
  · replace hw := hw.1 c3
    refine lv_tableIn (off := 74) (tgt := 88) hx hb dX3_execute_14 (by rw [c3]; decide) (by rw [c3]; decide) (by rw [c3]; rfl) (by decide) ?_
    exact b88 (ps_called u (-1 : Int32)) H locs ls hP hD hS (lv_sub hl [0] rfl) hw
  replace hw := hw.2 c3
  by_cases c4 : ((c_number (p_code u)) >>> ((4 : Int32) &&& 31)) = (3 : Int32)
  · replace hw := hw.1 c4
    refine lv_tableIn (off := 74) (tgt := 88) hx hb dX3_execute_14 (by rw [c4]; decide) (by rw [c4]; decide) (by rw [c4]; rfl) (by decide) ?_
    exact b88 (ps_called u (-1 : Int32)) H locs ls hP hD hS (lv_sub hl [0] rfl) hw
  replace hw := hw.2 c4
  by_cases c5 : ((c_number (p_code u)) >>> ((4 : Int32) &&& 31)) = (4 : Int32)
  · replace hw := hw.1 c5
    refine lv_tableIn (off := 81) (tgt := 95) hx hb dX3_execute_14 (by rw [c5]; decide) (by rw [c5]; decide) (by rw [c5]; rfl) (by decide) ?_
    refine lv_aload_n hx hb dX3_execute_95 rfl (lv_at hl 0 rfl) ?_
    refine cl_Vv (As := []) (rest := []) (st := [.ref q0]) S hK hA hP hD hS (fr_P (ps_called u (-1 : Int32))) (kcX3_stepWordRegister l D cB cI q0 q1 q2 q3 q4 q5 q6 q7 q8 q9 H.size  (ps_called u (-1 : Int32)) _ hw) (cwV 0 hts gX3_execute_X3_stepWordRegister rfl rfl rfl (by decide +kernel) ⟨Nat.le_of_ble_eq_true rfl, Nat.le_of_ble_eq_true rfl⟩) tru_h tru_b 0 rfl rfl rfl rfl rfl hl.1 (Nat.le_of_ble_eq_true rfl) dX3_execute_96 ⟨Nat.zero_le _, Nat.zero_le _⟩ (fun u6 H locs hP hD hS hw => ?_)
    replace hP : va_P D vwCl (WP cB cI q0 q1 q2 q3 q4 q5 q6 q7 q8 q9 u6) H := hP
    replace hD : va_D A (WP cB cI q0 q1 q2 q3 q4 q5 q6 q7 q8 q9 u6) := hD
    refine lv_goto (tgt := 238) hx hb dX3_execute_99 (by decide) ?_
    exact b238 u6 H locs ls hP hD hS (lv_sub hl [0] rfl) hw
  replace hw := hw.2 c5
  by_cases c8 : ((c_number (p_code u)) >>> ((4 : Int32) &&& 31)) = (5 : Int32)
  · replace hw := hw.1 c8
    refine lv_tableIn (off := 88) (tgt := 102) hx hb dX3_execute_14 (by rw [c8]; decide) (by rw [c8]; decide) (by rw [c8]; rfl) (by decide) ?_
    refine lv_aload_n hx hb dX3_execute_102 rfl (lv_at hl 0 rfl) ?_
    refine cl_Vv (As := []) (rest := []) (st := [.ref q0]) S hK hA hP hD hS (fr_P (ps_called u (-1 : Int32))) (kcX3_registerStackCodes l D cB cI q0 q1 q2 q3 q4 q5 q6 q7 q8 q9 H.size  (ps_called u (-1 : Int32)) _ hw) (cwV 0 hts gX3_execute_X3_registerStackCodes rfl rfl rfl (by decide +kernel) ⟨Nat.le_of_ble_eq_true rfl, Nat.le_of_ble_eq_true rfl⟩) tru_h tru_b 0 rfl rfl rfl rfl rfl hl.1 (Nat.le_of_ble_eq_true rfl) dX3_execute_103 ⟨Nat.zero_le _, Nat.zero_le _⟩ (fun u9 H locs hP hD hS hw => ?_)
    replace hP : va_P D vwCl (WP cB cI q0 q1 q2 q3 q4 q5 q6 q7 q8 q9 u9) H := hP
    replace hD : va_D A (WP cB cI q0 q1 q2 q3 q4 q5 q6 q7 q8 q9 u9) := hD
    refine lv_goto (tgt := 238) hx hb dX3_execute_106 (by decide) ?_
    exact b238 u9 H locs ls hP hD hS (lv_sub hl [0] rfl) hw
  replace hw := hw.2 c8
  by_cases c11 : ((c_number (p_code u)) >>> ((4 : Int32) &&& 31)) = (6 : Int32)
  · replace hw := hw.1 c11
    refine lv_tableIn (off := 95) (tgt := 109) hx hb dX3_execute_14 (by rw [c11]; decide) (by rw [c11]; decide) (by rw [c11]; rfl) (by decide) ?_
    exact b109 (ps_called u (-1 : Int32)) H locs ls hP hD hS (lv_sub hl [0] rfl) hw
  replace hw := hw.2 c11
  by_cases c12 : ((c_number (p_code u)) >>> ((4 : Int32) &&& 31)) = (7 : Int32)
  · replace hw := hw.1 c12
    refine lv_tableIn (off := 95) (tgt := 109) hx hb dX3_execute_14 (by rw [c12]; decide) (by rw [c12]; decide) (by rw [c12]; rfl) (by decide) ?_
    exact b109 (ps_called u (-1 : Int32)) H locs ls hP hD hS (lv_sub hl [0] rfl) hw
  replace hw := hw.2 c12
  by_cases c13 : ((c_number (p_code u)) >>> ((4 : Int32) &&& 31)) = (8 : Int32)
  · replace hw := hw.1 c13
    refine lv_tableIn (off := 119) (tgt := 133) hx hb dX3_execute_14 (by rw [c13]; decide) (by rw [c13]; decide) (by rw [c13]; rfl) (by decide) ?_
    refine lv_aload_n hx hb dX3_execute_133 rfl (lv_at hl 0 rfl) ?_
    refine cl_Vv (As := []) (rest := []) (st := [.ref q0]) S hK hA hP hD hS (fr_P (ps_called u (-1 : Int32))) (kcX3_operandCodes l D cB cI q0 q1 q2 q3 q4 q5 q6 q7 q8 q9 H.size  (ps_called u (-1 : Int32)) _ hw) (cwV 0 hts gX3_execute_X3_operandCodes rfl rfl rfl (by decide +kernel) ⟨Nat.le_of_ble_eq_true rfl, Nat.le_of_ble_eq_true rfl⟩) tru_h tru_b 0 rfl rfl rfl rfl rfl hl.1 (Nat.le_of_ble_eq_true rfl) dX3_execute_134 ⟨Nat.zero_le _, Nat.zero_le _⟩ (fun u14 H locs hP hD hS hw => ?_)
    replace hP : va_P D vwCl (WP cB cI q0 q1 q2 q3 q4 q5 q6 q7 q8 q9 u14) H := hP
    replace hD : va_D A (WP cB cI q0 q1 q2 q3 q4 q5 q6 q7 q8 q9 u14) := hD
    refine lv_goto (tgt := 238) hx hb dX3_execute_137 (by decide) ?_
    exact b238 u14 H locs ls hP hD hS (lv_sub hl [0] rfl) hw
  replace hw := hw.2 c13
  by_cases c16 : ((c_number (p_code u)) >>> ((4 : Int32) &&& 31)) = (9 : Int32)
  · replace hw := hw.1 c16
    refine lv_tableIn (off := 126) (tgt := 140) hx hb dX3_execute_14 (by rw [c16]; decide) (by rw [c16]; decide) (by rw [c16]; rfl) (by decide) ?_
    refine lv_aload_n hx hb dX3_execute_140 rfl (lv_at hl 0 rfl) ?_
    refine cl_Vv (As := []) (rest := []) (st := [.ref q0]) S hK hA hP hD hS (fr_P (ps_called u (-1 : Int32))) (kcX3_exchangeAndFlagCodes l D cB cI q0 q1 q2 q3 q4 q5 q6 q7 q8 q9 H.size  (ps_called u (-1 : Int32)) _ hw) (cwV 0 hts gX3_execute_X3_exchangeAndFlagCodes rfl rfl rfl (by decide +kernel) ⟨Nat.le_of_ble_eq_true rfl, Nat.le_of_ble_eq_true rfl⟩) tru_h tru_b 0 rfl rfl rfl rfl rfl hl.1 (Nat.le_of_ble_eq_true rfl) dX3_execute_141 ⟨Nat.zero_le _, Nat.zero_le _⟩ (fun u17 H locs hP hD hS hw => ?_)
    replace hP : va_P D vwCl (WP cB cI q0 q1 q2 q3 q4 q5 q6 q7 q8 q9 u17) H := hP
    replace hD : va_D A (WP cB cI q0 q1 q2 q3 q4 q5 q6 q7 q8 q9 u17) := hD
    refine lv_goto (tgt := 238) hx hb dX3_execute_144 (by decide) ?_
    exact b238 u17 H locs ls hP hD hS (lv_sub hl [0] rfl) hw
  replace hw := hw.2 c16
  by_cases c19 : ((c_number (p_code u)) >>> ((4 : Int32) &&& 31)) = (10 : Int32)
  · replace hw := hw.1 c19
    refine lv_tableIn (off := 133) (tgt := 147) hx hb dX3_execute_14 (by rw [c19]; decide) (by rw [c19]; decide) (by rw [c19]; rfl) (by decide) ?_
    refine lv_aload_n hx hb dX3_execute_147 rfl (lv_at hl 0 rfl) ?_
    refine va_get (D := D) (ci := 3) (v := .ref q8) (C := RX3) (T := TX3) (N := 8) hx hb hts i_X3 hown hK hP 0 rfl rfl 3 (by decide) f_35 (fun _ h9 => h9) rfl dX3_execute_148 ?_
    refine cl_Vi (As := []) (rest := []) (st := [.ref q8]) S hK hA hP hD hS (fr_P_C (ps_called u (-1 : Int32))) (kcX1_isString l D cB cI q8 H.size  (p_code u) _ hw) (cwV 0 hts gX3_execute_X1_isString rfl rfl rfl (by decide +kernel) ⟨Nat.le_of_ble_eq_true rfl, Nat.le_of_ble_eq_true rfl⟩) tru_h tru_b 8 rfl rfl rfl rfl rfl hl.1 (Nat.le_of_ble_eq_true rfl) dX3_execute_151 ⟨Nat.zero_le _, Nat.zero_le _⟩ (fun r21 u20 H locs hP hD hS hw => ?_)
    replace hP : va_P D vwCl (WP cB cI q0 q1 q2 q3 q4 q5 q6 q7 q8 q9 (ps_code (ps_called u (-1 : Int32)) u20)) H := hP
    replace hD : va_D A (WP cB cI q0 q1 q2 q3 q4 q5 q6 q7 q8 q9 (ps_code (ps_called u (-1 : Int32)) u20)) := hD
    refine lv_if_eq (tgt := 164) hx hb dX3_execute_154 (by decide) (fun c22 => ?_) (fun c22 => ?_)
    · replace hw := hw.1 c22
      refine lv_aload_n hx hb dX3_execute_164 rfl (lv_at hl 0 rfl) ?_
      refine cl_Vv (As := []) (rest := []) (st := [.ref q0]) S hK hA hP hD hS (fr_P (ps_code (ps_called u (-1 : Int32)) u20)) (kcX3_placeCodes l D cB cI q0 q1 q2 q3 q4 q5 q6 q7 q8 q9 H.size  (ps_code (ps_called u (-1 : Int32)) u20) _ hw) (cwV 0 hts gX3_execute_X3_placeCodes rfl rfl rfl (by decide +kernel) ⟨Nat.le_of_ble_eq_true rfl, Nat.le_of_ble_eq_true rfl⟩) tru_h tru_b 0 rfl rfl rfl rfl rfl hl.1 (Nat.le_of_ble_eq_true rfl) dX3_execute_165 ⟨Nat.zero_le _, Nat.zero_le _⟩ (fun u23 H locs hP hD hS hw => ?_)
      replace hP : va_P D vwCl (WP cB cI q0 q1 q2 q3 q4 q5 q6 q7 q8 q9 u23) H := hP
      replace hD : va_D A (WP cB cI q0 q1 q2 q3 q4 q5 q6 q7 q8 q9 u23) := hD
      refine lv_goto (tgt := 238) hx hb dX3_execute_168 (by decide) ?_
      exact b238 u23 H locs ls hP hD hS (lv_sub hl [0] rfl) hw
    · replace hw := hw.2 c22
      refine lv_aload_n hx hb dX3_execute_157 rfl (lv_at hl 0 rfl) ?_
      refine cl_Vv (As := []) (rest := []) (st := [.ref q0]) S hK hA hP hD hS (fr_P (ps_code (ps_called u (-1 : Int32)) u20)) (kcX3_strings l D cB cI q0 q1 q2 q3 q4 q5 q6 q7 q8 q9 H.size  (ps_code (ps_called u (-1 : Int32)) u20) _ hw) (cwV 0 hts gX3_execute_X3_strings rfl rfl rfl (by decide +kernel) ⟨Nat.le_of_ble_eq_true rfl, Nat.le_of_ble_eq_true rfl⟩) tru_h tru_b 0 rfl rfl rfl rfl rfl hl.1 (Nat.le_of_ble_eq_true rfl) dX3_execute_158 ⟨Nat.zero_le _, Nat.zero_le _⟩ (fun u25 H locs hP hD hS hw => ?_)
      replace hP : va_P D vwCl (WP cB cI q0 q1 q2 q3 q4 q5 q6 q7 q8 q9 u25) H := hP
      replace hD : va_D A (WP cB cI q0 q1 q2 q3 q4 q5 q6 q7 q8 q9 u25) := hD
      refine lv_goto (tgt := 238) hx hb dX3_execute_161 (by decide) ?_
      exact b238 u25 H locs ls hP hD hS (lv_sub hl [0] rfl) hw
  replace hw := hw.2 c19
  by_cases c27 : ((c_number (p_code u)) >>> ((4 : Int32) &&& 31)) = (11 : Int32)
  · replace hw := hw.1 c27
    refine lv_tableIn (off := 157) (tgt := 171) hx hb dX3_execute_14 (by rw [c27]; decide) (by rw [c27]; decide) (by rw [c27]; rfl) (by decide) ?_
    refine lv_aload_n hx hb dX3_execute_171 rfl (lv_at hl 0 rfl) ?_
    refine va_get (D := D) (ci := 3) (v := .ref q4) (C := RX3) (T := TX3) (N := 8) hx hb hts i_X3 hown hK hP 0 rfl rfl 1 (by decide) f_21 (fun _ h9 => h9) rfl dX3_execute_172 ?_
    refine lv_aload_n hx hb dX3_execute_175 rfl (lv_at hl 0 rfl) ?_
    refine va_get (D := D) (ci := 3) (v := .ref q8) (C := RX3) (T := TX3) (N := 8) hx hb hts i_X3 hown hK hP 0 rfl rfl 3 (by decide) f_35 (fun _ h9 => h9) rfl dX3_execute_176 ?_
    refine va_get (D := D) (ci := 1) (v := .int (c_number (p_code u))) (C := RX1) (T := TX1) (N := 12) hx hb hts i_X1 hown hK hP 8 rfl rfl 1 (by decide) f_47 (fun _ h9 => h9) rfl dX3_execute_179 ?_
    refine lv_aload_n hx hb dX3_execute_182 rfl (lv_at hl 0 rfl) ?_
    refine va_get (D := D) (ci := 3) (v := .ref q8) (C := RX3) (T := TX3) (N := 8) hx hb hts i_X3 hown hK hP 0 rfl rfl 3 (by decide) f_35 (fun _ h9 => h9) rfl dX3_execute_183 ?_
    refine va_get (D := D) (ci := 1) (v := .int (c_first (p_code u))) (C := RX1) (T := TX1) (N := 12) hx hb hts i_X1 hown hK hP 8 rfl rfl 9 (by decide) f_83 (fun _ h9 => h9) rfl dX3_execute_186 ?_
    refine lv_aload_n hx hb dX3_execute_189 rfl (lv_at hl 0 rfl) ?_
    refine va_get (D := D) (ci := 3) (v := .ref q8) (C := RX3) (T := TX3) (N := 8) hx hb hts i_X3 hown hK hP 0 rfl rfl 3 (by decide) f_35 (fun _ h9 => h9) rfl dX3_execute_190 ?_
    refine va_get (D := D) (ci := 1) (v := .int (c_number (p_code u))) (C := RX1) (T := TX1) (N := 12) hx hb hts i_X1 hown hK hP 8 rfl rfl 1 (by decide) f_47 (fun _ h9 => h9) rfl dX3_execute_193 ?_
    refine lv_bipush (v := (8 : Int32)) hx hb dX3_execute_196 (by decide) ?_
    refine lv_iand hx hb dX3_execute_198 ?_
    refine lv_if_eq (tgt := 206) hx hb dX3_execute_199 (by decide) (fun c28 => ?_) (fun c28 => ?_)
    · replace hw := hw.1 c28
      refine lv_iconst (v := (0 : Int32)) hx hb dX3_execute_206 (by decide) ?_
      exact b207 (c_number (p_code u)) (c_first (p_code u)) (0 : Int32) (ps_called u (-1 : Int32)) H locs ls hP hD hS (lv_sub hl [0] rfl) hw
    · replace hw := hw.2 c28
      refine lv_iconst (v := (1 : Int32)) hx hb dX3_execute_202 (by decide) ?_
      refine lv_goto (tgt := 207) hx hb dX3_execute_203 (by decide) ?_
      exact b207 (c_number (p_code u)) (c_first (p_code u)) (1 : Int32) (ps_called u (-1 : Int32)) H locs ls hP hD hS (lv_sub hl [0] rfl) hw
  replace hw := hw.2 c27
  by_cases c29 : ((c_number (p_code u)) >>> ((4 : Int32) &&& 31)) = (12 : Int32)
  · replace hw := hw.1 c29
    refine lv_tableIn (off := 199) (tgt := 213) hx hb dX3_execute_14 (by rw [c29]; decide) (by rw [c29]; decide) (by rw [c29]; rfl) (by decide) ?_
    refine lv_aload_n hx hb dX3_execute_213 rfl (lv_at hl 0 rfl) ?_
    refine cl_Vv (As := []) (rest := []) (st := [.ref q0]) S hK hA hP hD hS (fr_P (ps_called u (-1 : Int32))) (kcX3_returnCodes l D cB cI q0 q1 q2 q3 q4 q5 q6 q7 q8 q9 H.size  (ps_called u (-1 : Int32)) _ hw) (cwV 0 hts gX3_execute_X3_returnCodes rfl rfl rfl (by decide +kernel) ⟨Nat.le_of_ble_eq_true rfl, Nat.le_of_ble_eq_true rfl⟩) tru_h tru_b 0 rfl rfl rfl rfl rfl hl.1 (Nat.le_of_ble_eq_true rfl) dX3_execute_214 ⟨Nat.zero_le _, Nat.zero_le _⟩ (fun u30 H locs hP hD hS hw => ?_)
    replace hP : va_P D vwCl (WP cB cI q0 q1 q2 q3 q4 q5 q6 q7 q8 q9 u30) H := hP
    replace hD : va_D A (WP cB cI q0 q1 q2 q3 q4 q5 q6 q7 q8 q9 u30) := hD
    refine lv_goto (tgt := 238) hx hb dX3_execute_217 (by decide) ?_
    exact b238 u30 H locs ls hP hD hS (lv_sub hl [0] rfl) hw
  replace hw := hw.2 c29
  by_cases c32 : ((c_number (p_code u)) >>> ((4 : Int32) &&& 31)) = (13 : Int32)
  · replace hw := hw.1 c32
    refine lv_tableIn (off := 206) (tgt := 220) hx hb dX3_execute_14 (by rw [c32]; decide) (by rw [c32]; decide) (by rw [c32]; rfl) (by decide) ?_
    refine lv_aload_n hx hb dX3_execute_220 rfl (lv_at hl 0 rfl) ?_
    refine cl_Vv (As := []) (rest := []) (st := [.ref q0]) S hK hA hP hD hS (fr_P (ps_called u (-1 : Int32))) (kcX3_shiftAndAdjustCodes l D cB cI q0 q1 q2 q3 q4 q5 q6 q7 q8 q9 H.size  (ps_called u (-1 : Int32)) _ hw) (cwV 0 hts gX3_execute_X3_shiftAndAdjustCodes rfl rfl rfl (by decide +kernel) ⟨Nat.le_of_ble_eq_true rfl, Nat.le_of_ble_eq_true rfl⟩) tru_h tru_b 0 rfl rfl rfl rfl rfl hl.1 (Nat.le_of_ble_eq_true rfl) dX3_execute_221 ⟨Nat.zero_le _, Nat.zero_le _⟩ (fun u33 H locs hP hD hS hw => ?_)
    replace hP : va_P D vwCl (WP cB cI q0 q1 q2 q3 q4 q5 q6 q7 q8 q9 u33) H := hP
    replace hD : va_D A (WP cB cI q0 q1 q2 q3 q4 q5 q6 q7 q8 q9 u33) := hD
    refine lv_goto (tgt := 238) hx hb dX3_execute_224 (by decide) ?_
    exact b238 u33 H locs ls hP hD hS (lv_sub hl [0] rfl) hw
  replace hw := hw.2 c32
  by_cases c35 : ((c_number (p_code u)) >>> ((4 : Int32) &&& 31)) = (14 : Int32)
  · replace hw := hw.1 c35
    refine lv_tableIn (off := 213) (tgt := 227) hx hb dX3_execute_14 (by rw [c35]; decide) (by rw [c35]; decide) (by rw [c35]; rfl) (by decide) ?_
    refine lv_aload_n hx hb dX3_execute_227 rfl (lv_at hl 0 rfl) ?_
    refine cl_Vv (As := []) (rest := []) (st := [.ref q0]) S hK hA hP hD hS (fr_P (ps_called u (-1 : Int32))) (kcX3_loopAndPortCodes l D cB cI q0 q1 q2 q3 q4 q5 q6 q7 q8 q9 H.size  (ps_called u (-1 : Int32)) _ hw) (cwV 0 hts gX3_execute_X3_loopAndPortCodes rfl rfl rfl (by decide +kernel) ⟨Nat.le_of_ble_eq_true rfl, Nat.le_of_ble_eq_true rfl⟩) tru_h tru_b 0 rfl rfl rfl rfl rfl hl.1 (Nat.le_of_ble_eq_true rfl) dX3_execute_228 ⟨Nat.zero_le _, Nat.zero_le _⟩ (fun u36 H locs hP hD hS hw => ?_)
    replace hP : va_P D vwCl (WP cB cI q0 q1 q2 q3 q4 q5 q6 q7 q8 q9 u36) H := hP
    replace hD : va_D A (WP cB cI q0 q1 q2 q3 q4 q5 q6 q7 q8 q9 u36) := hD
    refine lv_goto (tgt := 238) hx hb dX3_execute_231 (by decide) ?_
    exact b238 u36 H locs ls hP hD hS (lv_sub hl [0] rfl) hw
  replace hw := hw.2 c35
  refine lv_tableOut (tgt := 234) hx hb dX3_execute_14 (by have e_c1 : ¬ (((c_number (p_code u)) >>> ((4 : Int32) &&& 31)) : Int32).toInt = 0 := sw_ne c1; have e_c2 : ¬ (((c_number (p_code u)) >>> ((4 : Int32) &&& 31)) : Int32).toInt = 1 := sw_ne c2; have e_c3 : ¬ (((c_number (p_code u)) >>> ((4 : Int32) &&& 31)) : Int32).toInt = 2 := sw_ne c3; have e_c4 : ¬ (((c_number (p_code u)) >>> ((4 : Int32) &&& 31)) : Int32).toInt = 3 := sw_ne c4; have e_c5 : ¬ (((c_number (p_code u)) >>> ((4 : Int32) &&& 31)) : Int32).toInt = 4 := sw_ne c5; have e_c8 : ¬ (((c_number (p_code u)) >>> ((4 : Int32) &&& 31)) : Int32).toInt = 5 := sw_ne c8; have e_c11 : ¬ (((c_number (p_code u)) >>> ((4 : Int32) &&& 31)) : Int32).toInt = 6 := sw_ne c11; have e_c12 : ¬ (((c_number (p_code u)) >>> ((4 : Int32) &&& 31)) : Int32).toInt = 7 := sw_ne c12; have e_c13 : ¬ (((c_number (p_code u)) >>> ((4 : Int32) &&& 31)) : Int32).toInt = 8 := sw_ne c13; have e_c16 : ¬ (((c_number (p_code u)) >>> ((4 : Int32) &&& 31)) : Int32).toInt = 9 := sw_ne c16; have e_c19 : ¬ (((c_number (p_code u)) >>> ((4 : Int32) &&& 31)) : Int32).toInt = 10 := sw_ne c19; have e_c27 : ¬ (((c_number (p_code u)) >>> ((4 : Int32) &&& 31)) : Int32).toInt = 11 := sw_ne c27; have e_c29 : ¬ (((c_number (p_code u)) >>> ((4 : Int32) &&& 31)) : Int32).toInt = 12 := sw_ne c29; have e_c32 : ¬ (((c_number (p_code u)) >>> ((4 : Int32) &&& 31)) : Int32).toInt = 13 := sw_ne c32; have e_c35 : ¬ (((c_number (p_code u)) >>> ((4 : Int32) &&& 31)) : Int32).toInt = 14 := sw_ne c35; omega) (by decide) ?_
  refine lv_aload_n hx hb dX3_execute_234 rfl (lv_at hl 0 rfl) ?_
  refine cl_Vv (As := []) (rest := []) (st := [.ref q0]) S hK hA hP hD hS (fr_P (ps_called u (-1 : Int32))) (kcX3_lastCodes l D cB cI q0 q1 q2 q3 q4 q5 q6 q7 q8 q9 H.size  (ps_called u (-1 : Int32)) _ hw) (cwV 0 hts gX3_execute_X3_lastCodes rfl rfl rfl (by decide +kernel) ⟨Nat.le_of_ble_eq_true rfl, Nat.le_of_ble_eq_true rfl⟩) tru_h tru_b 0 rfl rfl rfl rfl rfl hl.1 (Nat.le_of_ble_eq_true rfl) dX3_execute_235 ⟨Nat.zero_le _, Nat.zero_le _⟩ (fun u38 H locs hP hD hS hw => ?_)
  replace hP : va_P D vwCl (WP cB cI q0 q1 q2 q3 q4 q5 q6 q7 q8 q9 u38) H := hP
  replace hD : va_D A (WP cB cI q0 q1 q2 q3 q4 q5 q6 q7 q8 q9 u38) := hD
  exact b238 u38 H locs ls hP hD hS (lv_sub hl [0] rfl) hw
