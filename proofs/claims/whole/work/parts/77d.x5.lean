-- X5_set
def wX5_set_b10 (a1 : Int32) (a2 : Int32) (P : SX → Prop) (Px : SX → Prop)  (u : SX) : Prop := (Px u)
def wX5_set (a1 : Int32) (a2 : Int32) (u : SX) (P : SX → Prop) (Px : SX → Prop) : Prop := ((a1 < (0 : Int32) → (wX5_set_b10 a1 a2 P Px u)) ∧ (¬ a1 < (0 : Int32) → ((a1 ≤ (13 : Int32) → ((a1 = (13 : Int32) → (wX0_keep a2 (p_flags (x_proc u)) (fun u12 => (P (xs_proc u (ps_flags (x_proc u) u12)))))) ∧ (¬ a1 = (13 : Int32) → ((a1 = (12 : Int32) → (wX4_moveTo a2 (p_regs (x_proc u)) (fun u10 => (P (xs_proc u (ps_regs (x_proc u) u10)))))) ∧ (¬ a1 = (12 : Int32) → ((a1 < (8 : Int32) → (wX4_setWord a1 a2 (p_regs (x_proc u)) (fun u6 => (P (xs_proc u (ps_regs (x_proc u) u6)))))) ∧ (¬ a1 < (8 : Int32) → (wX4_setSegment (a1 - (8 : Int32)) a2 (p_regs (x_proc u)) (fun u8 => (P (xs_proc u (ps_regs (x_proc u) u8)))))))))))) ∧ (¬ a1 ≤ (13 : Int32) → (wX5_set_b10 a1 a2 P Px u)))))
set_option maxHeartbeats 4000000 in
set_option maxRecDepth 100000 in
theorem kcX5_set (l : Launch) (hl9 : l.stackTraces = false) (D : va_G) (cB cI : ClassId) (sa : Nat) (q0 q1 q2 q3 q4 q5 q6 q7 q8 q9 q10 : Nat) (sz : Nat) (a1 : Int32) (a2 : Int32) (u : SX) (P : SX → Prop) (Px : SX → Prop) (hw : wX5_set a1 a2 u P Px) : vx_Met l yX5_set wsX5_set ({ frames := 6, cells := 1, slots := 6, locals := 82 } : Room) (va_Pc [.ref q10, .int a1, .int a2] (Pcw D (tyA cB cI) (WX cB cI q0 q1 q2 q3 q4 q5 q6 q7 q8 q9 q10 u) sz (Tx "java/lang/IndexOutOfBoundsException" 24 "no such register" 22 sa (WX cB cI q0 q1 q2 q3 q4 q5 q6 q7 q8 q9 q10 u) sz))) (va_Qv P (fun u t => va_P D vwCl (WX cB cI q0 q1 q2 q3 q4 q5 q6 q7 q8 q9 q10 u) t.heap) (va_A (WX cB cI q0 q1 q2 q3 q4 q5 q6 q7 q8 q9 q10 u) sz)) (vx_X Px (fun E u t => E = "java/lang/IndexOutOfBoundsException" ∧ va_P D vwCl (WX cB cI q0 q1 q2 q3 q4 q5 q6 q7 q8 q9 q10 u) t.heap) (va_A (WX cB cI q0 q1 q2 q3 q4 q5 q6 q7 q8 q9 q10 u) sz)) 1 6 (va_A (WX cB cI q0 q1 q2 q3 q4 q5 q6 q7 q8 q9 q10 u) sz) := by
  refine enx_ (cc := cX5_set) (maxL := 3) (ret := none) (own := RX5) (lv := [(0, .ref q10), (1, .int a1), (2, .int a2)]) (Qf := fun A => va_Qv P (fun u t => va_P D vwCl (WX cB cI q0 q1 q2 q3 q4 q5 q6 q7 q8 q9 q10 u) t.heap) A) (Xf := fun A => vx_X Px (fun E u t => E = "java/lang/IndexOutOfBoundsException" ∧ va_P D vwCl (WX cB cI q0 q1 q2 q3 q4 q5 q6 q7 q8 q9 q10 u) t.heap) A) (by decide) rfl rfl (Nat.le_of_ble_eq_true rfl) rfl ?_
  intro p e s m below meth c A ls S ht hr hlk hname hsz hP hK hD hA hSub hS hE hl
  have hx := S.1
  have hb := S.2.1
  have hown := S.2.2.2.1
  have hts := S.2.2.2.2
  have i_X3 : ∀ w ∈ u_ws RX3 TX3 8, w ∈ wsX5_set := by decide +kernel
  have i_X5 : ∀ w ∈ u_ws RX5 TX5 5, w ∈ wsX5_set := by decide +kernel
  have f_10 := hts (.fieldLink RX5 10 "MachineCore" "processor" "LMachineCore$Processor;") (by decide +kernel)
  have f_27 := hts (.fieldLink RX5 27 "MachineCore$Processor" "arithmetic" "LMachineCore$Arithmetic;") (by decide +kernel)
  have f_37 := hts (.fieldLink RX5 37 "MachineCore$Processor" "registers" "LMachineCore$Registers;") (by decide +kernel)
  have hE := tx_own hsz hSub hE
  have b10 : ∀  (u : SX) (H : Heap) (locs : List Loc) (ls : Array Slot), va_P D vwCl (WX cB cI q0 q1 q2 q3 q4 q5 q6 q7 q8 q9 q10 u) H → va_D A (WX cB cI q0 q1 q2 q3 q4 q5 q6 q7 q8 q9 q10 u) → va_S A s.heap H locs → lv_has ls 3 [] → wX5_set_b10 a1 a2 P Px u → W p l e ({ frames := 6, cells := 1, slots := 6, locals := 82 } : Room) s m ([.ref q10, .int a1, .int a2] : List Value).toArray below meth c H locs 0 0 (vx_MQ below (va_Qv P (fun u t => va_P D vwCl (WX cB cI q0 q1 q2 q3 q4 q5 q6 q7 q8 q9 q10 u) t.heap) A) (vx_X Px (fun E u t => E = "java/lang/IndexOutOfBoundsException" ∧ va_P D vwCl (WX cB cI q0 q1 q2 q3 q4 q5 q6 q7 q8 q9 q10 u) t.heap) A) ([.ref q10, .int a1, .int a2] : List Value).toArray s 1 6 A) (F0 m 10 ls []) := by
    intro u H locs ls hP hD hS hl hw
    unfold wX5_set_b10 at hw
    exact th_ (wn := fun v => WX cB cI q0 q1 q2 q3 q4 q5 q6 q7 q8 q9 q10 v) (by decide +kernel) (cls := "java/lang/IndexOutOfBoundsException") (text := "no such register") (ik := 20) (is := 22) (ic := 24) (pc := 10) S hl9 ht hlk (hts (.classLink RX5 20 "java/lang/IndexOutOfBoundsException") (by decide +kernel)) (hts (.initialized "java/lang/IndexOutOfBoundsException") (by decide +kernel)) (xt_hat hts (fun w h => List.mem_cons_of_mem _ (List.mem_append_right _ h)) hE.2.2.2) xt_o20_24 hE hl.1 dX5_set_10 dX5_set_13 dX5_set_14 dX5_set_16 dX5_set_19 ⟨Nat.le_of_ble_eq_true rfl, Nat.le_of_ble_eq_true rfl, Nat.le_of_ble_eq_true rfl, Nat.le_of_ble_eq_true rfl⟩ hS u hP hw
  unfold wX5_set at hw
  obtain ⟨H, eH⟩ : ∃ H, H = s.heap := ⟨_, rfl⟩
  obtain ⟨locs, eL⟩ : ∃ locs : List Loc, locs = [] := ⟨_, rfl⟩
  replace hP : va_P D vwCl (WX cB cI q0 q1 q2 q3 q4 q5 q6 q7 q8 q9 q10 u) H := by rw [eH]; exact hP
  replace hS : va_S A s.heap H locs := by rw [eH, eL]; exact hS
  suffices hgo : W p l e ({ frames := 6, cells := 1, slots := 6, locals := 82 } : Room) s m ([.ref q10, .int a1, .int a2] : List Value).toArray below meth c H locs 0 0 (vx_MQ below (va_Qv P (fun u t => va_P D vwCl (WX cB cI q0 q1 q2 q3 q4 q5 q6 q7 q8 q9 q10 u) t.heap) A) (vx_X Px (fun E u t => E = "java/lang/IndexOutOfBoundsException" ∧ va_P D vwCl (WX cB cI q0 q1 q2 q3 q4 q5 q6 q7 q8 q9 q10 u) t.heap) A) ([.ref q10, .int a1, .int a2] : List Value).toArray s 1 6 A) (F0 m 0 ls []) by rw [eH, eL] at hgo; exact hgo
  clear eH eL
  refine lv_iload_n hx hb dX5_set_0 rfl (lv_at hl 1 rfl) ?_
  refine lv_if_lt (tgt := 10) hx hb dX5_set_1 (by decide) (fun c1 => ?_) (fun c1 => ?_)
  · replace hw := hw.1 c1
    exact b10 u H locs ls hP hD hS (lv_sub hl [] rfl) hw
  · replace hw := hw.2 c1
    refine lv_iload_n hx hb dX5_set_4 rfl (lv_at hl 1 rfl) ?_
    refine lv_bipush (v := (13 : Int32)) hx hb dX5_set_5 (by decide) ?_
    refine lv_icmp_le (tgt := 20) hx hb dX5_set_7 (by decide) (fun c2 => ?_) (fun c2 => ?_)
    · replace hw := hw.1 c2
      refine lv_iload_n hx hb dX5_set_20 rfl (lv_at hl 1 rfl) ?_
      refine lv_bipush (v := (13 : Int32)) hx hb dX5_set_21 (by decide) ?_
      refine lv_icmp_ne (tgt := 40) hx hb dX5_set_23 (by decide) (fun c3 => ?_) (fun c3 => ?_)
      · replace hw := hw.2 c3
        refine lv_iload_n hx hb dX5_set_40 rfl (lv_at hl 1 rfl) ?_
        refine lv_bipush (v := (12 : Int32)) hx hb dX5_set_41 (by decide) ?_
        refine lv_icmp_ne (tgt := 60) hx hb dX5_set_43 (by decide) (fun c4 => ?_) (fun c4 => ?_)
        · replace hw := hw.2 c4
          refine lv_iload_n hx hb dX5_set_60 rfl (lv_at hl 1 rfl) ?_
          refine lv_bipush (v := (8 : Int32)) hx hb dX5_set_61 (by decide) ?_
          refine lv_icmp_lt (tgt := 84) hx hb dX5_set_63 (by decide) (fun c5 => ?_) (fun c5 => ?_)
          · replace hw := hw.1 c5
            refine lv_aload_n hx hb dX5_set_84 rfl (lv_at hl 0 rfl) ?_
            refine va_get (D := D) (ci := 5) (v := .ref q0) (C := RX5) (T := TX5) (N := 5) hx hb hts i_X5 hown hK hP 0 rfl rfl 0 (by decide) f_10 (fun _ h9 => h9) rfl dX5_set_85 ?_
            refine va_get (D := D) (ci := 3) (v := .ref q4) (C := RX3) (T := TX3) (N := 8) hx hb hts i_X3 hown hK hP 1 rfl rfl 1 (by decide) f_37 (fun _ h9 => h9) rfl dX5_set_88 ?_
            refine lv_iload_n hx hb dX5_set_91 rfl (lv_at hl 1 rfl) ?_
            refine lv_iload_n hx hb dX5_set_92 rfl (lv_at hl 2 rfl) ?_
            refine cl_Vv (As := [.int a1, .int a2]) (rest := []) (st := [.int a2, .int a1, .ref q4]) S hK hA hP hD hS (fr_X_R u) (kcX4_setWord l D cB cI q4 q5 q6 H.size a1 a2 (p_regs (x_proc u)) _ hw) (cwV 2 hts gX5_set_X4_setWord rfl rfl rfl (by decide +kernel) ⟨Nat.le_of_ble_eq_true rfl, Nat.le_of_ble_eq_true rfl⟩) tru_h tru_b 5 rfl rfl rfl rfl rfl hl.1 (Nat.le_of_ble_eq_true rfl) dX5_set_93 ⟨Nat.zero_le _, Nat.zero_le _⟩ (fun u6 H locs hP hD hS hw => ?_)
            replace hP : va_P D vwCl (WX cB cI q0 q1 q2 q3 q4 q5 q6 q7 q8 q9 q10 (xs_proc u (ps_regs (x_proc u) u6))) H := hP
            replace hD : va_D A (WX cB cI q0 q1 q2 q3 q4 q5 q6 q7 q8 q9 q10 (xs_proc u (ps_regs (x_proc u) u6))) := hD
            refine W.widen (k := 1) (n := 6) (Nat.zero_le _) (Nat.zero_le _) (vx_ret ?_)
            exact rt_v (wo := (fun v => WX cB cI q0 q1 q2 q3 q4 q5 q6 q7 q8 q9 q10 v)) S hr hlk (xs_proc u (ps_regs (x_proc u) u6)) hP hS hw dX5_set_96
          · replace hw := hw.2 c5
            refine lv_aload_n hx hb dX5_set_66 rfl (lv_at hl 0 rfl) ?_
            refine va_get (D := D) (ci := 5) (v := .ref q0) (C := RX5) (T := TX5) (N := 5) hx hb hts i_X5 hown hK hP 0 rfl rfl 0 (by decide) f_10 (fun _ h9 => h9) rfl dX5_set_67 ?_
            refine va_get (D := D) (ci := 3) (v := .ref q4) (C := RX3) (T := TX3) (N := 8) hx hb hts i_X3 hown hK hP 1 rfl rfl 1 (by decide) f_37 (fun _ h9 => h9) rfl dX5_set_70 ?_
            refine lv_iload_n hx hb dX5_set_73 rfl (lv_at hl 1 rfl) ?_
            refine lv_bipush (v := (8 : Int32)) hx hb dX5_set_74 (by decide) ?_
            refine lv_isub hx hb dX5_set_76 ?_
            refine lv_iload_n hx hb dX5_set_77 rfl (lv_at hl 2 rfl) ?_
            refine cl_Vv (As := [.int (a1 - (8 : Int32)), .int a2]) (rest := []) (st := [.int a2, .int (a1 - (8 : Int32)), .ref q4]) S hK hA hP hD hS (fr_X_R u) (kcX4_setSegment l D cB cI q4 q5 q6 H.size (a1 - (8 : Int32)) a2 (p_regs (x_proc u)) _ hw) (cwV 2 hts gX5_set_X4_setSegment rfl rfl rfl (by decide +kernel) ⟨Nat.le_of_ble_eq_true rfl, Nat.le_of_ble_eq_true rfl⟩) tru_h tru_b 5 rfl rfl rfl rfl rfl hl.1 (Nat.le_of_ble_eq_true rfl) dX5_set_78 ⟨Nat.zero_le _, Nat.zero_le _⟩ (fun u8 H locs hP hD hS hw => ?_)
            replace hP : va_P D vwCl (WX cB cI q0 q1 q2 q3 q4 q5 q6 q7 q8 q9 q10 (xs_proc u (ps_regs (x_proc u) u8))) H := hP
            replace hD : va_D A (WX cB cI q0 q1 q2 q3 q4 q5 q6 q7 q8 q9 q10 (xs_proc u (ps_regs (x_proc u) u8))) := hD
            refine lv_goto (tgt := 96) hx hb dX5_set_81 (by decide) ?_
            refine W.widen (k := 1) (n := 6) (Nat.zero_le _) (Nat.zero_le _) (vx_ret ?_)
            exact rt_v (wo := (fun v => WX cB cI q0 q1 q2 q3 q4 q5 q6 q7 q8 q9 q10 v)) S hr hlk (xs_proc u (ps_regs (x_proc u) u8)) hP hS hw dX5_set_96
        · replace hw := hw.1 c4
          refine lv_aload_n hx hb dX5_set_46 rfl (lv_at hl 0 rfl) ?_
          refine va_get (D := D) (ci := 5) (v := .ref q0) (C := RX5) (T := TX5) (N := 5) hx hb hts i_X5 hown hK hP 0 rfl rfl 0 (by decide) f_10 (fun _ h9 => h9) rfl dX5_set_47 ?_
          refine va_get (D := D) (ci := 3) (v := .ref q4) (C := RX3) (T := TX3) (N := 8) hx hb hts i_X3 hown hK hP 1 rfl rfl 1 (by decide) f_37 (fun _ h9 => h9) rfl dX5_set_50 ?_
          refine lv_iload_n hx hb dX5_set_53 rfl (lv_at hl 2 rfl) ?_
          refine cl_Vv (As := [.int a2]) (rest := []) (st := [.int a2, .ref q4]) S hK hA hP hD hS (fr_X_R u) (kcX4_moveTo l D cB cI q4 q5 q6 H.size a2 (p_regs (x_proc u)) _ hw) (cwV 1 hts gX5_set_X4_moveTo rfl rfl rfl (by decide +kernel) ⟨Nat.le_of_ble_eq_true rfl, Nat.le_of_ble_eq_true rfl⟩) tru_h tru_b 5 rfl rfl rfl rfl rfl hl.1 (Nat.le_of_ble_eq_true rfl) dX5_set_54 ⟨Nat.zero_le _, Nat.zero_le _⟩ (fun u10 H locs hP hD hS hw => ?_)
          replace hP : va_P D vwCl (WX cB cI q0 q1 q2 q3 q4 q5 q6 q7 q8 q9 q10 (xs_proc u (ps_regs (x_proc u) u10))) H := hP
          replace hD : va_D A (WX cB cI q0 q1 q2 q3 q4 q5 q6 q7 q8 q9 q10 (xs_proc u (ps_regs (x_proc u) u10))) := hD
          refine lv_goto (tgt := 96) hx hb dX5_set_57 (by decide) ?_
          refine W.widen (k := 1) (n := 6) (Nat.zero_le _) (Nat.zero_le _) (vx_ret ?_)
          exact rt_v (wo := (fun v => WX cB cI q0 q1 q2 q3 q4 q5 q6 q7 q8 q9 q10 v)) S hr hlk (xs_proc u (ps_regs (x_proc u) u10)) hP hS hw dX5_set_96
      · replace hw := hw.1 c3
        refine lv_aload_n hx hb dX5_set_26 rfl (lv_at hl 0 rfl) ?_
        refine va_get (D := D) (ci := 5) (v := .ref q0) (C := RX5) (T := TX5) (N := 5) hx hb hts i_X5 hown hK hP 0 rfl rfl 0 (by decide) f_10 (fun _ h9 => h9) rfl dX5_set_27 ?_
        refine va_get (D := D) (ci := 3) (v := .ref q7) (C := RX3) (T := TX3) (N := 8) hx hb hts i_X3 hown hK hP 1 rfl rfl 2 (by decide) f_27 (fun _ h9 => h9) rfl dX5_set_30 ?_
        refine lv_iload_n hx hb dX5_set_33 rfl (lv_at hl 2 rfl) ?_
        refine cl_Vv (As := [.int a2]) (rest := []) (st := [.int a2, .ref q7]) S hK hA hP hD hS (fr_X_A u) (kcX0_keep l D cB cI q7 H.size a2 (p_flags (x_proc u)) _ hw) (cwV 1 hts gX5_set_X0_keep rfl rfl rfl (by decide +kernel) ⟨Nat.le_of_ble_eq_true rfl, Nat.le_of_ble_eq_true rfl⟩) tru_h tru_b 8 rfl rfl rfl rfl rfl hl.1 (Nat.le_of_ble_eq_true rfl) dX5_set_34 ⟨Nat.zero_le _, Nat.zero_le _⟩ (fun u12 H locs hP hD hS hw => ?_)
        replace hP : va_P D vwCl (WX cB cI q0 q1 q2 q3 q4 q5 q6 q7 q8 q9 q10 (xs_proc u (ps_flags (x_proc u) u12))) H := hP
        replace hD : va_D A (WX cB cI q0 q1 q2 q3 q4 q5 q6 q7 q8 q9 q10 (xs_proc u (ps_flags (x_proc u) u12))) := hD
        refine lv_goto (tgt := 96) hx hb dX5_set_37 (by decide) ?_
        refine W.widen (k := 1) (n := 6) (Nat.zero_le _) (Nat.zero_le _) (vx_ret ?_)
        exact rt_v (wo := (fun v => WX cB cI q0 q1 q2 q3 q4 q5 q6 q7 q8 q9 q10 v)) S hr hlk (xs_proc u (ps_flags (x_proc u) u12)) hP hS hw dX5_set_96
    · replace hw := hw.2 c2
      exact b10 u H locs ls hP hD hS (lv_sub hl [] rfl) hw
-- X5_get
def wX5_get_b10 (a1 : Int32) (P : Int32 → SX → Prop) (Px : SX → Prop)  (u : SX) : Prop := (Px u)
def wX5_get (a1 : Int32) (u : SX) (P : Int32 → SX → Prop) (Px : SX → Prop) : Prop := ((a1 < (0 : Int32) → (wX5_get_b10 a1 P Px u)) ∧ (¬ a1 < (0 : Int32) → ((a1 ≤ (13 : Int32) → ((a1 = (13 : Int32) → (P (p_flags (x_proc u)) u)) ∧ (¬ a1 = (13 : Int32) → ((a1 = (12 : Int32) → (P (r_ip (p_regs (x_proc u))) u)) ∧ (¬ a1 = (12 : Int32) → ((a1 < (8 : Int32) → (wX4_word a1 (p_regs (x_proc u)) (fun r7 u6 => (P r7 (xs_proc u (ps_regs (x_proc u) u6)))))) ∧ (¬ a1 < (8 : Int32) → (wX4_segment (a1 - (8 : Int32)) (p_regs (x_proc u)) (fun r9 u8 => (P r9 (xs_proc u (ps_regs (x_proc u) u8)))))))))))) ∧ (¬ a1 ≤ (13 : Int32) → (wX5_get_b10 a1 P Px u)))))
set_option maxHeartbeats 4000000 in
set_option maxRecDepth 100000 in
theorem kcX5_get (l : Launch) (hl9 : l.stackTraces = false) (D : va_G) (cB cI : ClassId) (sa : Nat) (q0 q1 q2 q3 q4 q5 q6 q7 q8 q9 q10 : Nat) (sz : Nat) (a1 : Int32) (u : SX) (P : Int32 → SX → Prop) (Px : SX → Prop) (hw : wX5_get a1 u P Px) : vx_Met l yX5_get wsX5_get ({ frames := 6, cells := 1, slots := 6, locals := 82 } : Room) (va_Pc [.ref q10, .int a1] (Pcw D (tyA cB cI) (WX cB cI q0 q1 q2 q3 q4 q5 q6 q7 q8 q9 q10 u) sz (Tx "java/lang/IndexOutOfBoundsException" 24 "no such register" 22 sa (WX cB cI q0 q1 q2 q3 q4 q5 q6 q7 q8 q9 q10 u) sz))) (va_Qi P (fun u t => va_P D vwCl (WX cB cI q0 q1 q2 q3 q4 q5 q6 q7 q8 q9 q10 u) t.heap) (va_A (WX cB cI q0 q1 q2 q3 q4 q5 q6 q7 q8 q9 q10 u) sz)) (vx_X Px (fun E u t => E = "java/lang/IndexOutOfBoundsException" ∧ va_P D vwCl (WX cB cI q0 q1 q2 q3 q4 q5 q6 q7 q8 q9 q10 u) t.heap) (va_A (WX cB cI q0 q1 q2 q3 q4 q5 q6 q7 q8 q9 q10 u) sz)) 1 6 (va_A (WX cB cI q0 q1 q2 q3 q4 q5 q6 q7 q8 q9 q10 u) sz) := by
  refine enx_ (cc := cX5_get) (maxL := 2) (ret := (some .int)) (own := RX5) (lv := [(0, .ref q10), (1, .int a1)]) (Qf := fun A => va_Qi P (fun u t => va_P D vwCl (WX cB cI q0 q1 q2 q3 q4 q5 q6 q7 q8 q9 q10 u) t.heap) A) (Xf := fun A => vx_X Px (fun E u t => E = "java/lang/IndexOutOfBoundsException" ∧ va_P D vwCl (WX cB cI q0 q1 q2 q3 q4 q5 q6 q7 q8 q9 q10 u) t.heap) A) (by decide) rfl rfl (Nat.le_of_ble_eq_true rfl) rfl ?_
  intro p e s m below meth c A ls S ht hr hlk hname hsz hP hK hD hA hSub hS hE hl
  have hx := S.1
  have hb := S.2.1
  have hown := S.2.2.2.1
  have hts := S.2.2.2.2
  have i_X0 : ∀ w ∈ u_ws RX0 TX0 1, w ∈ wsX5_get := by decide +kernel
  have i_X3 : ∀ w ∈ u_ws RX3 TX3 8, w ∈ wsX5_get := by decide +kernel
  have i_X4 : ∀ w ∈ u_ws RX4 TX4 3, w ∈ wsX5_get := by decide +kernel
  have i_X5 : ∀ w ∈ u_ws RX5 TX5 5, w ∈ wsX5_get := by decide +kernel
  have f_10 := hts (.fieldLink RX5 10 "MachineCore" "processor" "LMachineCore$Processor;") (by decide +kernel)
  have f_27 := hts (.fieldLink RX5 27 "MachineCore$Processor" "arithmetic" "LMachineCore$Arithmetic;") (by decide +kernel)
  have f_37 := hts (.fieldLink RX5 37 "MachineCore$Processor" "registers" "LMachineCore$Registers;") (by decide +kernel)
  have f_53 := hts (.fieldLink RX5 53 "MachineCore$Arithmetic" "flags" "I") (by decide +kernel)
  have f_56 := hts (.fieldLink RX5 56 "MachineCore$Registers" "ip" "I") (by decide +kernel)
  have hE := tx_own hsz hSub hE
  have b10 : ∀  (u : SX) (H : Heap) (locs : List Loc) (ls : Array Slot), va_P D vwCl (WX cB cI q0 q1 q2 q3 q4 q5 q6 q7 q8 q9 q10 u) H → va_D A (WX cB cI q0 q1 q2 q3 q4 q5 q6 q7 q8 q9 q10 u) → va_S A s.heap H locs → lv_has ls 2 [] → wX5_get_b10 a1 P Px u → W p l e ({ frames := 6, cells := 1, slots := 6, locals := 82 } : Room) s m ([.ref q10, .int a1] : List Value).toArray below meth c H locs 0 0 (vx_MQ below (va_Qi P (fun u t => va_P D vwCl (WX cB cI q0 q1 q2 q3 q4 q5 q6 q7 q8 q9 q10 u) t.heap) A) (vx_X Px (fun E u t => E = "java/lang/IndexOutOfBoundsException" ∧ va_P D vwCl (WX cB cI q0 q1 q2 q3 q4 q5 q6 q7 q8 q9 q10 u) t.heap) A) ([.ref q10, .int a1] : List Value).toArray s 1 6 A) (F0 m 10 ls []) := by
    intro u H locs ls hP hD hS hl hw
    unfold wX5_get_b10 at hw
    exact th_ (wn := fun v => WX cB cI q0 q1 q2 q3 q4 q5 q6 q7 q8 q9 q10 v) (by decide +kernel) (cls := "java/lang/IndexOutOfBoundsException") (text := "no such register") (ik := 20) (is := 22) (ic := 24) (pc := 10) S hl9 ht hlk (hts (.classLink RX5 20 "java/lang/IndexOutOfBoundsException") (by decide +kernel)) (hts (.initialized "java/lang/IndexOutOfBoundsException") (by decide +kernel)) (xt_hat hts (fun w h => List.mem_cons_of_mem _ (List.mem_append_right _ h)) hE.2.2.2) xt_o20_24 hE hl.1 dX5_get_10 dX5_get_13 dX5_get_14 dX5_get_16 dX5_get_19 ⟨Nat.le_of_ble_eq_true rfl, Nat.le_of_ble_eq_true rfl, Nat.le_of_ble_eq_true rfl, Nat.le_of_ble_eq_true rfl⟩ hS u hP hw
  unfold wX5_get at hw
  obtain ⟨H, eH⟩ : ∃ H, H = s.heap := ⟨_, rfl⟩
  obtain ⟨locs, eL⟩ : ∃ locs : List Loc, locs = [] := ⟨_, rfl⟩
  replace hP : va_P D vwCl (WX cB cI q0 q1 q2 q3 q4 q5 q6 q7 q8 q9 q10 u) H := by rw [eH]; exact hP
  replace hS : va_S A s.heap H locs := by rw [eH, eL]; exact hS
  suffices hgo : W p l e ({ frames := 6, cells := 1, slots := 6, locals := 82 } : Room) s m ([.ref q10, .int a1] : List Value).toArray below meth c H locs 0 0 (vx_MQ below (va_Qi P (fun u t => va_P D vwCl (WX cB cI q0 q1 q2 q3 q4 q5 q6 q7 q8 q9 q10 u) t.heap) A) (vx_X Px (fun E u t => E = "java/lang/IndexOutOfBoundsException" ∧ va_P D vwCl (WX cB cI q0 q1 q2 q3 q4 q5 q6 q7 q8 q9 q10 u) t.heap) A) ([.ref q10, .int a1] : List Value).toArray s 1 6 A) (F0 m 0 ls []) by rw [eH, eL] at hgo; exact hgo
  clear eH eL
  refine lv_iload_n hx hb dX5_get_0 rfl (lv_at hl 1 rfl) ?_
  refine lv_if_lt (tgt := 10) hx hb dX5_get_1 (by decide) (fun c1 => ?_) (fun c1 => ?_)
  · replace hw := hw.1 c1
    exact b10 u H locs ls hP hD hS (lv_sub hl [] rfl) hw
  · replace hw := hw.2 c1
    refine lv_iload_n hx hb dX5_get_4 rfl (lv_at hl 1 rfl) ?_
    refine lv_bipush (v := (13 : Int32)) hx hb dX5_get_5 (by decide) ?_
    refine lv_icmp_le (tgt := 20) hx hb dX5_get_7 (by decide) (fun c2 => ?_) (fun c2 => ?_)
    · replace hw := hw.1 c2
      refine lv_iload_n hx hb dX5_get_20 rfl (lv_at hl 1 rfl) ?_
      refine lv_bipush (v := (13 : Int32)) hx hb dX5_get_21 (by decide) ?_
      refine lv_icmp_ne (tgt := 37) hx hb dX5_get_23 (by decide) (fun c3 => ?_) (fun c3 => ?_)
      · replace hw := hw.2 c3
        refine lv_iload_n hx hb dX5_get_37 rfl (lv_at hl 1 rfl) ?_
        refine lv_bipush (v := (12 : Int32)) hx hb dX5_get_38 (by decide) ?_
        refine lv_icmp_ne (tgt := 54) hx hb dX5_get_40 (by decide) (fun c4 => ?_) (fun c4 => ?_)
        · replace hw := hw.2 c4
          refine lv_iload_n hx hb dX5_get_54 rfl (lv_at hl 1 rfl) ?_
          refine lv_bipush (v := (8 : Int32)) hx hb dX5_get_55 (by decide) ?_
          refine lv_icmp_lt (tgt := 77) hx hb dX5_get_57 (by decide) (fun c5 => ?_) (fun c5 => ?_)
          · replace hw := hw.1 c5
            refine lv_aload_n hx hb dX5_get_77 rfl (lv_at hl 0 rfl) ?_
            refine va_get (D := D) (ci := 5) (v := .ref q0) (C := RX5) (T := TX5) (N := 5) hx hb hts i_X5 hown hK hP 0 rfl rfl 0 (by decide) f_10 (fun _ h9 => h9) rfl dX5_get_78 ?_
            refine va_get (D := D) (ci := 3) (v := .ref q4) (C := RX3) (T := TX3) (N := 8) hx hb hts i_X3 hown hK hP 1 rfl rfl 1 (by decide) f_37 (fun _ h9 => h9) rfl dX5_get_81 ?_
            refine lv_iload_n hx hb dX5_get_84 rfl (lv_at hl 1 rfl) ?_
            refine cl_Vi (As := [.int a1]) (rest := []) (st := [.int a1, .ref q4]) S hK hA hP hD hS (fr_X_R u) (kcX4_word l D cB cI q4 q5 q6 H.size a1 (p_regs (x_proc u)) _ hw) (cwV 1 hts gX5_get_X4_word rfl rfl rfl (by decide +kernel) ⟨Nat.le_of_ble_eq_true rfl, Nat.le_of_ble_eq_true rfl⟩) tru_h tru_b 5 rfl rfl rfl rfl rfl hl.1 (Nat.le_of_ble_eq_true rfl) dX5_get_85 ⟨Nat.zero_le _, Nat.zero_le _⟩ (fun r7 u6 H locs hP hD hS hw => ?_)
            replace hP : va_P D vwCl (WX cB cI q0 q1 q2 q3 q4 q5 q6 q7 q8 q9 q10 (xs_proc u (ps_regs (x_proc u) u6))) H := hP
            replace hD : va_D A (WX cB cI q0 q1 q2 q3 q4 q5 q6 q7 q8 q9 q10 (xs_proc u (ps_regs (x_proc u) u6))) := hD
            refine W.widen (k := 1) (n := 6) (Nat.zero_le _) (Nat.zero_le _) (vx_ret ?_)
            exact rt_i (wo := (fun v => WX cB cI q0 q1 q2 q3 q4 q5 q6 q7 q8 q9 q10 v)) S hr hlk (xs_proc u (ps_regs (x_proc u) u6)) hP hS hw dX5_get_88
          · replace hw := hw.2 c5
            refine lv_aload_n hx hb dX5_get_60 rfl (lv_at hl 0 rfl) ?_
            refine va_get (D := D) (ci := 5) (v := .ref q0) (C := RX5) (T := TX5) (N := 5) hx hb hts i_X5 hown hK hP 0 rfl rfl 0 (by decide) f_10 (fun _ h9 => h9) rfl dX5_get_61 ?_
            refine va_get (D := D) (ci := 3) (v := .ref q4) (C := RX3) (T := TX3) (N := 8) hx hb hts i_X3 hown hK hP 1 rfl rfl 1 (by decide) f_37 (fun _ h9 => h9) rfl dX5_get_64 ?_
            refine lv_iload_n hx hb dX5_get_67 rfl (lv_at hl 1 rfl) ?_
            refine lv_bipush (v := (8 : Int32)) hx hb dX5_get_68 (by decide) ?_
            refine lv_isub hx hb dX5_get_70 ?_
            refine cl_Vi (As := [.int (a1 - (8 : Int32))]) (rest := []) (st := [.int (a1 - (8 : Int32)), .ref q4]) S hK hA hP hD hS (fr_X_R u) (kcX4_segment l D cB cI q4 q5 q6 H.size (a1 - (8 : Int32)) (p_regs (x_proc u)) _ hw) (cwV 1 hts gX5_get_X4_segment rfl rfl rfl (by decide +kernel) ⟨Nat.le_of_ble_eq_true rfl, Nat.le_of_ble_eq_true rfl⟩) tru_h tru_b 5 rfl rfl rfl rfl rfl hl.1 (Nat.le_of_ble_eq_true rfl) dX5_get_71 ⟨Nat.zero_le _, Nat.zero_le _⟩ (fun r9 u8 H locs hP hD hS hw => ?_)
            replace hP : va_P D vwCl (WX cB cI q0 q1 q2 q3 q4 q5 q6 q7 q8 q9 q10 (xs_proc u (ps_regs (x_proc u) u8))) H := hP
            replace hD : va_D A (WX cB cI q0 q1 q2 q3 q4 q5 q6 q7 q8 q9 q10 (xs_proc u (ps_regs (x_proc u) u8))) := hD
            refine lv_goto (tgt := 88) hx hb dX5_get_74 (by decide) ?_
            refine W.widen (k := 1) (n := 6) (Nat.zero_le _) (Nat.zero_le _) (vx_ret ?_)
            exact rt_i (wo := (fun v => WX cB cI q0 q1 q2 q3 q4 q5 q6 q7 q8 q9 q10 v)) S hr hlk (xs_proc u (ps_regs (x_proc u) u8)) hP hS hw dX5_get_88
        · replace hw := hw.1 c4
          refine lv_aload_n hx hb dX5_get_43 rfl (lv_at hl 0 rfl) ?_
          refine va_get (D := D) (ci := 5) (v := .ref q0) (C := RX5) (T := TX5) (N := 5) hx hb hts i_X5 hown hK hP 0 rfl rfl 0 (by decide) f_10 (fun _ h9 => h9) rfl dX5_get_44 ?_
          refine va_get (D := D) (ci := 3) (v := .ref q4) (C := RX3) (T := TX3) (N := 8) hx hb hts i_X3 hown hK hP 1 rfl rfl 1 (by decide) f_37 (fun _ h9 => h9) rfl dX5_get_47 ?_
          refine va_get (D := D) (ci := 4) (v := .int (r_ip (p_regs (x_proc u)))) (C := RX4) (T := TX4) (N := 3) hx hb hts i_X4 hown hK hP 5 rfl rfl 2 (by decide) f_56 (fun _ h9 => h9) rfl dX5_get_50 ?_
          refine W.widen (k := 1) (n := 6) (Nat.zero_le _) (Nat.zero_le _) (vx_ret ?_)
          exact rt_i (wo := (fun v => WX cB cI q0 q1 q2 q3 q4 q5 q6 q7 q8 q9 q10 v)) S hr hlk u hP hS hw dX5_get_53
      · replace hw := hw.1 c3
        refine lv_aload_n hx hb dX5_get_26 rfl (lv_at hl 0 rfl) ?_
        refine va_get (D := D) (ci := 5) (v := .ref q0) (C := RX5) (T := TX5) (N := 5) hx hb hts i_X5 hown hK hP 0 rfl rfl 0 (by decide) f_10 (fun _ h9 => h9) rfl dX5_get_27 ?_
        refine va_get (D := D) (ci := 3) (v := .ref q7) (C := RX3) (T := TX3) (N := 8) hx hb hts i_X3 hown hK hP 1 rfl rfl 2 (by decide) f_27 (fun _ h9 => h9) rfl dX5_get_30 ?_
        refine va_get (D := D) (ci := 0) (v := .int (p_flags (x_proc u))) (C := RX0) (T := TX0) (N := 1) hx hb hts i_X0 hown hK hP 8 rfl rfl 0 (by decide) f_53 (fun _ h9 => h9) rfl dX5_get_33 ?_
        refine W.widen (k := 1) (n := 6) (Nat.zero_le _) (Nat.zero_le _) (vx_ret ?_)
        exact rt_i (wo := (fun v => WX cB cI q0 q1 q2 q3 q4 q5 q6 q7 q8 q9 q10 v)) S hr hlk u hP hS hw dX5_get_36
    · replace hw := hw.2 c2
      exact b10 u H locs ls hP hD hS (lv_sub hl [] rfl) hw
-- X5_write
def wX5_write_b22 (a1 : Int32) (a2 : Int32) (P : SX → Prop) (Px : SX → Prop) : Nat → Int32 → SX → Prop
  | 0, _, _ => False
  | n + 1, x3, u => (((4 : Int32) ≤ x3 → (P u)) ∧ (¬ (4 : Int32) ≤ x3 → (wX2_put (a1 + x3) (a2 >>> (((24 : Int32) - ((8 : Int32) * x3)) &&& 31)) (p_mem (x_proc u)) (fun u4 => (wX5_write_b22 a1 a2 P Px n (x3 + (1 : Int32)) (xs_proc u (ps_mem (x_proc u) u4)))))))
def wX5_write_b10 (a1 : Int32) (a2 : Int32) (P : SX → Prop) (Px : SX → Prop)  (u : SX) : Prop := (Px u)
def wX5_write (a1 : Int32) (a2 : Int32) (u : SX) (P : SX → Prop) (Px : SX → Prop) : Prop := ((a1 < (0 : Int32) → (wX5_write_b10 a1 a2 P Px u)) ∧ (¬ a1 < (0 : Int32) → ((a1 ≤ (1048572 : Int32) → (∃ n, wX5_write_b22 a1 a2 P Px n (0 : Int32) u)) ∧ (¬ a1 ≤ (1048572 : Int32) → (wX5_write_b10 a1 a2 P Px u)))))
set_option maxHeartbeats 4000000 in
set_option maxRecDepth 100000 in
theorem kcX5_write (l : Launch) (hl9 : l.stackTraces = false) (D : va_G) (cB cI : ClassId) (sa : Nat) (q0 q1 q2 q3 q4 q5 q6 q7 q8 q9 q10 : Nat) (sz : Nat) (a1 : Int32) (a2 : Int32) (u : SX) (P : SX → Prop) (Px : SX → Prop) (hw : wX5_write a1 a2 u P Px) : vx_Met l yX5_write wsX5_write ({ frames := 6, cells := 1, slots := 6, locals := 82 } : Room) (va_Pc [.ref q10, .int a1, .int a2] (Pcw D (tyA cB cI) (WX cB cI q0 q1 q2 q3 q4 q5 q6 q7 q8 q9 q10 u) sz (Tx "java/lang/IndexOutOfBoundsException" 24 "no room for four bytes there" 67 sa (WX cB cI q0 q1 q2 q3 q4 q5 q6 q7 q8 q9 q10 u) sz))) (va_Qv P (fun u t => va_P D vwCl (WX cB cI q0 q1 q2 q3 q4 q5 q6 q7 q8 q9 q10 u) t.heap) (va_A (WX cB cI q0 q1 q2 q3 q4 q5 q6 q7 q8 q9 q10 u) sz)) (vx_X Px (fun E u t => E = "java/lang/IndexOutOfBoundsException" ∧ va_P D vwCl (WX cB cI q0 q1 q2 q3 q4 q5 q6 q7 q8 q9 q10 u) t.heap) (va_A (WX cB cI q0 q1 q2 q3 q4 q5 q6 q7 q8 q9 q10 u) sz)) 1 6 (va_A (WX cB cI q0 q1 q2 q3 q4 q5 q6 q7 q8 q9 q10 u) sz) := by
  refine enx_ (cc := cX5_write) (maxL := 4) (ret := none) (own := RX5) (lv := [(0, .ref q10), (1, .int a1), (2, .int a2)]) (Qf := fun A => va_Qv P (fun u t => va_P D vwCl (WX cB cI q0 q1 q2 q3 q4 q5 q6 q7 q8 q9 q10 u) t.heap) A) (Xf := fun A => vx_X Px (fun E u t => E = "java/lang/IndexOutOfBoundsException" ∧ va_P D vwCl (WX cB cI q0 q1 q2 q3 q4 q5 q6 q7 q8 q9 q10 u) t.heap) A) (by decide) rfl rfl (Nat.le_of_ble_eq_true rfl) rfl ?_
  intro p e s m below meth c A ls S ht hr hlk hname hsz hP hK hD hA hSub hS hE hl
  have hx := S.1
  have hb := S.2.1
  have hown := S.2.2.2.1
  have hts := S.2.2.2.2
  have i_X3 : ∀ w ∈ u_ws RX3 TX3 8, w ∈ wsX5_write := by decide +kernel
  have i_X5 : ∀ w ∈ u_ws RX5 TX5 5, w ∈ wsX5_write := by decide +kernel
  have f_10 := hts (.fieldLink RX5 10 "MachineCore" "processor" "LMachineCore$Processor;") (by decide +kernel)
  have f_69 := hts (.fieldLink RX5 69 "MachineCore$Processor" "memory" "LMachineCore$Memory;") (by decide +kernel)
  have k_66 := hts (.constant RX5 66 (1048572)) (by decide +kernel)
  have hE := tx_own hsz hSub hE
  have b22 : ∀ (n : Nat) (x3 : Int32) (u : SX) (H : Heap) (locs : List Loc) (ls : Array Slot), va_P D vwCl (WX cB cI q0 q1 q2 q3 q4 q5 q6 q7 q8 q9 q10 u) H → va_D A (WX cB cI q0 q1 q2 q3 q4 q5 q6 q7 q8 q9 q10 u) → va_S A s.heap H locs → lv_has ls 4 [(0, .ref q10), (1, .int a1), (2, .int a2), (3, .int x3)] → wX5_write_b22 a1 a2 P Px n x3 u → W p l e ({ frames := 6, cells := 1, slots := 6, locals := 82 } : Room) s m ([.ref q10, .int a1, .int a2] : List Value).toArray below meth c H locs 0 0 (vx_MQ below (va_Qv P (fun u t => va_P D vwCl (WX cB cI q0 q1 q2 q3 q4 q5 q6 q7 q8 q9 q10 u) t.heap) A) (vx_X Px (fun E u t => E = "java/lang/IndexOutOfBoundsException" ∧ va_P D vwCl (WX cB cI q0 q1 q2 q3 q4 q5 q6 q7 q8 q9 q10 u) t.heap) A) ([.ref q10, .int a1, .int a2] : List Value).toArray s 1 6 A) (F0 m 22 ls []) := by
    intro n
    induction n with
    | zero => intro x3 u H locs ls hP hD hS hl hw; exact False.elim hw
    | succ n ih =>
      intro x3 u H locs ls hP hD hS hl hw
      rw [wX5_write_b22] at hw
      refine lv_iload_n hx hb dX5_write_22 rfl (lv_at hl 3 rfl) ?_
      refine lv_iconst (v := (4 : Int32)) hx hb dX5_write_23 (by decide) ?_
      refine lv_icmp_ge (tgt := 55) hx hb dX5_write_24 (by decide) (fun c3 => ?_) (fun c3 => ?_)
      · replace hw := hw.1 c3
        refine W.widen (k := 1) (n := 6) (Nat.zero_le _) (Nat.zero_le _) (vx_ret ?_)
        exact rt_v (wo := (fun v => WX cB cI q0 q1 q2 q3 q4 q5 q6 q7 q8 q9 q10 v)) S hr hlk u hP hS hw dX5_write_55
      · replace hw := hw.2 c3
        refine lv_aload_n hx hb dX5_write_27 rfl (lv_at hl 0 rfl) ?_
        refine va_get (D := D) (ci := 5) (v := .ref q0) (C := RX5) (T := TX5) (N := 5) hx hb hts i_X5 hown hK hP 0 rfl rfl 0 (by decide) f_10 (fun _ h9 => h9) rfl dX5_write_28 ?_
        refine va_get (D := D) (ci := 3) (v := .ref q1) (C := RX3) (T := TX3) (N := 8) hx hb hts i_X3 hown hK hP 1 rfl rfl 0 (by decide) f_69 (fun _ h9 => h9) rfl dX5_write_31 ?_
        refine lv_iload_n hx hb dX5_write_34 rfl (lv_at hl 1 rfl) ?_
        refine lv_iload_n hx hb dX5_write_35 rfl (lv_at hl 3 rfl) ?_
        refine lv_iadd hx hb dX5_write_36 ?_
        refine lv_iload_n hx hb dX5_write_37 rfl (lv_at hl 2 rfl) ?_
        refine lv_bipush (v := (24 : Int32)) hx hb dX5_write_38 (by decide) ?_
        refine lv_bipush (v := (8 : Int32)) hx hb dX5_write_40 (by decide) ?_
        refine lv_iload_n hx hb dX5_write_42 rfl (lv_at hl 3 rfl) ?_
        refine lv_imul hx hb dX5_write_43 ?_
        refine lv_isub hx hb dX5_write_44 ?_
        refine lv_ishr hx hb dX5_write_45 ?_
        refine cl_Vv (As := [.int (a1 + x3), .int (a2 >>> (((24 : Int32) - ((8 : Int32) * x3)) &&& 31))]) (rest := []) (st := [.int (a2 >>> (((24 : Int32) - ((8 : Int32) * x3)) &&& 31)), .int (a1 + x3), .ref q1]) S hK hA hP hD hS (fr_X_M u) (kcX2_put l D cB cI q1 q2 q3 H.size (a1 + x3) (a2 >>> (((24 : Int32) - ((8 : Int32) * x3)) &&& 31)) (p_mem (x_proc u)) _ hw) (cwV 2 hts gX5_write_X2_put rfl rfl rfl (by decide +kernel) ⟨Nat.le_of_ble_eq_true rfl, Nat.le_of_ble_eq_true rfl⟩) tru_h tru_b 2 rfl rfl rfl rfl rfl hl.1 (Nat.le_of_ble_eq_true rfl) dX5_write_46 ⟨Nat.zero_le _, Nat.zero_le _⟩ (fun u4 H locs hP hD hS hw => ?_)
        replace hP : va_P D vwCl (WX cB cI q0 q1 q2 q3 q4 q5 q6 q7 q8 q9 q10 (xs_proc u (ps_mem (x_proc u) u4))) H := hP
        replace hD : va_D A (WX cB cI q0 q1 q2 q3 q4 q5 q6 q7 q8 q9 q10 (xs_proc u (ps_mem (x_proc u) u4))) := hD
        refine lv_iinc (v := (x3 + (1 : Int32))) (lv' := [(3, .int (x3 + (1 : Int32))), (0, .ref q10), (1, .int a1), (2, .int a2)]) hx hb dX5_write_49 hl (k := 3) rfl rfl (by decide) rfl (fun ls hl => ?_)
        refine lv_goto (tgt := 22) hx hb dX5_write_52 (by decide) ?_
        exact ih (x3 + (1 : Int32)) (xs_proc u (ps_mem (x_proc u) u4)) H locs ls hP hD hS (lv_sub hl [1, 2, 3, 0] rfl) hw
  have b10 : ∀  (u : SX) (H : Heap) (locs : List Loc) (ls : Array Slot), va_P D vwCl (WX cB cI q0 q1 q2 q3 q4 q5 q6 q7 q8 q9 q10 u) H → va_D A (WX cB cI q0 q1 q2 q3 q4 q5 q6 q7 q8 q9 q10 u) → va_S A s.heap H locs → lv_has ls 4 [] → wX5_write_b10 a1 a2 P Px u → W p l e ({ frames := 6, cells := 1, slots := 6, locals := 82 } : Room) s m ([.ref q10, .int a1, .int a2] : List Value).toArray below meth c H locs 0 0 (vx_MQ below (va_Qv P (fun u t => va_P D vwCl (WX cB cI q0 q1 q2 q3 q4 q5 q6 q7 q8 q9 q10 u) t.heap) A) (vx_X Px (fun E u t => E = "java/lang/IndexOutOfBoundsException" ∧ va_P D vwCl (WX cB cI q0 q1 q2 q3 q4 q5 q6 q7 q8 q9 q10 u) t.heap) A) ([.ref q10, .int a1, .int a2] : List Value).toArray s 1 6 A) (F0 m 10 ls []) := by
    intro u H locs ls hP hD hS hl hw
    unfold wX5_write_b10 at hw
    exact th_ (wn := fun v => WX cB cI q0 q1 q2 q3 q4 q5 q6 q7 q8 q9 q10 v) (by decide +kernel) (cls := "java/lang/IndexOutOfBoundsException") (text := "no room for four bytes there") (ik := 20) (is := 67) (ic := 24) (pc := 10) S hl9 ht hlk (hts (.classLink RX5 20 "java/lang/IndexOutOfBoundsException") (by decide +kernel)) (hts (.initialized "java/lang/IndexOutOfBoundsException") (by decide +kernel)) (xt_hat hts (fun w h => List.mem_cons_of_mem _ (List.mem_append_right _ h)) hE.2.2.2) xt_o20_24 hE hl.1 dX5_write_10 dX5_write_13 dX5_write_14 dX5_write_16 dX5_write_19 ⟨Nat.le_of_ble_eq_true rfl, Nat.le_of_ble_eq_true rfl, Nat.le_of_ble_eq_true rfl, Nat.le_of_ble_eq_true rfl⟩ hS u hP hw
  unfold wX5_write at hw
  obtain ⟨H, eH⟩ : ∃ H, H = s.heap := ⟨_, rfl⟩
  obtain ⟨locs, eL⟩ : ∃ locs : List Loc, locs = [] := ⟨_, rfl⟩
  replace hP : va_P D vwCl (WX cB cI q0 q1 q2 q3 q4 q5 q6 q7 q8 q9 q10 u) H := by rw [eH]; exact hP
  replace hS : va_S A s.heap H locs := by rw [eH, eL]; exact hS
  suffices hgo : W p l e ({ frames := 6, cells := 1, slots := 6, locals := 82 } : Room) s m ([.ref q10, .int a1, .int a2] : List Value).toArray below meth c H locs 0 0 (vx_MQ below (va_Qv P (fun u t => va_P D vwCl (WX cB cI q0 q1 q2 q3 q4 q5 q6 q7 q8 q9 q10 u) t.heap) A) (vx_X Px (fun E u t => E = "java/lang/IndexOutOfBoundsException" ∧ va_P D vwCl (WX cB cI q0 q1 q2 q3 q4 q5 q6 q7 q8 q9 q10 u) t.heap) A) ([.ref q10, .int a1, .int a2] : List Value).toArray s 1 6 A) (F0 m 0 ls []) by rw [eH, eL] at hgo; exact hgo
  clear eH eL
  refine lv_iload_n hx hb dX5_write_0 rfl (lv_at hl 1 rfl) ?_
  refine lv_if_lt (tgt := 10) hx hb dX5_write_1 (by decide) (fun c1 => ?_) (fun c1 => ?_)
  · replace hw := hw.1 c1
    exact b10 u H locs ls hP hD hS (lv_sub hl [] rfl) hw
  · replace hw := hw.2 c1
    refine lv_iload_n hx hb dX5_write_4 rfl (lv_at hl 1 rfl) ?_
    refine lv_ldc (v := (1048572 : Int32)) hx hb hown k_66 dX5_write_5 ?_
    refine lv_icmp_le (tgt := 20) hx hb dX5_write_7 (by decide) (fun c2 => ?_) (fun c2 => ?_)
    · replace hw := hw.1 c2
      refine lv_iconst (v := (0 : Int32)) hx hb dX5_write_20 (by decide) ?_
      refine lv_istore_n (lv' := [(3, .int (0 : Int32)), (0, .ref q10), (1, .int a1), (2, .int a2)]) hx hb dX5_write_21 rfl hl (by decide) rfl (fun ls hl => ?_)
      obtain ⟨n, hw⟩ := hw
      exact b22 n (0 : Int32) u H locs ls hP hD hS (lv_sub hl [1, 2, 3, 0] rfl) hw
    · replace hw := hw.2 c2
      exact b10 u H locs ls hP hD hS (lv_sub hl [] rfl) hw
-- X5_byteAt
def wX5_byteAt_b10 (a1 : Int32) (P : Int32 → SX → Prop) (Px : SX → Prop)  (u : SX) : Prop := (Px u)
def wX5_byteAt (a1 : Int32) (u : SX) (P : Int32 → SX → Prop) (Px : SX → Prop) : Prop := ((a1 < (0 : Int32) → (wX5_byteAt_b10 a1 P Px u)) ∧ (¬ a1 < (0 : Int32) → ((a1 ≤ (1048575 : Int32) → (wX2_at a1 (p_mem (x_proc u)) (fun r4 u3 => (P r4 (xs_proc u (ps_mem (x_proc u) u3)))))) ∧ (¬ a1 ≤ (1048575 : Int32) → (wX5_byteAt_b10 a1 P Px u)))))
set_option maxHeartbeats 4000000 in
set_option maxRecDepth 100000 in
theorem kcX5_byteAt (l : Launch) (hl9 : l.stackTraces = false) (D : va_G) (cB cI : ClassId) (sa : Nat) (q0 q1 q2 q3 q4 q5 q6 q7 q8 q9 q10 : Nat) (sz : Nat) (a1 : Int32) (u : SX) (P : Int32 → SX → Prop) (Px : SX → Prop) (hw : wX5_byteAt a1 u P Px) : vx_Met l yX5_byteAt wsX5_byteAt ({ frames := 6, cells := 1, slots := 6, locals := 82 } : Room) (va_Pc [.ref q10, .int a1] (Pcw D (tyA cB cI) (WX cB cI q0 q1 q2 q3 q4 q5 q6 q7 q8 q9 q10 u) sz (Tx "java/lang/IndexOutOfBoundsException" 24 "no such place" 79 sa (WX cB cI q0 q1 q2 q3 q4 q5 q6 q7 q8 q9 q10 u) sz))) (va_Qi P (fun u t => va_P D vwCl (WX cB cI q0 q1 q2 q3 q4 q5 q6 q7 q8 q9 q10 u) t.heap) (va_A (WX cB cI q0 q1 q2 q3 q4 q5 q6 q7 q8 q9 q10 u) sz)) (vx_X Px (fun E u t => E = "java/lang/IndexOutOfBoundsException" ∧ va_P D vwCl (WX cB cI q0 q1 q2 q3 q4 q5 q6 q7 q8 q9 q10 u) t.heap) (va_A (WX cB cI q0 q1 q2 q3 q4 q5 q6 q7 q8 q9 q10 u) sz)) 1 6 (va_A (WX cB cI q0 q1 q2 q3 q4 q5 q6 q7 q8 q9 q10 u) sz) := by
  refine enx_ (cc := cX5_byteAt) (maxL := 2) (ret := (some .int)) (own := RX5) (lv := [(0, .ref q10), (1, .int a1)]) (Qf := fun A => va_Qi P (fun u t => va_P D vwCl (WX cB cI q0 q1 q2 q3 q4 q5 q6 q7 q8 q9 q10 u) t.heap) A) (Xf := fun A => vx_X Px (fun E u t => E = "java/lang/IndexOutOfBoundsException" ∧ va_P D vwCl (WX cB cI q0 q1 q2 q3 q4 q5 q6 q7 q8 q9 q10 u) t.heap) A) (by decide) rfl rfl (Nat.le_of_ble_eq_true rfl) rfl ?_
  intro p e s m below meth c A ls S ht hr hlk hname hsz hP hK hD hA hSub hS hE hl
  have hx := S.1
  have hb := S.2.1
  have hown := S.2.2.2.1
  have hts := S.2.2.2.2
  have i_X3 : ∀ w ∈ u_ws RX3 TX3 8, w ∈ wsX5_byteAt := by decide +kernel
  have i_X5 : ∀ w ∈ u_ws RX5 TX5 5, w ∈ wsX5_byteAt := by decide +kernel
  have f_10 := hts (.fieldLink RX5 10 "MachineCore" "processor" "LMachineCore$Processor;") (by decide +kernel)
  have f_69 := hts (.fieldLink RX5 69 "MachineCore$Processor" "memory" "LMachineCore$Memory;") (by decide +kernel)
  have k_78 := hts (.constant RX5 78 (1048575)) (by decide +kernel)
  have hE := tx_own hsz hSub hE
  have b10 : ∀  (u : SX) (H : Heap) (locs : List Loc) (ls : Array Slot), va_P D vwCl (WX cB cI q0 q1 q2 q3 q4 q5 q6 q7 q8 q9 q10 u) H → va_D A (WX cB cI q0 q1 q2 q3 q4 q5 q6 q7 q8 q9 q10 u) → va_S A s.heap H locs → lv_has ls 2 [] → wX5_byteAt_b10 a1 P Px u → W p l e ({ frames := 6, cells := 1, slots := 6, locals := 82 } : Room) s m ([.ref q10, .int a1] : List Value).toArray below meth c H locs 0 0 (vx_MQ below (va_Qi P (fun u t => va_P D vwCl (WX cB cI q0 q1 q2 q3 q4 q5 q6 q7 q8 q9 q10 u) t.heap) A) (vx_X Px (fun E u t => E = "java/lang/IndexOutOfBoundsException" ∧ va_P D vwCl (WX cB cI q0 q1 q2 q3 q4 q5 q6 q7 q8 q9 q10 u) t.heap) A) ([.ref q10, .int a1] : List Value).toArray s 1 6 A) (F0 m 10 ls []) := by
    intro u H locs ls hP hD hS hl hw
    unfold wX5_byteAt_b10 at hw
    exact th_ (wn := fun v => WX cB cI q0 q1 q2 q3 q4 q5 q6 q7 q8 q9 q10 v) (by decide +kernel) (cls := "java/lang/IndexOutOfBoundsException") (text := "no such place") (ik := 20) (is := 79) (ic := 24) (pc := 10) S hl9 ht hlk (hts (.classLink RX5 20 "java/lang/IndexOutOfBoundsException") (by decide +kernel)) (hts (.initialized "java/lang/IndexOutOfBoundsException") (by decide +kernel)) (xt_hat hts (fun w h => List.mem_cons_of_mem _ (List.mem_append_right _ h)) hE.2.2.2) xt_o20_24 hE hl.1 dX5_byteAt_10 dX5_byteAt_13 dX5_byteAt_14 dX5_byteAt_16 dX5_byteAt_19 ⟨Nat.le_of_ble_eq_true rfl, Nat.le_of_ble_eq_true rfl, Nat.le_of_ble_eq_true rfl, Nat.le_of_ble_eq_true rfl⟩ hS u hP hw
  unfold wX5_byteAt at hw
  obtain ⟨H, eH⟩ : ∃ H, H = s.heap := ⟨_, rfl⟩
  obtain ⟨locs, eL⟩ : ∃ locs : List Loc, locs = [] := ⟨_, rfl⟩
  replace hP : va_P D vwCl (WX cB cI q0 q1 q2 q3 q4 q5 q6 q7 q8 q9 q10 u) H := by rw [eH]; exact hP
  replace hS : va_S A s.heap H locs := by rw [eH, eL]; exact hS
  suffices hgo : W p l e ({ frames := 6, cells := 1, slots := 6, locals := 82 } : Room) s m ([.ref q10, .int a1] : List Value).toArray below meth c H locs 0 0 (vx_MQ below (va_Qi P (fun u t => va_P D vwCl (WX cB cI q0 q1 q2 q3 q4 q5 q6 q7 q8 q9 q10 u) t.heap) A) (vx_X Px (fun E u t => E = "java/lang/IndexOutOfBoundsException" ∧ va_P D vwCl (WX cB cI q0 q1 q2 q3 q4 q5 q6 q7 q8 q9 q10 u) t.heap) A) ([.ref q10, .int a1] : List Value).toArray s 1 6 A) (F0 m 0 ls []) by rw [eH, eL] at hgo; exact hgo
  clear eH eL
  refine lv_iload_n hx hb dX5_byteAt_0 rfl (lv_at hl 1 rfl) ?_
  refine lv_if_lt (tgt := 10) hx hb dX5_byteAt_1 (by decide) (fun c1 => ?_) (fun c1 => ?_)
  · replace hw := hw.1 c1
    exact b10 u H locs ls hP hD hS (lv_sub hl [] rfl) hw
  · replace hw := hw.2 c1
    refine lv_iload_n hx hb dX5_byteAt_4 rfl (lv_at hl 1 rfl) ?_
    refine lv_ldc (v := (1048575 : Int32)) hx hb hown k_78 dX5_byteAt_5 ?_
    refine lv_icmp_le (tgt := 20) hx hb dX5_byteAt_7 (by decide) (fun c2 => ?_) (fun c2 => ?_)
    · replace hw := hw.1 c2
      refine lv_aload_n hx hb dX5_byteAt_20 rfl (lv_at hl 0 rfl) ?_
      refine va_get (D := D) (ci := 5) (v := .ref q0) (C := RX5) (T := TX5) (N := 5) hx hb hts i_X5 hown hK hP 0 rfl rfl 0 (by decide) f_10 (fun _ h9 => h9) rfl dX5_byteAt_21 ?_
      refine va_get (D := D) (ci := 3) (v := .ref q1) (C := RX3) (T := TX3) (N := 8) hx hb hts i_X3 hown hK hP 1 rfl rfl 0 (by decide) f_69 (fun _ h9 => h9) rfl dX5_byteAt_24 ?_
      refine lv_iload_n hx hb dX5_byteAt_27 rfl (lv_at hl 1 rfl) ?_
      refine cl_Vi (As := [.int a1]) (rest := []) (st := [.int a1, .ref q1]) S hK hA hP hD hS (fr_X_M u) (kcX2_at l D cB cI q1 q2 q3 H.size a1 (p_mem (x_proc u)) _ hw) (cwV 1 hts gX5_byteAt_X2_at rfl rfl rfl (by decide +kernel) ⟨Nat.le_of_ble_eq_true rfl, Nat.le_of_ble_eq_true rfl⟩) tru_h tru_b 2 rfl rfl rfl rfl rfl hl.1 (Nat.le_of_ble_eq_true rfl) dX5_byteAt_28 ⟨Nat.zero_le _, Nat.zero_le _⟩ (fun r4 u3 H locs hP hD hS hw => ?_)
      replace hP : va_P D vwCl (WX cB cI q0 q1 q2 q3 q4 q5 q6 q7 q8 q9 q10 (xs_proc u (ps_mem (x_proc u) u3))) H := hP
      replace hD : va_D A (WX cB cI q0 q1 q2 q3 q4 q5 q6 q7 q8 q9 q10 (xs_proc u (ps_mem (x_proc u) u3))) := hD
      refine W.widen (k := 1) (n := 6) (Nat.zero_le _) (Nat.zero_le _) (vx_ret ?_)
      exact rt_i (wo := (fun v => WX cB cI q0 q1 q2 q3 q4 q5 q6 q7 q8 q9 q10 v)) S hr hlk (xs_proc u (ps_mem (x_proc u) u3)) hP hS hw dX5_byteAt_31
    · replace hw := hw.2 c2
      exact b10 u H locs ls hP hD hS (lv_sub hl [] rfl) hw
-- X5_port
def wX5_port (a1 : Int32) (u : SX) (P : Int32 → SX → Prop) : Prop := (wX3_portByte a1 (x_proc u) (fun r2 u1 => (P r2 (xs_proc u u1))))
set_option maxHeartbeats 4000000 in
set_option maxRecDepth 100000 in
theorem kcX5_port (l : Launch) (D : va_G) (cB cI : ClassId) (q0 q1 q2 q3 q4 q5 q6 q7 q8 q9 q10 : Nat) (sz : Nat) (a1 : Int32) (u : SX) (P : Int32 → SX → Prop) (hw : wX5_port a1 u P) : Met l yX5_port wsX5_port ({ frames := 1, cells := 0, slots := 0, locals := 21 } : Room) (va_Pc [.ref q10, .int a1] (Pcw D (tyA cB cI) (WX cB cI q0 q1 q2 q3 q4 q5 q6 q7 q8 q9 q10 u) sz Tru)) (va_Qi P (fun u t => va_P D vwCl (WX cB cI q0 q1 q2 q3 q4 q5 q6 q7 q8 q9 q10 u) t.heap) (va_A (WX cB cI q0 q1 q2 q3 q4 q5 q6 q7 q8 q9 q10 u) sz)) 0 0 (va_A (WX cB cI q0 q1 q2 q3 q4 q5 q6 q7 q8 q9 q10 u) sz) := by
  refine en_ (cc := cX5_port) (maxL := 2) (ret := (some .int)) (own := RX5) (lv := [(0, .ref q10), (1, .int a1)]) (Qf := fun A => va_Qi P (fun u t => va_P D vwCl (WX cB cI q0 q1 q2 q3 q4 q5 q6 q7 q8 q9 q10 u) t.heap) A) (by decide) rfl rfl (Nat.le_of_ble_eq_true rfl) rfl ?_
  intro p e s m below meth c A ls S hr hlk hname hsz hP hK hD hA hSub hS hE hl
  have hx := S.1
  have hb := S.2.1
  have hown := S.2.2.2.1
  have hts := S.2.2.2.2
  have i_X5 : ∀ w ∈ u_ws RX5 TX5 5, w ∈ wsX5_port := by decide +kernel
  have f_10 := hts (.fieldLink RX5 10 "MachineCore" "processor" "LMachineCore$Processor;") (by decide +kernel)
  unfold wX5_port at hw
  obtain ⟨H, eH⟩ : ∃ H, H = s.heap := ⟨_, rfl⟩
  obtain ⟨locs, eL⟩ : ∃ locs : List Loc, locs = [] := ⟨_, rfl⟩
  replace hP : va_P D vwCl (WX cB cI q0 q1 q2 q3 q4 q5 q6 q7 q8 q9 q10 u) H := by rw [eH]; exact hP
  replace hS : va_S A s.heap H locs := by rw [eH, eL]; exact hS
  suffices hgo : W p l e ({ frames := 1, cells := 0, slots := 0, locals := 21 } : Room) s m ([.ref q10, .int a1] : List Value).toArray below meth c H locs 0 0 (MQ below (va_Qi P (fun u t => va_P D vwCl (WX cB cI q0 q1 q2 q3 q4 q5 q6 q7 q8 q9 q10 u) t.heap) A) ([.ref q10, .int a1] : List Value).toArray s 0 0 A) (F0 m 0 ls []) by rw [eH, eL] at hgo; exact hgo
  clear eH eL
  refine lv_aload_n hx hb dX5_port_0 rfl (lv_at hl 0 rfl) ?_
  refine va_get (D := D) (ci := 5) (v := .ref q0) (C := RX5) (T := TX5) (N := 5) hx hb hts i_X5 hown hK hP 0 rfl rfl 0 (by decide) f_10 (fun _ h9 => h9) rfl dX5_port_1 ?_
  refine lv_iload_n hx hb dX5_port_4 rfl (lv_at hl 1 rfl) ?_
  refine cl_Vi (As := [.int a1]) (rest := []) (st := [.int a1, .ref q0]) S hK hA hP hD hS (fr_X_P u) (kcX3_portByte l D cB cI q0 q1 q2 q3 q4 q5 q6 q7 q8 q9 H.size a1 (x_proc u) _ hw) (cwV 1 hts gX5_port_X3_portByte rfl rfl rfl (by decide +kernel) ⟨Nat.le_of_ble_eq_true rfl, Nat.le_of_ble_eq_true rfl⟩) tru_h tru_b 1 rfl rfl rfl rfl rfl hl.1 (Nat.le_of_ble_eq_true rfl) dX5_port_5 ⟨Nat.zero_le _, Nat.zero_le _⟩ (fun r2 u1 H locs hP hD hS hw => ?_)
  replace hP : va_P D vwCl (WX cB cI q0 q1 q2 q3 q4 q5 q6 q7 q8 q9 q10 (xs_proc u u1)) H := hP
  replace hD : va_D A (WX cB cI q0 q1 q2 q3 q4 q5 q6 q7 q8 q9 q10 (xs_proc u u1)) := hD
  exact rt_i (wo := (fun v => WX cB cI q0 q1 q2 q3 q4 q5 q6 q7 q8 q9 q10 v)) S hr hlk (xs_proc u u1) hP hS hw dX5_port_8
-- X5_setPort
def wX5_setPort (a1 : Int32) (a2 : Int32) (u : SX) (P : SX → Prop) : Prop := (wX3_givePort a1 a2 (x_proc u) (fun u1 => (P (xs_proc u u1))))
set_option maxHeartbeats 4000000 in
set_option maxRecDepth 100000 in
theorem kcX5_setPort (l : Launch) (D : va_G) (cB cI : ClassId) (q0 q1 q2 q3 q4 q5 q6 q7 q8 q9 q10 : Nat) (sz : Nat) (a1 : Int32) (a2 : Int32) (u : SX) (P : SX → Prop) (hw : wX5_setPort a1 a2 u P) : Met l yX5_setPort wsX5_setPort ({ frames := 1, cells := 0, slots := 0, locals := 22 } : Room) (va_Pc [.ref q10, .int a1, .int a2] (Pcw D (tyA cB cI) (WX cB cI q0 q1 q2 q3 q4 q5 q6 q7 q8 q9 q10 u) sz Tru)) (va_Qv P (fun u t => va_P D vwCl (WX cB cI q0 q1 q2 q3 q4 q5 q6 q7 q8 q9 q10 u) t.heap) (va_A (WX cB cI q0 q1 q2 q3 q4 q5 q6 q7 q8 q9 q10 u) sz)) 0 0 (va_A (WX cB cI q0 q1 q2 q3 q4 q5 q6 q7 q8 q9 q10 u) sz) := by
  refine en_ (cc := cX5_setPort) (maxL := 3) (ret := none) (own := RX5) (lv := [(0, .ref q10), (1, .int a1), (2, .int a2)]) (Qf := fun A => va_Qv P (fun u t => va_P D vwCl (WX cB cI q0 q1 q2 q3 q4 q5 q6 q7 q8 q9 q10 u) t.heap) A) (by decide) rfl rfl (Nat.le_of_ble_eq_true rfl) rfl ?_
  intro p e s m below meth c A ls S hr hlk hname hsz hP hK hD hA hSub hS hE hl
  have hx := S.1
  have hb := S.2.1
  have hown := S.2.2.2.1
  have hts := S.2.2.2.2
  have i_X5 : ∀ w ∈ u_ws RX5 TX5 5, w ∈ wsX5_setPort := by decide +kernel
  have f_10 := hts (.fieldLink RX5 10 "MachineCore" "processor" "LMachineCore$Processor;") (by decide +kernel)
  unfold wX5_setPort at hw
  obtain ⟨H, eH⟩ : ∃ H, H = s.heap := ⟨_, rfl⟩
  obtain ⟨locs, eL⟩ : ∃ locs : List Loc, locs = [] := ⟨_, rfl⟩
  replace hP : va_P D vwCl (WX cB cI q0 q1 q2 q3 q4 q5 q6 q7 q8 q9 q10 u) H := by rw [eH]; exact hP
  replace hS : va_S A s.heap H locs := by rw [eH, eL]; exact hS
  suffices hgo : W p l e ({ frames := 1, cells := 0, slots := 0, locals := 22 } : Room) s m ([.ref q10, .int a1, .int a2] : List Value).toArray below meth c H locs 0 0 (MQ below (va_Qv P (fun u t => va_P D vwCl (WX cB cI q0 q1 q2 q3 q4 q5 q6 q7 q8 q9 q10 u) t.heap) A) ([.ref q10, .int a1, .int a2] : List Value).toArray s 0 0 A) (F0 m 0 ls []) by rw [eH, eL] at hgo; exact hgo
  clear eH eL
  refine lv_aload_n hx hb dX5_setPort_0 rfl (lv_at hl 0 rfl) ?_
  refine va_get (D := D) (ci := 5) (v := .ref q0) (C := RX5) (T := TX5) (N := 5) hx hb hts i_X5 hown hK hP 0 rfl rfl 0 (by decide) f_10 (fun _ h9 => h9) rfl dX5_setPort_1 ?_
  refine lv_iload_n hx hb dX5_setPort_4 rfl (lv_at hl 1 rfl) ?_
  refine lv_iload_n hx hb dX5_setPort_5 rfl (lv_at hl 2 rfl) ?_
  refine cl_Vv (As := [.int a1, .int a2]) (rest := []) (st := [.int a2, .int a1, .ref q0]) S hK hA hP hD hS (fr_X_P u) (kcX3_givePort l D cB cI q0 q1 q2 q3 q4 q5 q6 q7 q8 q9 H.size a1 a2 (x_proc u) _ hw) (cwV 2 hts gX5_setPort_X3_givePort rfl rfl rfl (by decide +kernel) ⟨Nat.le_of_ble_eq_true rfl, Nat.le_of_ble_eq_true rfl⟩) tru_h tru_b 1 rfl rfl rfl rfl rfl hl.1 (Nat.le_of_ble_eq_true rfl) dX5_setPort_6 ⟨Nat.zero_le _, Nat.zero_le _⟩ (fun u1 H locs hP hD hS hw => ?_)
  replace hP : va_P D vwCl (WX cB cI q0 q1 q2 q3 q4 q5 q6 q7 q8 q9 q10 (xs_proc u u1)) H := hP
  replace hD : va_D A (WX cB cI q0 q1 q2 q3 q4 q5 q6 q7 q8 q9 q10 (xs_proc u u1)) := hD
  exact rt_v (wo := (fun v => WX cB cI q0 q1 q2 q3 q4 q5 q6 q7 q8 q9 q10 v)) S hr hlk (xs_proc u u1) hP hS hw dX5_setPort_9
-- X5_line
def wX5_line_b27 (a1 : Int32) (P : SX → Prop) (Px : SX → Prop) (s1 : Int32) (u : SX) : Prop := (P (xs_waiting u s1))
def wX5_line (a1 : Int32) (u : SX) (P : SX → Prop) (Px : SX → Prop) : Prop := ((a1 ≤ (255 : Int32) → (((0 : Int32) ≤ a1 → (wX5_line_b27 a1 P Px a1 u)) ∧ (¬ (0 : Int32) ≤ a1 → (wX5_line_b27 a1 P Px (-1 : Int32) u)))) ∧ (¬ a1 ≤ (255 : Int32) → (Px u)))
set_option maxHeartbeats 4000000 in
set_option maxRecDepth 100000 in
theorem kcX5_line (l : Launch) (hl9 : l.stackTraces = false) (D : va_G) (cB cI : ClassId) (sa : Nat) (q0 q1 q2 q3 q4 q5 q6 q7 q8 q9 q10 : Nat) (sz : Nat) (a1 : Int32) (u : SX) (P : SX → Prop) (Px : SX → Prop) (hw : wX5_line a1 u P Px) : vx_Met l yX5_line wsX5_line ({ frames := 6, cells := 1, slots := 6, locals := 82 } : Room) (va_Pc [.ref q10, .int a1] (Pcw D (tyA cB cI) (WX cB cI q0 q1 q2 q3 q4 q5 q6 q7 q8 q9 q10 u) sz (Tx "java/lang/IllegalArgumentException" 94 "no such interrupt" 92 sa (WX cB cI q0 q1 q2 q3 q4 q5 q6 q7 q8 q9 q10 u) sz))) (va_Qv P (fun u t => va_P D vwCl (WX cB cI q0 q1 q2 q3 q4 q5 q6 q7 q8 q9 q10 u) t.heap) (va_A (WX cB cI q0 q1 q2 q3 q4 q5 q6 q7 q8 q9 q10 u) sz)) (vx_X Px (fun E u t => E = "java/lang/IllegalArgumentException" ∧ va_P D vwCl (WX cB cI q0 q1 q2 q3 q4 q5 q6 q7 q8 q9 q10 u) t.heap) (va_A (WX cB cI q0 q1 q2 q3 q4 q5 q6 q7 q8 q9 q10 u) sz)) 1 6 (va_A (WX cB cI q0 q1 q2 q3 q4 q5 q6 q7 q8 q9 q10 u) sz) := by
  refine enx_ (cc := cX5_line) (maxL := 2) (ret := none) (own := RX5) (lv := [(0, .ref q10), (1, .int a1)]) (Qf := fun A => va_Qv P (fun u t => va_P D vwCl (WX cB cI q0 q1 q2 q3 q4 q5 q6 q7 q8 q9 q10 u) t.heap) A) (Xf := fun A => vx_X Px (fun E u t => E = "java/lang/IllegalArgumentException" ∧ va_P D vwCl (WX cB cI q0 q1 q2 q3 q4 q5 q6 q7 q8 q9 q10 u) t.heap) A) (by decide) rfl rfl (Nat.le_of_ble_eq_true rfl) rfl ?_
  intro p e s m below meth c A ls S ht hr hlk hname hsz hP hK hD hA hSub hS hE hl
  have hx := S.1
  have hb := S.2.1
  have hown := S.2.2.2.1
  have hts := S.2.2.2.2
  have i_X5 : ∀ w ∈ u_ws RX5 TX5 5, w ∈ wsX5_line := by decide +kernel
  have f_16 := hts (.fieldLink RX5 16 "MachineCore" "waiting" "I") (by decide +kernel)
  have hE := tx_own hsz hSub hE
  have b27 : ∀ (s1 : Int32) (u : SX) (H : Heap) (locs : List Loc) (ls : Array Slot), va_P D vwCl (WX cB cI q0 q1 q2 q3 q4 q5 q6 q7 q8 q9 q10 u) H → va_D A (WX cB cI q0 q1 q2 q3 q4 q5 q6 q7 q8 q9 q10 u) → va_S A s.heap H locs → lv_has ls 2 [] → wX5_line_b27 a1 P Px s1 u → W p l e ({ frames := 6, cells := 1, slots := 6, locals := 82 } : Room) s m ([.ref q10, .int a1] : List Value).toArray below meth c H locs 0 0 (vx_MQ below (va_Qv P (fun u t => va_P D vwCl (WX cB cI q0 q1 q2 q3 q4 q5 q6 q7 q8 q9 q10 u) t.heap) A) (vx_X Px (fun E u t => E = "java/lang/IllegalArgumentException" ∧ va_P D vwCl (WX cB cI q0 q1 q2 q3 q4 q5 q6 q7 q8 q9 q10 u) t.heap) A) ([.ref q10, .int a1] : List Value).toArray s 1 6 A) (F0 m 27 ls [.int s1, .ref q10]) := by
    intro s1 u H locs ls hP hD hS hl hw
    unfold wX5_line_b27 at hw
    refine va_put (D := D) (ci := 5) (v := .int s1) (ty := .int) (C := RX5) (T := TX5) (N := 5) hx hb hts i_X5 tyX5 tyX5_ok nmX5 hown hK hP hD hS 0 rfl rfl 1 (by decide) f_16 (fun _ h9 => h9) rfl (by decide +kernel) rfl rfl (Nat.le_of_ble_eq_true rfl) dX5_line_27 (fun H locs hP hD hS => ?_)
    replace hP : va_P D vwCl (WX cB cI q0 q1 q2 q3 q4 q5 q6 q7 q8 q9 q10 (xs_waiting u s1)) H := hP
    replace hD : va_D A (WX cB cI q0 q1 q2 q3 q4 q5 q6 q7 q8 q9 q10 (xs_waiting u s1)) := hD
    refine W.widen (k := 1) (n := 6) (Nat.zero_le _) (Nat.zero_le _) (vx_ret ?_)
    exact rt_v (wo := (fun v => WX cB cI q0 q1 q2 q3 q4 q5 q6 q7 q8 q9 q10 v)) S hr hlk (xs_waiting u s1) hP hS hw dX5_line_30
  unfold wX5_line at hw
  obtain ⟨H, eH⟩ : ∃ H, H = s.heap := ⟨_, rfl⟩
  obtain ⟨locs, eL⟩ : ∃ locs : List Loc, locs = [] := ⟨_, rfl⟩
  replace hP : va_P D vwCl (WX cB cI q0 q1 q2 q3 q4 q5 q6 q7 q8 q9 q10 u) H := by rw [eH]; exact hP
  replace hS : va_S A s.heap H locs := by rw [eH, eL]; exact hS
  suffices hgo : W p l e ({ frames := 6, cells := 1, slots := 6, locals := 82 } : Room) s m ([.ref q10, .int a1] : List Value).toArray below meth c H locs 0 0 (vx_MQ below (va_Qv P (fun u t => va_P D vwCl (WX cB cI q0 q1 q2 q3 q4 q5 q6 q7 q8 q9 q10 u) t.heap) A) (vx_X Px (fun E u t => E = "java/lang/IllegalArgumentException" ∧ va_P D vwCl (WX cB cI q0 q1 q2 q3 q4 q5 q6 q7 q8 q9 q10 u) t.heap) A) ([.ref q10, .int a1] : List Value).toArray s 1 6 A) (F0 m 0 ls []) by rw [eH, eL] at hgo; exact hgo
  clear eH eL
  refine lv_iload_n hx hb dX5_line_0 rfl (lv_at hl 1 rfl) ?_
  refine lv_sipush (v := (255 : Int32)) hx hb dX5_line_1 (by decide) ?_
  refine lv_icmp_le (tgt := 17) hx hb dX5_line_4 (by decide) (fun c1 => ?_) (fun c1 => ?_)
  · replace hw := hw.1 c1
    refine lv_aload_n hx hb dX5_line_17 rfl (lv_at hl 0 rfl) ?_
    refine lv_iload_n hx hb dX5_line_18 rfl (lv_at hl 1 rfl) ?_
    refine lv_if_ge (tgt := 26) hx hb dX5_line_19 (by decide) (fun c2 => ?_) (fun c2 => ?_)
    · replace hw := hw.1 c2
      refine lv_iload_n hx hb dX5_line_26 rfl (lv_at hl 1 rfl) ?_
      exact b27 a1 u H locs ls hP hD hS (lv_sub hl [] rfl) hw
    · replace hw := hw.2 c2
      refine lv_iconst (v := (-1 : Int32)) hx hb dX5_line_22 (by decide) ?_
      refine lv_goto (tgt := 27) hx hb dX5_line_23 (by decide) ?_
      exact b27 (-1 : Int32) u H locs ls hP hD hS (lv_sub hl [] rfl) hw
  · replace hw := hw.2 c1
    exact th_ (wn := fun v => WX cB cI q0 q1 q2 q3 q4 q5 q6 q7 q8 q9 q10 v) (by decide +kernel) (cls := "java/lang/IllegalArgumentException") (text := "no such interrupt") (ik := 90) (is := 92) (ic := 94) (pc := 7) S hl9 ht hlk (hts (.classLink RX5 90 "java/lang/IllegalArgumentException") (by decide +kernel)) (hts (.initialized "java/lang/IllegalArgumentException") (by decide +kernel)) (xt_hat hts (fun w h => List.mem_cons_of_mem _ (List.mem_append_right _ h)) hE.2.2.2) xt_o90_94 hE hl.1 dX5_line_7 dX5_line_10 dX5_line_11 dX5_line_13 dX5_line_16 ⟨Nat.le_of_ble_eq_true rfl, Nat.le_of_ble_eq_true rfl, Nat.le_of_ble_eq_true rfl, Nat.le_of_ble_eq_true rfl⟩ hS u hP hw
-- X5_noteCodeStep
def wX5_noteCodeStep_b43  (P : SX → Prop) (s1 : Int32) (u : SX) : Prop := (zB s1 ∧ (P (xs_steps (xs_singleStepDue u s1) ((x_steps u) + (1 : Int32)))))
def wX5_noteCodeStep_b42  (P : SX → Prop)  (u : SX) : Prop := (wX5_noteCodeStep_b43  P (0 : Int32) u)
def wX5_noteCodeStep  (u : SX) (P : SX → Prop) : Prop := (wX1_givesSegment  (p_code (x_proc u)) (fun r2 u1 => (zB r2 ∧ (wX0_has (256 : Int32) (p_flags (x_proc u)) (fun r4 u3 => ((r4 = (0 : Int32) → (wX5_noteCodeStep_b42  P (xs_proc (xs_gaveSegment u r2) (ps_code (ps_flags (x_proc u) u3) u1)))) ∧ (¬ r4 = (0 : Int32) → ((r2 = (0 : Int32) → (wX5_noteCodeStep_b43  P (1 : Int32) (xs_proc (xs_gaveSegment u r2) (ps_code (ps_flags (x_proc u) u3) u1)))) ∧ (¬ r2 = (0 : Int32) → (wX5_noteCodeStep_b42  P (xs_proc (xs_gaveSegment u r2) (ps_code (ps_flags (x_proc u) u3) u1))))))))))))
set_option maxHeartbeats 4000000 in
set_option maxRecDepth 100000 in
theorem kcX5_noteCodeStep (l : Launch) (D : va_G) (cB cI : ClassId) (q0 q1 q2 q3 q4 q5 q6 q7 q8 q9 q10 : Nat) (sz : Nat)  (u : SX) (P : SX → Prop) (hw : wX5_noteCodeStep  u P) : Met l yX5_noteCodeStep wsX5_noteCodeStep ({ frames := 1, cells := 0, slots := 0, locals := 21 } : Room) (va_Pc [.ref q10] (Pcw D (tyA cB cI) (WX cB cI q0 q1 q2 q3 q4 q5 q6 q7 q8 q9 q10 u) sz Tru)) (va_Qv P (fun u t => va_P D vwCl (WX cB cI q0 q1 q2 q3 q4 q5 q6 q7 q8 q9 q10 u) t.heap) (va_A (WX cB cI q0 q1 q2 q3 q4 q5 q6 q7 q8 q9 q10 u) sz)) 0 0 (va_A (WX cB cI q0 q1 q2 q3 q4 q5 q6 q7 q8 q9 q10 u) sz) := by
  refine en_ (cc := cX5_noteCodeStep) (maxL := 1) (ret := none) (own := RX5) (lv := [(0, .ref q10)]) (Qf := fun A => va_Qv P (fun u t => va_P D vwCl (WX cB cI q0 q1 q2 q3 q4 q5 q6 q7 q8 q9 q10 u) t.heap) A) (by decide) rfl rfl (Nat.le_of_ble_eq_true rfl) rfl ?_
  intro p e s m below meth c A ls S hr hlk hname hsz hP hK hD hA hSub hS hE hl
  have hx := S.1
  have hb := S.2.1
  have hown := S.2.2.2.1
  have hts := S.2.2.2.2
  have i_X3 : ∀ w ∈ u_ws RX3 TX3 8, w ∈ wsX5_noteCodeStep := by decide +kernel
  have i_X5 : ∀ w ∈ u_ws RX5 TX5 5, w ∈ wsX5_noteCodeStep := by decide +kernel
  have f_10 := hts (.fieldLink RX5 10 "MachineCore" "processor" "LMachineCore$Processor;") (by decide +kernel)
  have f_27 := hts (.fieldLink RX5 27 "MachineCore$Processor" "arithmetic" "LMachineCore$Arithmetic;") (by decide +kernel)
  have f_111 := hts (.fieldLink RX5 111 "MachineCore$Processor" "code" "LMachineCore$Code;") (by decide +kernel)
  have f_127 := hts (.fieldLink RX5 127 "MachineCore" "steps" "I") (by decide +kernel)
  have f_141 := hts (.fieldLink RX5 141 "MachineCore" "singleStepDue" "Z") (by decide +kernel)
  have f_144 := hts (.fieldLink RX5 144 "MachineCore" "gaveSegment" "Z") (by decide +kernel)
  have b43 : ∀ (s1 : Int32) (u : SX) (H : Heap) (locs : List Loc) (ls : Array Slot), va_P D vwCl (WX cB cI q0 q1 q2 q3 q4 q5 q6 q7 q8 q9 q10 u) H → va_D A (WX cB cI q0 q1 q2 q3 q4 q5 q6 q7 q8 q9 q10 u) → va_S A s.heap H locs → lv_has ls 1 [(0, .ref q10)] → wX5_noteCodeStep_b43  P s1 u → W p l e ({ frames := 1, cells := 0, slots := 0, locals := 21 } : Room) s m ([.ref q10] : List Value).toArray below meth c H locs 0 0 (MQ below (va_Qv P (fun u t => va_P D vwCl (WX cB cI q0 q1 q2 q3 q4 q5 q6 q7 q8 q9 q10 u) t.heap) A) ([.ref q10] : List Value).toArray s 0 0 A) (F0 m 43 ls [.int s1, .ref q10]) := by
    intro s1 u H locs ls hP hD hS hl hw
    unfold wX5_noteCodeStep_b43 at hw
    refine va_put (D := D) (ci := 5) (v := .int s1) (ty := .boolean) (C := RX5) (T := TX5) (N := 5) hx hb hts i_X5 tyX5 tyX5_ok nmX5 hown hK hP hD hS 0 rfl rfl 2 (by decide) f_141 (fun _ h9 => h9) rfl (by decide +kernel) (zB_n hw.1) (zB_f hw.1) (Nat.le_of_ble_eq_true rfl) dX5_noteCodeStep_43 (fun H locs hP hD hS => ?_)
    replace hP : va_P D vwCl (WX cB cI q0 q1 q2 q3 q4 q5 q6 q7 q8 q9 q10 (xs_singleStepDue u s1)) H := hP
    replace hD : va_D A (WX cB cI q0 q1 q2 q3 q4 q5 q6 q7 q8 q9 q10 (xs_singleStepDue u s1)) := hD
    replace hw := hw.2
    refine lv_aload_n hx hb dX5_noteCodeStep_46 rfl (lv_at hl 0 rfl) ?_
    refine lv_dup hx hb dX5_noteCodeStep_47 rfl ?_
    refine va_get (D := D) (ci := 5) (v := .int (x_steps u)) (C := RX5) (T := TX5) (N := 5) hx hb hts i_X5 hown hK hP 0 rfl rfl 4 (by decide) f_127 (fun _ h9 => h9) rfl dX5_noteCodeStep_48 ?_
    refine lv_iconst (v := (1 : Int32)) hx hb dX5_noteCodeStep_51 (by decide) ?_
    refine lv_iadd hx hb dX5_noteCodeStep_52 ?_
    refine va_put (D := D) (ci := 5) (v := .int ((x_steps u) + (1 : Int32))) (ty := .int) (C := RX5) (T := TX5) (N := 5) hx hb hts i_X5 tyX5 tyX5_ok nmX5 hown hK hP hD hS 0 rfl rfl 4 (by decide) f_127 (fun _ h9 => h9) rfl (by decide +kernel) rfl rfl (Nat.le_of_ble_eq_true rfl) dX5_noteCodeStep_53 (fun H locs hP hD hS => ?_)
    replace hP : va_P D vwCl (WX cB cI q0 q1 q2 q3 q4 q5 q6 q7 q8 q9 q10 (xs_steps (xs_singleStepDue u s1) ((x_steps u) + (1 : Int32)))) H := hP
    replace hD : va_D A (WX cB cI q0 q1 q2 q3 q4 q5 q6 q7 q8 q9 q10 (xs_steps (xs_singleStepDue u s1) ((x_steps u) + (1 : Int32)))) := hD
    exact rt_v (wo := (fun v => WX cB cI q0 q1 q2 q3 q4 q5 q6 q7 q8 q9 q10 v)) S hr hlk (xs_steps (xs_singleStepDue u s1) ((x_steps u) + (1 : Int32))) hP hS hw dX5_noteCodeStep_56
  have b42 : ∀  (u : SX) (H : Heap) (locs : List Loc) (ls : Array Slot), va_P D vwCl (WX cB cI q0 q1 q2 q3 q4 q5 q6 q7 q8 q9 q10 u) H → va_D A (WX cB cI q0 q1 q2 q3 q4 q5 q6 q7 q8 q9 q10 u) → va_S A s.heap H locs → lv_has ls 1 [(0, .ref q10)] → wX5_noteCodeStep_b42  P u → W p l e ({ frames := 1, cells := 0, slots := 0, locals := 21 } : Room) s m ([.ref q10] : List Value).toArray below meth c H locs 0 0 (MQ below (va_Qv P (fun u t => va_P D vwCl (WX cB cI q0 q1 q2 q3 q4 q5 q6 q7 q8 q9 q10 u) t.heap) A) ([.ref q10] : List Value).toArray s 0 0 A) (F0 m 42 ls [.ref q10]) := by
    intro u H locs ls hP hD hS hl hw
    unfold wX5_noteCodeStep_b42 at hw
    refine lv_iconst (v := (0 : Int32)) hx hb dX5_noteCodeStep_42 (by decide) ?_
    exact b43 (0 : Int32) u H locs ls hP hD hS (lv_sub hl [0] rfl) hw
  unfold wX5_noteCodeStep at hw
  obtain ⟨H, eH⟩ : ∃ H, H = s.heap := ⟨_, rfl⟩
  obtain ⟨locs, eL⟩ : ∃ locs : List Loc, locs = [] := ⟨_, rfl⟩
  replace hP : va_P D vwCl (WX cB cI q0 q1 q2 q3 q4 q5 q6 q7 q8 q9 q10 u) H := by rw [eH]; exact hP
  replace hS : va_S A s.heap H locs := by rw [eH, eL]; exact hS
  suffices hgo : W p l e ({ frames := 1, cells := 0, slots := 0, locals := 21 } : Room) s m ([.ref q10] : List Value).toArray below meth c H locs 0 0 (MQ below (va_Qv P (fun u t => va_P D vwCl (WX cB cI q0 q1 q2 q3 q4 q5 q6 q7 q8 q9 q10 u) t.heap) A) ([.ref q10] : List Value).toArray s 0 0 A) (F0 m 0 ls []) by rw [eH, eL] at hgo; exact hgo
  clear eH eL
  refine lv_aload_n hx hb dX5_noteCodeStep_0 rfl (lv_at hl 0 rfl) ?_
  refine lv_aload_n hx hb dX5_noteCodeStep_1 rfl (lv_at hl 0 rfl) ?_
  refine va_get (D := D) (ci := 5) (v := .ref q0) (C := RX5) (T := TX5) (N := 5) hx hb hts i_X5 hown hK hP 0 rfl rfl 0 (by decide) f_10 (fun _ h9 => h9) rfl dX5_noteCodeStep_2 ?_
  refine va_get (D := D) (ci := 3) (v := .ref q8) (C := RX3) (T := TX3) (N := 8) hx hb hts i_X3 hown hK hP 1 rfl rfl 3 (by decide) f_111 (fun _ h9 => h9) rfl dX5_noteCodeStep_5 ?_
  refine cl_Vi (As := []) (rest := [.ref q10]) (st := [.ref q8, .ref q10]) S hK hA hP hD hS (fr_X_C u) (kcX1_givesSegment l D cB cI q8 H.size  (p_code (x_proc u)) _ hw) (cwV 0 hts gX5_noteCodeStep_X1_givesSegment rfl rfl rfl (by decide +kernel) ⟨Nat.le_of_ble_eq_true rfl, Nat.le_of_ble_eq_true rfl⟩) tru_h tru_b 9 rfl rfl rfl rfl rfl hl.1 (Nat.le_of_ble_eq_true rfl) dX5_noteCodeStep_8 ⟨Nat.zero_le _, Nat.zero_le _⟩ (fun r2 u1 H locs hP hD hS hw => ?_)
  replace hP : va_P D vwCl (WX cB cI q0 q1 q2 q3 q4 q5 q6 q7 q8 q9 q10 (xs_proc u (ps_code (x_proc u) u1))) H := hP
  replace hD : va_D A (WX cB cI q0 q1 q2 q3 q4 q5 q6 q7 q8 q9 q10 (xs_proc u (ps_code (x_proc u) u1))) := hD
  refine va_put (D := D) (ci := 5) (v := .int r2) (ty := .boolean) (C := RX5) (T := TX5) (N := 5) hx hb hts i_X5 tyX5 tyX5_ok nmX5 hown hK hP hD hS 0 rfl rfl 3 (by decide) f_144 (fun _ h9 => h9) rfl (by decide +kernel) (zB_n hw.1) (zB_f hw.1) (Nat.le_of_ble_eq_true rfl) dX5_noteCodeStep_11 (fun H locs hP hD hS => ?_)
  replace hP : va_P D vwCl (WX cB cI q0 q1 q2 q3 q4 q5 q6 q7 q8 q9 q10 (xs_proc (xs_gaveSegment u r2) (ps_code (x_proc u) u1))) H := hP
  replace hD : va_D A (WX cB cI q0 q1 q2 q3 q4 q5 q6 q7 q8 q9 q10 (xs_proc (xs_gaveSegment u r2) (ps_code (x_proc u) u1))) := hD
  replace hw := hw.2
  refine lv_aload_n hx hb dX5_noteCodeStep_14 rfl (lv_at hl 0 rfl) ?_
  refine lv_aload_n hx hb dX5_noteCodeStep_15 rfl (lv_at hl 0 rfl) ?_
  refine va_get (D := D) (ci := 5) (v := .ref q0) (C := RX5) (T := TX5) (N := 5) hx hb hts i_X5 hown hK hP 0 rfl rfl 0 (by decide) f_10 (fun _ h9 => h9) rfl dX5_noteCodeStep_16 ?_
  refine va_get (D := D) (ci := 3) (v := .ref q7) (C := RX3) (T := TX3) (N := 8) hx hb hts i_X3 hown hK hP 1 rfl rfl 2 (by decide) f_27 (fun _ h9 => h9) rfl dX5_noteCodeStep_19 ?_
  refine lv_sipush (v := (256 : Int32)) hx hb dX5_noteCodeStep_22 (by decide) ?_
  refine cl_Vi (As := [.int (256 : Int32)]) (rest := [.ref q10]) (st := [.int (256 : Int32), .ref q7, .ref q10]) S hK hA hP hD hS (fr_X_A (xs_proc (xs_gaveSegment u r2) (ps_code (x_proc u) u1))) (kcX0_has l D cB cI q7 H.size (256 : Int32) (p_flags (x_proc u)) _ hw) (cwV 1 hts gX5_noteCodeStep_X0_has rfl rfl rfl (by decide +kernel) ⟨Nat.le_of_ble_eq_true rfl, Nat.le_of_ble_eq_true rfl⟩) tru_h tru_b 8 rfl rfl rfl rfl rfl hl.1 (Nat.le_of_ble_eq_true rfl) dX5_noteCodeStep_25 ⟨Nat.zero_le _, Nat.zero_le _⟩ (fun r4 u3 H locs hP hD hS hw => ?_)
  replace hP : va_P D vwCl (WX cB cI q0 q1 q2 q3 q4 q5 q6 q7 q8 q9 q10 (xs_proc (xs_gaveSegment u r2) (ps_code (ps_flags (x_proc u) u3) u1))) H := hP
  replace hD : va_D A (WX cB cI q0 q1 q2 q3 q4 q5 q6 q7 q8 q9 q10 (xs_proc (xs_gaveSegment u r2) (ps_code (ps_flags (x_proc u) u3) u1))) := hD
  refine lv_if_eq (tgt := 42) hx hb dX5_noteCodeStep_28 (by decide) (fun c5 => ?_) (fun c5 => ?_)
  · replace hw := hw.1 c5
    exact b42 (xs_proc (xs_gaveSegment u r2) (ps_code (ps_flags (x_proc u) u3) u1)) H locs ls hP hD hS (lv_sub hl [0] rfl) hw
  · replace hw := hw.2 c5
    refine lv_aload_n hx hb dX5_noteCodeStep_31 rfl (lv_at hl 0 rfl) ?_
    refine va_get (D := D) (ci := 5) (v := .int r2) (C := RX5) (T := TX5) (N := 5) hx hb hts i_X5 hown hK hP 0 rfl rfl 3 (by decide) f_144 (fun _ h9 => h9) rfl dX5_noteCodeStep_32 ?_
    refine lv_if_ne (tgt := 42) hx hb dX5_noteCodeStep_35 (by decide) (fun c6 => ?_) (fun c6 => ?_)
    · replace hw := hw.2 c6
      exact b42 (xs_proc (xs_gaveSegment u r2) (ps_code (ps_flags (x_proc u) u3) u1)) H locs ls hP hD hS (lv_sub hl [0] rfl) hw
    · replace hw := hw.1 c6
      refine lv_iconst (v := (1 : Int32)) hx hb dX5_noteCodeStep_38 (by decide) ?_
      refine lv_goto (tgt := 43) hx hb dX5_noteCodeStep_39 (by decide) ?_
      exact b43 (1 : Int32) (xs_proc (xs_gaveSegment u r2) (ps_code (ps_flags (x_proc u) u3) u1)) H locs ls hP hD hS (lv_sub hl [0] rfl) hw
-- X5_noteInterruptStep
def wX5_noteInterruptStep  (u : SX) (P : SX → Prop) : Prop := (P (xs_proc (xs_steps (xs_gaveSegment (xs_singleStepDue u (0 : Int32)) (0 : Int32)) ((x_steps u) + (1 : Int32))) (ps_halted (x_proc u) (0 : Int32))))
set_option maxHeartbeats 4000000 in
set_option maxRecDepth 100000 in
theorem kcX5_noteInterruptStep (l : Launch) (D : va_G) (cB cI : ClassId) (q0 q1 q2 q3 q4 q5 q6 q7 q8 q9 q10 : Nat) (sz : Nat)  (u : SX) (P : SX → Prop) (hw : wX5_noteInterruptStep  u P) : Met l yX5_noteInterruptStep wsX5_noteInterruptStep ({ frames := 0, cells := 0, slots := 0, locals := 0 } : Room) (va_Pc [.ref q10] (Pcw D (tyA cB cI) (WX cB cI q0 q1 q2 q3 q4 q5 q6 q7 q8 q9 q10 u) sz Tru)) (va_Qv P (fun u t => va_P D vwCl (WX cB cI q0 q1 q2 q3 q4 q5 q6 q7 q8 q9 q10 u) t.heap) (va_A (WX cB cI q0 q1 q2 q3 q4 q5 q6 q7 q8 q9 q10 u) sz)) 0 0 (va_A (WX cB cI q0 q1 q2 q3 q4 q5 q6 q7 q8 q9 q10 u) sz) := by
  refine en_ (cc := cX5_noteInterruptStep) (maxL := 1) (ret := none) (own := RX5) (lv := [(0, .ref q10)]) (Qf := fun A => va_Qv P (fun u t => va_P D vwCl (WX cB cI q0 q1 q2 q3 q4 q5 q6 q7 q8 q9 q10 u) t.heap) A) (by decide) rfl rfl (Nat.le_of_ble_eq_true rfl) rfl ?_
  intro p e s m below meth c A ls S hr hlk hname hsz hP hK hD hA hSub hS hE hl
  have hx := S.1
  have hb := S.2.1
  have hown := S.2.2.2.1
  have hts := S.2.2.2.2
  have i_X3 : ∀ w ∈ u_ws RX3 TX3 8, w ∈ wsX5_noteInterruptStep := by decide +kernel
  have i_X5 : ∀ w ∈ u_ws RX5 TX5 5, w ∈ wsX5_noteInterruptStep := by decide +kernel
  have f_10 := hts (.fieldLink RX5 10 "MachineCore" "processor" "LMachineCore$Processor;") (by decide +kernel)
  have f_107 := hts (.fieldLink RX5 107 "MachineCore$Processor" "halted" "Z") (by decide +kernel)
  have f_127 := hts (.fieldLink RX5 127 "MachineCore" "steps" "I") (by decide +kernel)
  have f_141 := hts (.fieldLink RX5 141 "MachineCore" "singleStepDue" "Z") (by decide +kernel)
  have f_144 := hts (.fieldLink RX5 144 "MachineCore" "gaveSegment" "Z") (by decide +kernel)
  unfold wX5_noteInterruptStep at hw
  obtain ⟨H, eH⟩ : ∃ H, H = s.heap := ⟨_, rfl⟩
  obtain ⟨locs, eL⟩ : ∃ locs : List Loc, locs = [] := ⟨_, rfl⟩
  replace hP : va_P D vwCl (WX cB cI q0 q1 q2 q3 q4 q5 q6 q7 q8 q9 q10 u) H := by rw [eH]; exact hP
  replace hS : va_S A s.heap H locs := by rw [eH, eL]; exact hS
  suffices hgo : W p l e ({ frames := 0, cells := 0, slots := 0, locals := 0 } : Room) s m ([.ref q10] : List Value).toArray below meth c H locs 0 0 (MQ below (va_Qv P (fun u t => va_P D vwCl (WX cB cI q0 q1 q2 q3 q4 q5 q6 q7 q8 q9 q10 u) t.heap) A) ([.ref q10] : List Value).toArray s 0 0 A) (F0 m 0 ls []) by rw [eH, eL] at hgo; exact hgo
  clear eH eL
  refine lv_aload_n hx hb dX5_noteInterruptStep_0 rfl (lv_at hl 0 rfl) ?_
  refine va_get (D := D) (ci := 5) (v := .ref q0) (C := RX5) (T := TX5) (N := 5) hx hb hts i_X5 hown hK hP 0 rfl rfl 0 (by decide) f_10 (fun _ h9 => h9) rfl dX5_noteInterruptStep_1 ?_
  refine lv_iconst (v := (0 : Int32)) hx hb dX5_noteInterruptStep_4 (by decide) ?_
  refine va_put (D := D) (ci := 3) (v := .int (0 : Int32)) (ty := .boolean) (C := RX3) (T := TX3) (N := 8) hx hb hts i_X3 tyX3 tyX3_ok nmX3 hown hK hP hD hS 1 rfl rfl 5 (by decide) f_107 (fun _ h9 => h9) rfl (by decide +kernel) rfl rfl (Nat.le_of_ble_eq_true rfl) dX5_noteInterruptStep_5 (fun H locs hP hD hS => ?_)
  replace hP : va_P D vwCl (WX cB cI q0 q1 q2 q3 q4 q5 q6 q7 q8 q9 q10 (xs_proc u (ps_halted (x_proc u) (0 : Int32)))) H := hP
  replace hD : va_D A (WX cB cI q0 q1 q2 q3 q4 q5 q6 q7 q8 q9 q10 (xs_proc u (ps_halted (x_proc u) (0 : Int32)))) := hD
  refine lv_aload_n hx hb dX5_noteInterruptStep_8 rfl (lv_at hl 0 rfl) ?_
  refine lv_iconst (v := (0 : Int32)) hx hb dX5_noteInterruptStep_9 (by decide) ?_
  refine va_put (D := D) (ci := 5) (v := .int (0 : Int32)) (ty := .boolean) (C := RX5) (T := TX5) (N := 5) hx hb hts i_X5 tyX5 tyX5_ok nmX5 hown hK hP hD hS 0 rfl rfl 2 (by decide) f_141 (fun _ h9 => h9) rfl (by decide +kernel) rfl rfl (Nat.le_of_ble_eq_true rfl) dX5_noteInterruptStep_10 (fun H locs hP hD hS => ?_)
  replace hP : va_P D vwCl (WX cB cI q0 q1 q2 q3 q4 q5 q6 q7 q8 q9 q10 (xs_proc (xs_singleStepDue u (0 : Int32)) (ps_halted (x_proc u) (0 : Int32)))) H := hP
  replace hD : va_D A (WX cB cI q0 q1 q2 q3 q4 q5 q6 q7 q8 q9 q10 (xs_proc (xs_singleStepDue u (0 : Int32)) (ps_halted (x_proc u) (0 : Int32)))) := hD
  refine lv_aload_n hx hb dX5_noteInterruptStep_13 rfl (lv_at hl 0 rfl) ?_
  refine lv_iconst (v := (0 : Int32)) hx hb dX5_noteInterruptStep_14 (by decide) ?_
  refine va_put (D := D) (ci := 5) (v := .int (0 : Int32)) (ty := .boolean) (C := RX5) (T := TX5) (N := 5) hx hb hts i_X5 tyX5 tyX5_ok nmX5 hown hK hP hD hS 0 rfl rfl 3 (by decide) f_144 (fun _ h9 => h9) rfl (by decide +kernel) rfl rfl (Nat.le_of_ble_eq_true rfl) dX5_noteInterruptStep_15 (fun H locs hP hD hS => ?_)
  replace hP : va_P D vwCl (WX cB cI q0 q1 q2 q3 q4 q5 q6 q7 q8 q9 q10 (xs_proc (xs_gaveSegment (xs_singleStepDue u (0 : Int32)) (0 : Int32)) (ps_halted (x_proc u) (0 : Int32)))) H := hP
  replace hD : va_D A (WX cB cI q0 q1 q2 q3 q4 q5 q6 q7 q8 q9 q10 (xs_proc (xs_gaveSegment (xs_singleStepDue u (0 : Int32)) (0 : Int32)) (ps_halted (x_proc u) (0 : Int32)))) := hD
  refine lv_aload_n hx hb dX5_noteInterruptStep_18 rfl (lv_at hl 0 rfl) ?_
  refine lv_dup hx hb dX5_noteInterruptStep_19 rfl ?_
  refine va_get (D := D) (ci := 5) (v := .int (x_steps u)) (C := RX5) (T := TX5) (N := 5) hx hb hts i_X5 hown hK hP 0 rfl rfl 4 (by decide) f_127 (fun _ h9 => h9) rfl dX5_noteInterruptStep_20 ?_
  refine lv_iconst (v := (1 : Int32)) hx hb dX5_noteInterruptStep_23 (by decide) ?_
  refine lv_iadd hx hb dX5_noteInterruptStep_24 ?_
  refine va_put (D := D) (ci := 5) (v := .int ((x_steps u) + (1 : Int32))) (ty := .int) (C := RX5) (T := TX5) (N := 5) hx hb hts i_X5 tyX5 tyX5_ok nmX5 hown hK hP hD hS 0 rfl rfl 4 (by decide) f_127 (fun _ h9 => h9) rfl (by decide +kernel) rfl rfl (Nat.le_of_ble_eq_true rfl) dX5_noteInterruptStep_25 (fun H locs hP hD hS => ?_)
  replace hP : va_P D vwCl (WX cB cI q0 q1 q2 q3 q4 q5 q6 q7 q8 q9 q10 (xs_proc (xs_steps (xs_gaveSegment (xs_singleStepDue u (0 : Int32)) (0 : Int32)) ((x_steps u) + (1 : Int32))) (ps_halted (x_proc u) (0 : Int32)))) H := hP
  replace hD : va_D A (WX cB cI q0 q1 q2 q3 q4 q5 q6 q7 q8 q9 q10 (xs_proc (xs_steps (xs_gaveSegment (xs_singleStepDue u (0 : Int32)) (0 : Int32)) ((x_steps u) + (1 : Int32))) (ps_halted (x_proc u) (0 : Int32)))) := hD
  exact rt_v (wo := (fun v => WX cB cI q0 q1 q2 q3 q4 q5 q6 q7 q8 q9 q10 v)) S hr hlk (xs_proc (xs_steps (xs_gaveSegment (xs_singleStepDue u (0 : Int32)) (0 : Int32)) ((x_steps u) + (1 : Int32))) (ps_halted (x_proc u) (0 : Int32))) hP hS hw dX5_noteInterruptStep_28
-- X5_takeDueInterrupt
def wX5_takeDueInterrupt  (u : SX) (P : Int32 → SX → Prop) : Prop := (((x_singleStepDue u) = (0 : Int32) → (((x_gaveSegment u) = (0 : Int32) → (wX0_has (512 : Int32) (p_flags (x_proc u)) (fun r4 u3 => ((r4 = (0 : Int32) → (P (-1 : Int32) (xs_proc u (ps_flags (x_proc u) u3)))) ∧ (¬ r4 = (0 : Int32) → (P (x_waiting u) (xs_proc (xs_waiting u (-1 : Int32)) (ps_flags (x_proc u) u3)))))))) ∧ (¬ (x_gaveSegment u) = (0 : Int32) → (P (-1 : Int32) u)))) ∧ (¬ (x_singleStepDue u) = (0 : Int32) → (P (1 : Int32) u)))
set_option maxHeartbeats 4000000 in
set_option maxRecDepth 100000 in
theorem kcX5_takeDueInterrupt (l : Launch) (D : va_G) (cB cI : ClassId) (q0 q1 q2 q3 q4 q5 q6 q7 q8 q9 q10 : Nat) (sz : Nat)  (u : SX) (P : Int32 → SX → Prop) (hw : wX5_takeDueInterrupt  u P) : Met l yX5_takeDueInterrupt wsX5_takeDueInterrupt ({ frames := 1, cells := 0, slots := 0, locals := 21 } : Room) (va_Pc [.ref q10] (Pcw D (tyA cB cI) (WX cB cI q0 q1 q2 q3 q4 q5 q6 q7 q8 q9 q10 u) sz Tru)) (va_Qi P (fun u t => va_P D vwCl (WX cB cI q0 q1 q2 q3 q4 q5 q6 q7 q8 q9 q10 u) t.heap) (va_A (WX cB cI q0 q1 q2 q3 q4 q5 q6 q7 q8 q9 q10 u) sz)) 0 0 (va_A (WX cB cI q0 q1 q2 q3 q4 q5 q6 q7 q8 q9 q10 u) sz) := by
  refine en_ (cc := cX5_takeDueInterrupt) (maxL := 2) (ret := (some .int)) (own := RX5) (lv := [(0, .ref q10)]) (Qf := fun A => va_Qi P (fun u t => va_P D vwCl (WX cB cI q0 q1 q2 q3 q4 q5 q6 q7 q8 q9 q10 u) t.heap) A) (by decide) rfl rfl (Nat.le_of_ble_eq_true rfl) rfl ?_
  intro p e s m below meth c A ls S hr hlk hname hsz hP hK hD hA hSub hS hE hl
  have hx := S.1
  have hb := S.2.1
  have hown := S.2.2.2.1
  have hts := S.2.2.2.2
  have i_X3 : ∀ w ∈ u_ws RX3 TX3 8, w ∈ wsX5_takeDueInterrupt := by decide +kernel
  have i_X5 : ∀ w ∈ u_ws RX5 TX5 5, w ∈ wsX5_takeDueInterrupt := by decide +kernel
  have f_10 := hts (.fieldLink RX5 10 "MachineCore" "processor" "LMachineCore$Processor;") (by decide +kernel)
  have f_16 := hts (.fieldLink RX5 16 "MachineCore" "waiting" "I") (by decide +kernel)
  have f_27 := hts (.fieldLink RX5 27 "MachineCore$Processor" "arithmetic" "LMachineCore$Arithmetic;") (by decide +kernel)
  have f_141 := hts (.fieldLink RX5 141 "MachineCore" "singleStepDue" "Z") (by decide +kernel)
  have f_144 := hts (.fieldLink RX5 144 "MachineCore" "gaveSegment" "Z") (by decide +kernel)
  unfold wX5_takeDueInterrupt at hw
  obtain ⟨H, eH⟩ : ∃ H, H = s.heap := ⟨_, rfl⟩
  obtain ⟨locs, eL⟩ : ∃ locs : List Loc, locs = [] := ⟨_, rfl⟩
  replace hP : va_P D vwCl (WX cB cI q0 q1 q2 q3 q4 q5 q6 q7 q8 q9 q10 u) H := by rw [eH]; exact hP
  replace hS : va_S A s.heap H locs := by rw [eH, eL]; exact hS
  suffices hgo : W p l e ({ frames := 1, cells := 0, slots := 0, locals := 21 } : Room) s m ([.ref q10] : List Value).toArray below meth c H locs 0 0 (MQ below (va_Qi P (fun u t => va_P D vwCl (WX cB cI q0 q1 q2 q3 q4 q5 q6 q7 q8 q9 q10 u) t.heap) A) ([.ref q10] : List Value).toArray s 0 0 A) (F0 m 0 ls []) by rw [eH, eL] at hgo; exact hgo
  clear eH eL
  refine lv_aload_n hx hb dX5_takeDueInterrupt_0 rfl (lv_at hl 0 rfl) ?_
  refine va_get (D := D) (ci := 5) (v := .int (x_singleStepDue u)) (C := RX5) (T := TX5) (N := 5) hx hb hts i_X5 hown hK hP 0 rfl rfl 2 (by decide) f_141 (fun _ h9 => h9) rfl dX5_takeDueInterrupt_1 ?_
  refine lv_if_eq (tgt := 9) hx hb dX5_takeDueInterrupt_4 (by decide) (fun c1 => ?_) (fun c1 => ?_)
  · replace hw := hw.1 c1
    refine lv_aload_n hx hb dX5_takeDueInterrupt_9 rfl (lv_at hl 0 rfl) ?_
    refine va_get (D := D) (ci := 5) (v := .int (x_gaveSegment u)) (C := RX5) (T := TX5) (N := 5) hx hb hts i_X5 hown hK hP 0 rfl rfl 3 (by decide) f_144 (fun _ h9 => h9) rfl dX5_takeDueInterrupt_10 ?_
    refine lv_if_ne (tgt := 32) hx hb dX5_takeDueInterrupt_13 (by decide) (fun c2 => ?_) (fun c2 => ?_)
    · replace hw := hw.2 c2
      refine lv_iconst (v := (-1 : Int32)) hx hb dX5_takeDueInterrupt_32 (by decide) ?_
      exact rt_i (wo := (fun v => WX cB cI q0 q1 q2 q3 q4 q5 q6 q7 q8 q9 q10 v)) S hr hlk u hP hS hw dX5_takeDueInterrupt_33
    · replace hw := hw.1 c2
      refine lv_aload_n hx hb dX5_takeDueInterrupt_16 rfl (lv_at hl 0 rfl) ?_
      refine va_get (D := D) (ci := 5) (v := .ref q0) (C := RX5) (T := TX5) (N := 5) hx hb hts i_X5 hown hK hP 0 rfl rfl 0 (by decide) f_10 (fun _ h9 => h9) rfl dX5_takeDueInterrupt_17 ?_
      refine va_get (D := D) (ci := 3) (v := .ref q7) (C := RX3) (T := TX3) (N := 8) hx hb hts i_X3 hown hK hP 1 rfl rfl 2 (by decide) f_27 (fun _ h9 => h9) rfl dX5_takeDueInterrupt_20 ?_
      refine lv_sipush (v := (512 : Int32)) hx hb dX5_takeDueInterrupt_23 (by decide) ?_
      refine cl_Vi (As := [.int (512 : Int32)]) (rest := []) (st := [.int (512 : Int32), .ref q7]) S hK hA hP hD hS (fr_X_A u) (kcX0_has l D cB cI q7 H.size (512 : Int32) (p_flags (x_proc u)) _ hw) (cwV 1 hts gX5_takeDueInterrupt_X0_has rfl rfl rfl (by decide +kernel) ⟨Nat.le_of_ble_eq_true rfl, Nat.le_of_ble_eq_true rfl⟩) tru_h tru_b 8 rfl rfl rfl rfl rfl hl.1 (Nat.le_of_ble_eq_true rfl) dX5_takeDueInterrupt_26 ⟨Nat.zero_le _, Nat.zero_le _⟩ (fun r4 u3 H locs hP hD hS hw => ?_)
      replace hP : va_P D vwCl (WX cB cI q0 q1 q2 q3 q4 q5 q6 q7 q8 q9 q10 (xs_proc u (ps_flags (x_proc u) u3))) H := hP
      replace hD : va_D A (WX cB cI q0 q1 q2 q3 q4 q5 q6 q7 q8 q9 q10 (xs_proc u (ps_flags (x_proc u) u3))) := hD
      refine lv_if_ne (tgt := 34) hx hb dX5_takeDueInterrupt_29 (by decide) (fun c5 => ?_) (fun c5 => ?_)
      · replace hw := hw.2 c5
        refine lv_aload_n hx hb dX5_takeDueInterrupt_34 rfl (lv_at hl 0 rfl) ?_
        refine va_get (D := D) (ci := 5) (v := .int (x_waiting u)) (C := RX5) (T := TX5) (N := 5) hx hb hts i_X5 hown hK hP 0 rfl rfl 1 (by decide) f_16 (fun _ h9 => h9) rfl dX5_takeDueInterrupt_35 ?_
        refine lv_istore_n (lv' := [(1, .int (x_waiting u)), (0, .ref q10)]) hx hb dX5_takeDueInterrupt_38 rfl hl (by decide) rfl (fun ls hl => ?_)
        refine lv_aload_n hx hb dX5_takeDueInterrupt_39 rfl (lv_at hl 1 rfl) ?_
        refine lv_iconst (v := (-1 : Int32)) hx hb dX5_takeDueInterrupt_40 (by decide) ?_
        refine va_put (D := D) (ci := 5) (v := .int (-1 : Int32)) (ty := .int) (C := RX5) (T := TX5) (N := 5) hx hb hts i_X5 tyX5 tyX5_ok nmX5 hown hK hP hD hS 0 rfl rfl 1 (by decide) f_16 (fun _ h9 => h9) rfl (by decide +kernel) rfl rfl (Nat.le_of_ble_eq_true rfl) dX5_takeDueInterrupt_41 (fun H locs hP hD hS => ?_)
        replace hP : va_P D vwCl (WX cB cI q0 q1 q2 q3 q4 q5 q6 q7 q8 q9 q10 (xs_proc (xs_waiting u (-1 : Int32)) (ps_flags (x_proc u) u3))) H := hP
        replace hD : va_D A (WX cB cI q0 q1 q2 q3 q4 q5 q6 q7 q8 q9 q10 (xs_proc (xs_waiting u (-1 : Int32)) (ps_flags (x_proc u) u3))) := hD
        refine lv_iload_n hx hb dX5_takeDueInterrupt_44 rfl (lv_at hl 0 rfl) ?_
        exact rt_i (wo := (fun v => WX cB cI q0 q1 q2 q3 q4 q5 q6 q7 q8 q9 q10 v)) S hr hlk (xs_proc (xs_waiting u (-1 : Int32)) (ps_flags (x_proc u) u3)) hP hS hw dX5_takeDueInterrupt_45
      · replace hw := hw.1 c5
        refine lv_iconst (v := (-1 : Int32)) hx hb dX5_takeDueInterrupt_32 (by decide) ?_
        exact rt_i (wo := (fun v => WX cB cI q0 q1 q2 q3 q4 q5 q6 q7 q8 q9 q10 v)) S hr hlk (xs_proc u (ps_flags (x_proc u) u3)) hP hS hw dX5_takeDueInterrupt_33
  · replace hw := hw.2 c1
    refine lv_iconst (v := (1 : Int32)) hx hb dX5_takeDueInterrupt_7 (by decide) ?_
    exact rt_i (wo := (fun v => WX cB cI q0 q1 q2 q3 q4 q5 q6 q7 q8 q9 q10 v)) S hr hlk u hP hS hw dX5_takeDueInterrupt_8
-- X5_run
def wX5_run_b23 (a1 : Int32) (P : Int32 → SX → Prop) (Px : SX → Prop) : Nat → Int32 → SX → Prop
  | 0, _, _ => False
  | n + 1, x2, u => ((a1 ≤ x2 → (P (0 : Int32) u)) ∧ (¬ a1 ≤ x2 → (wX5_takeDueInterrupt  u (fun r5 u4 => ((r5 = (-1 : Int32) → (((p_halted (x_proc u4)) = (0 : Int32) → (wX1_find  ((p_code (x_proc u4)), (p_mem (x_proc u4)), (p_regs (x_proc u4))) (fun r9 u8 => ((r9 = (0 : Int32) → (P (2 : Int32) (xs_proc u4 (ps_code (ps_regs (ps_mem (x_proc u4) (f_mem u8)) (f_regs u8)) (f_code u8))))) ∧ (¬ r9 = (0 : Int32) → (wX5_noteCodeStep  (xs_proc u4 (ps_code (ps_regs (ps_mem (x_proc u4) (f_mem u8)) (f_regs u8)) (f_code u8))) (fun u11 => (wX3_execute  (x_proc u11) (fun u13 => (wX5_run_b23 a1 P Px n (x2 + (1 : Int32)) (xs_proc u11 u13))))))))))) ∧ (¬ (p_halted (x_proc u4)) = (0 : Int32) → (P (1 : Int32) u4)))) ∧ (¬ r5 = (-1 : Int32) → (wX5_noteInterruptStep  u4 (fun u15 => (wX3_interrupt r5 (x_proc u15) (fun u17 => (wX5_run_b23 a1 P Px n (x2 + (1 : Int32)) (xs_proc u15 u17))))))))))))
def wX5_run_b11 (a1 : Int32) (P : Int32 → SX → Prop) (Px : SX → Prop)  (u : SX) : Prop := (Px u)
def wX5_run (a1 : Int32) (u : SX) (P : Int32 → SX → Prop) (Px : SX → Prop) : Prop := ((a1 < (0 : Int32) → (wX5_run_b11 a1 P Px u)) ∧ (¬ a1 < (0 : Int32) → ((a1 ≤ (500 : Int32) → (∃ n, wX5_run_b23 a1 P Px n (0 : Int32) u)) ∧ (¬ a1 ≤ (500 : Int32) → (wX5_run_b11 a1 P Px u)))))
set_option maxHeartbeats 4000000 in
set_option maxRecDepth 100000 in
theorem kcX5_run (l : Launch) (hl9 : l.stackTraces = false) (D : va_G) (cB cI : ClassId) (qF : Nat) (sa : Nat) (q0 q1 q2 q3 q4 q5 q6 q7 q8 q9 q10 : Nat) (sz : Nat) (a1 : Int32) (u : SX) (P : Int32 → SX → Prop) (Px : SX → Prop) (hw : wX5_run a1 u P Px) : vx_Met l yX5_run wsX5_run ({ frames := 7, cells := 1, slots := 6, locals := 163 } : Room) (va_Pc [.ref q10, .int a1] (Pcw D (tyA cB cI) (WX cB cI q0 q1 q2 q3 q4 q5 q6 q7 q8 q9 q10 u) sz (fun U => Fz qF (WX cB cI q0 q1 q2 q3 q4 q5 q6 q7 q8 q9 q10 u) sz U ∧ Tx "java/lang/IllegalArgumentException" 94 "not 0 to 500 steps" 95 sa (WX cB cI q0 q1 q2 q3 q4 q5 q6 q7 q8 q9 q10 u) sz U))) (va_Qi P (fun u t => va_P D vwCl (WX cB cI q0 q1 q2 q3 q4 q5 q6 q7 q8 q9 q10 u) t.heap) (va_A (WX cB cI q0 q1 q2 q3 q4 q5 q6 q7 q8 q9 q10 u) sz)) (vx_X Px (fun E u t => E = "java/lang/IllegalArgumentException" ∧ va_P D vwCl (WX cB cI q0 q1 q2 q3 q4 q5 q6 q7 q8 q9 q10 u) t.heap) (va_A (WX cB cI q0 q1 q2 q3 q4 q5 q6 q7 q8 q9 q10 u) sz)) 1 6 (va_A (WX cB cI q0 q1 q2 q3 q4 q5 q6 q7 q8 q9 q10 u) sz) := by
  refine enx_ (cc := cX5_run) (maxL := 4) (ret := (some .int)) (own := RX5) (lv := [(0, .ref q10), (1, .int a1)]) (Qf := fun A => va_Qi P (fun u t => va_P D vwCl (WX cB cI q0 q1 q2 q3 q4 q5 q6 q7 q8 q9 q10 u) t.heap) A) (Xf := fun A => vx_X Px (fun E u t => E = "java/lang/IllegalArgumentException" ∧ va_P D vwCl (WX cB cI q0 q1 q2 q3 q4 q5 q6 q7 q8 q9 q10 u) t.heap) A) (by decide) rfl rfl (Nat.le_of_ble_eq_true rfl) rfl ?_
  intro p e s m below meth c A ls S ht hr hlk hname hsz hP hK hD hA hSub hS hE hl
  have hx := S.1
  have hb := S.2.1
  have hown := S.2.2.2.1
  have hts := S.2.2.2.2
  have i_X3 : ∀ w ∈ u_ws RX3 TX3 8, w ∈ wsX5_run := by decide +kernel
  have i_X5 : ∀ w ∈ u_ws RX5 TX5 5, w ∈ wsX5_run := by decide +kernel
  have f_10 := hts (.fieldLink RX5 10 "MachineCore" "processor" "LMachineCore$Processor;") (by decide +kernel)
  have f_37 := hts (.fieldLink RX5 37 "MachineCore$Processor" "registers" "LMachineCore$Registers;") (by decide +kernel)
  have f_69 := hts (.fieldLink RX5 69 "MachineCore$Processor" "memory" "LMachineCore$Memory;") (by decide +kernel)
  have f_107 := hts (.fieldLink RX5 107 "MachineCore$Processor" "halted" "Z") (by decide +kernel)
  have f_111 := hts (.fieldLink RX5 111 "MachineCore$Processor" "code" "LMachineCore$Code;") (by decide +kernel)
  have hE := And.intro (fz_own hsz hSub hE.1) (tx_own hsz hSub hE.2)
  have b23 : ∀ (n : Nat) (x2 : Int32) (u : SX) (H : Heap) (locs : List Loc) (ls : Array Slot), va_P D vwCl (WX cB cI q0 q1 q2 q3 q4 q5 q6 q7 q8 q9 q10 u) H → va_D A (WX cB cI q0 q1 q2 q3 q4 q5 q6 q7 q8 q9 q10 u) → va_S A s.heap H locs → lv_has ls 4 [(0, .ref q10), (1, .int a1), (2, .int x2)] → wX5_run_b23 a1 P Px n x2 u → W p l e ({ frames := 7, cells := 1, slots := 6, locals := 163 } : Room) s m ([.ref q10, .int a1] : List Value).toArray below meth c H locs 0 0 (vx_MQ below (va_Qi P (fun u t => va_P D vwCl (WX cB cI q0 q1 q2 q3 q4 q5 q6 q7 q8 q9 q10 u) t.heap) A) (vx_X Px (fun E u t => E = "java/lang/IllegalArgumentException" ∧ va_P D vwCl (WX cB cI q0 q1 q2 q3 q4 q5 q6 q7 q8 q9 q10 u) t.heap) A) ([.ref q10, .int a1] : List Value).toArray s 1 6 A) (F0 m 23 ls []) := by
    intro n
    induction n with
    | zero => intro x2 u H locs ls hP hD hS hl hw; exact False.elim hw
    | succ n ih =>
      intro x2 u H locs ls hP hD hS hl hw
      rw [wX5_run_b23] at hw
      refine lv_iload_n hx hb dX5_run_23 rfl (lv_at hl 2 rfl) ?_
      refine lv_iload_n hx hb dX5_run_24 rfl (lv_at hl 1 rfl) ?_
      refine lv_icmp_ge (tgt := 111) hx hb dX5_run_25 (by decide) (fun c3 => ?_) (fun c3 => ?_)
      · replace hw := hw.1 c3
        refine lv_iconst (v := (0 : Int32)) hx hb dX5_run_111 (by decide) ?_
        refine W.widen (k := 1) (n := 6) (Nat.zero_le _) (Nat.zero_le _) (vx_ret ?_)
        exact rt_i (wo := (fun v => WX cB cI q0 q1 q2 q3 q4 q5 q6 q7 q8 q9 q10 v)) S hr hlk u hP hS hw dX5_run_112
      · replace hw := hw.2 c3
        refine lv_aload_n hx hb dX5_run_28 rfl (lv_at hl 0 rfl) ?_
        refine cl_Vi (As := []) (rest := []) (st := [.ref q10]) S hK hA hP hD hS (fr_X u) (kcX5_takeDueInterrupt l D cB cI q0 q1 q2 q3 q4 q5 q6 q7 q8 q9 q10 H.size  u _ hw) (cwV 0 hts gX5_run_X5_takeDueInterrupt rfl rfl rfl (by decide +kernel) ⟨Nat.le_of_ble_eq_true rfl, Nat.le_of_ble_eq_true rfl⟩) tru_h tru_b 0 rfl rfl rfl rfl rfl hl.1 (Nat.le_of_ble_eq_true rfl) dX5_run_29 ⟨Nat.zero_le _, Nat.zero_le _⟩ (fun r5 u4 H locs hP hD hS hw => ?_)
        replace hP : va_P D vwCl (WX cB cI q0 q1 q2 q3 q4 q5 q6 q7 q8 q9 q10 u4) H := hP
        replace hD : va_D A (WX cB cI q0 q1 q2 q3 q4 q5 q6 q7 q8 q9 q10 u4) := hD
        refine lv_istore_n (lv' := [(3, .int r5), (0, .ref q10), (1, .int a1), (2, .int x2)]) hx hb dX5_run_32 rfl hl (by decide) rfl (fun ls hl => ?_)
        refine lv_iload_n hx hb dX5_run_33 rfl (lv_at hl 0 rfl) ?_
        refine lv_iconst (v := (-1 : Int32)) hx hb dX5_run_34 (by decide) ?_
        refine lv_icmp_eq (tgt := 53) hx hb dX5_run_35 (by decide) (fun c6 => ?_) (fun c6 => ?_)
        · replace hw := hw.1 c6
          refine lv_aload_n hx hb dX5_run_53 rfl (lv_at hl 1 rfl) ?_
          refine va_get (D := D) (ci := 5) (v := .ref q0) (C := RX5) (T := TX5) (N := 5) hx hb hts i_X5 hown hK hP 0 rfl rfl 0 (by decide) f_10 (fun _ h9 => h9) rfl dX5_run_54 ?_
          refine va_get (D := D) (ci := 3) (v := .int (p_halted (x_proc u4))) (C := RX3) (T := TX3) (N := 8) hx hb hts i_X3 hown hK hP 1 rfl rfl 5 (by decide) f_107 (fun _ h9 => h9) rfl dX5_run_57 ?_
          refine lv_if_eq (tgt := 65) hx hb dX5_run_60 (by decide) (fun c7 => ?_) (fun c7 => ?_)
          · replace hw := hw.1 c7
            refine lv_aload_n hx hb dX5_run_65 rfl (lv_at hl 1 rfl) ?_
            refine va_get (D := D) (ci := 5) (v := .ref q0) (C := RX5) (T := TX5) (N := 5) hx hb hts i_X5 hown hK hP 0 rfl rfl 0 (by decide) f_10 (fun _ h9 => h9) rfl dX5_run_66 ?_
            refine va_get (D := D) (ci := 3) (v := .ref q8) (C := RX3) (T := TX3) (N := 8) hx hb hts i_X3 hown hK hP 1 rfl rfl 3 (by decide) f_111 (fun _ h9 => h9) rfl dX5_run_69 ?_
            refine lv_aload_n hx hb dX5_run_72 rfl (lv_at hl 1 rfl) ?_
            refine va_get (D := D) (ci := 5) (v := .ref q0) (C := RX5) (T := TX5) (N := 5) hx hb hts i_X5 hown hK hP 0 rfl rfl 0 (by decide) f_10 (fun _ h9 => h9) rfl dX5_run_73 ?_
            refine va_get (D := D) (ci := 3) (v := .ref q1) (C := RX3) (T := TX3) (N := 8) hx hb hts i_X3 hown hK hP 1 rfl rfl 0 (by decide) f_69 (fun _ h9 => h9) rfl dX5_run_76 ?_
            refine lv_aload_n hx hb dX5_run_79 rfl (lv_at hl 1 rfl) ?_
            refine va_get (D := D) (ci := 5) (v := .ref q0) (C := RX5) (T := TX5) (N := 5) hx hb hts i_X5 hown hK hP 0 rfl rfl 0 (by decide) f_10 (fun _ h9 => h9) rfl dX5_run_80 ?_
            refine va_get (D := D) (ci := 3) (v := .ref q4) (C := RX3) (T := TX3) (N := 8) hx hb hts i_X3 hown hK hP 1 rfl rfl 1 (by decide) f_37 (fun _ h9 => h9) rfl dX5_run_83 ?_
            refine cl_Vi (As := [.ref q1, .ref q4]) (rest := []) (st := [.ref q4, .ref q1, .ref q8]) S hK hA hP hD hS (fr_X_F u4) (kcX1_find l D cB cI qF q1 q2 q3 q4 q5 q6 q8 H.size  ((p_code (x_proc u4)), (p_mem (x_proc u4)), (p_regs (x_proc u4))) _ hw) (cwV 2 hts gX5_run_X1_find rfl rfl rfl (by decide +kernel) ⟨Nat.le_of_ble_eq_true rfl, Nat.le_of_ble_eq_true rfl⟩) (fz_call hE.1 hA hD hS (fr_X_F u4)) fz_b 9 rfl rfl rfl rfl rfl hl.1 (Nat.le_of_ble_eq_true rfl) dX5_run_86 ⟨Nat.zero_le _, Nat.zero_le _⟩ (fun r9 u8 H locs hP hD hS hw => ?_)
            replace hP : va_P D vwCl (WX cB cI q0 q1 q2 q3 q4 q5 q6 q7 q8 q9 q10 (xs_proc u4 (ps_code (ps_regs (ps_mem (x_proc u4) (f_mem u8)) (f_regs u8)) (f_code u8)))) H := hP
            replace hD : va_D A (WX cB cI q0 q1 q2 q3 q4 q5 q6 q7 q8 q9 q10 (xs_proc u4 (ps_code (ps_regs (ps_mem (x_proc u4) (f_mem u8)) (f_regs u8)) (f_code u8)))) := hD
            refine lv_if_ne (tgt := 94) hx hb dX5_run_89 (by decide) (fun c10 => ?_) (fun c10 => ?_)
            · replace hw := hw.2 c10
              refine lv_aload_n hx hb dX5_run_94 rfl (lv_at hl 1 rfl) ?_
              refine cl_Vv (As := []) (rest := []) (st := [.ref q10]) S hK hA hP hD hS (fr_X (xs_proc u4 (ps_code (ps_regs (ps_mem (x_proc u4) (f_mem u8)) (f_regs u8)) (f_code u8)))) (kcX5_noteCodeStep l D cB cI q0 q1 q2 q3 q4 q5 q6 q7 q8 q9 q10 H.size  (xs_proc u4 (ps_code (ps_regs (ps_mem (x_proc u4) (f_mem u8)) (f_regs u8)) (f_code u8))) _ hw) (cwV 0 hts gX5_run_X5_noteCodeStep rfl rfl rfl (by decide +kernel) ⟨Nat.le_of_ble_eq_true rfl, Nat.le_of_ble_eq_true rfl⟩) tru_h tru_b 0 rfl rfl rfl rfl rfl hl.1 (Nat.le_of_ble_eq_true rfl) dX5_run_95 ⟨Nat.zero_le _, Nat.zero_le _⟩ (fun u11 H locs hP hD hS hw => ?_)
              replace hP : va_P D vwCl (WX cB cI q0 q1 q2 q3 q4 q5 q6 q7 q8 q9 q10 u11) H := hP
              replace hD : va_D A (WX cB cI q0 q1 q2 q3 q4 q5 q6 q7 q8 q9 q10 u11) := hD
              refine lv_aload_n hx hb dX5_run_98 rfl (lv_at hl 1 rfl) ?_
              refine va_get (D := D) (ci := 5) (v := .ref q0) (C := RX5) (T := TX5) (N := 5) hx hb hts i_X5 hown hK hP 0 rfl rfl 0 (by decide) f_10 (fun _ h9 => h9) rfl dX5_run_99 ?_
              refine cl_Vv (As := []) (rest := []) (st := [.ref q0]) S hK hA hP hD hS (fr_X_P u11) (kcX3_execute l D cB cI q0 q1 q2 q3 q4 q5 q6 q7 q8 q9 H.size  (x_proc u11) _ hw) (cwV 0 hts gX5_run_X3_execute rfl rfl rfl (by decide +kernel) ⟨Nat.le_of_ble_eq_true rfl, Nat.le_of_ble_eq_true rfl⟩) tru_h tru_b 1 rfl rfl rfl rfl rfl hl.1 (Nat.le_of_ble_eq_true rfl) dX5_run_102 ⟨Nat.zero_le _, Nat.zero_le _⟩ (fun u13 H locs hP hD hS hw => ?_)
              replace hP : va_P D vwCl (WX cB cI q0 q1 q2 q3 q4 q5 q6 q7 q8 q9 q10 (xs_proc u11 u13)) H := hP
              replace hD : va_D A (WX cB cI q0 q1 q2 q3 q4 q5 q6 q7 q8 q9 q10 (xs_proc u11 u13)) := hD
              refine lv_iinc (v := (x2 + (1 : Int32))) (lv' := [(2, .int (x2 + (1 : Int32))), (3, .int r5), (0, .ref q10), (1, .int a1)]) hx hb dX5_run_105 hl (k := 3) rfl rfl (by decide) rfl (fun ls hl => ?_)
              refine lv_goto (tgt := 23) hx hb dX5_run_108 (by decide) ?_
              exact ih (x2 + (1 : Int32)) (xs_proc u11 u13) H locs ls hP hD hS (lv_sub hl [2, 3, 0] rfl) hw
            · replace hw := hw.1 c10
              refine lv_iconst (v := (2 : Int32)) hx hb dX5_run_92 (by decide) ?_
              refine W.widen (k := 1) (n := 6) (Nat.zero_le _) (Nat.zero_le _) (vx_ret ?_)
              exact rt_i (wo := (fun v => WX cB cI q0 q1 q2 q3 q4 q5 q6 q7 q8 q9 q10 v)) S hr hlk (xs_proc u4 (ps_code (ps_regs (ps_mem (x_proc u4) (f_mem u8)) (f_regs u8)) (f_code u8))) hP hS hw dX5_run_93
          · replace hw := hw.2 c7
            refine lv_iconst (v := (1 : Int32)) hx hb dX5_run_63 (by decide) ?_
            refine W.widen (k := 1) (n := 6) (Nat.zero_le _) (Nat.zero_le _) (vx_ret ?_)
            exact rt_i (wo := (fun v => WX cB cI q0 q1 q2 q3 q4 q5 q6 q7 q8 q9 q10 v)) S hr hlk u4 hP hS hw dX5_run_64
        · replace hw := hw.2 c6
          refine lv_aload_n hx hb dX5_run_38 rfl (lv_at hl 1 rfl) ?_
          refine cl_Vv (As := []) (rest := []) (st := [.ref q10]) S hK hA hP hD hS (fr_X u4) (kcX5_noteInterruptStep l D cB cI q0 q1 q2 q3 q4 q5 q6 q7 q8 q9 q10 H.size  u4 _ hw) (cwV 0 hts gX5_run_X5_noteInterruptStep rfl rfl rfl (by decide +kernel) ⟨Nat.le_of_ble_eq_true rfl, Nat.le_of_ble_eq_true rfl⟩) tru_h tru_b 0 rfl rfl rfl rfl rfl hl.1 (Nat.le_of_ble_eq_true rfl) dX5_run_39 ⟨Nat.zero_le _, Nat.zero_le _⟩ (fun u15 H locs hP hD hS hw => ?_)
          replace hP : va_P D vwCl (WX cB cI q0 q1 q2 q3 q4 q5 q6 q7 q8 q9 q10 u15) H := hP
          replace hD : va_D A (WX cB cI q0 q1 q2 q3 q4 q5 q6 q7 q8 q9 q10 u15) := hD
          refine lv_aload_n hx hb dX5_run_42 rfl (lv_at hl 1 rfl) ?_
          refine va_get (D := D) (ci := 5) (v := .ref q0) (C := RX5) (T := TX5) (N := 5) hx hb hts i_X5 hown hK hP 0 rfl rfl 0 (by decide) f_10 (fun _ h9 => h9) rfl dX5_run_43 ?_
          refine lv_iload_n hx hb dX5_run_46 rfl (lv_at hl 0 rfl) ?_
          refine cl_Vv (As := [.int r5]) (rest := []) (st := [.int r5, .ref q0]) S hK hA hP hD hS (fr_X_P u15) (kcX3_interrupt l D cB cI q0 q1 q2 q3 q4 q5 q6 q7 q8 q9 H.size r5 (x_proc u15) _ hw) (cwV 1 hts gX5_run_X3_interrupt rfl rfl rfl (by decide +kernel) ⟨Nat.le_of_ble_eq_true rfl, Nat.le_of_ble_eq_true rfl⟩) tru_h tru_b 1 rfl rfl rfl rfl rfl hl.1 (Nat.le_of_ble_eq_true rfl) dX5_run_47 ⟨Nat.zero_le _, Nat.zero_le _⟩ (fun u17 H locs hP hD hS hw => ?_)
          replace hP : va_P D vwCl (WX cB cI q0 q1 q2 q3 q4 q5 q6 q7 q8 q9 q10 (xs_proc u15 u17)) H := hP
          replace hD : va_D A (WX cB cI q0 q1 q2 q3 q4 q5 q6 q7 q8 q9 q10 (xs_proc u15 u17)) := hD
          refine lv_goto (tgt := 105) hx hb dX5_run_50 (by decide) ?_
          refine lv_iinc (v := (x2 + (1 : Int32))) (lv' := [(2, .int (x2 + (1 : Int32))), (3, .int r5), (0, .ref q10), (1, .int a1)]) hx hb dX5_run_105 hl (k := 3) rfl rfl (by decide) rfl (fun ls hl => ?_)
          refine lv_goto (tgt := 23) hx hb dX5_run_108 (by decide) ?_
          exact ih (x2 + (1 : Int32)) (xs_proc u15 u17) H locs ls hP hD hS (lv_sub hl [2, 3, 0] rfl) hw
  have b11 : ∀  (u : SX) (H : Heap) (locs : List Loc) (ls : Array Slot), va_P D vwCl (WX cB cI q0 q1 q2 q3 q4 q5 q6 q7 q8 q9 q10 u) H → va_D A (WX cB cI q0 q1 q2 q3 q4 q5 q6 q7 q8 q9 q10 u) → va_S A s.heap H locs → lv_has ls 4 [] → wX5_run_b11 a1 P Px u → W p l e ({ frames := 7, cells := 1, slots := 6, locals := 163 } : Room) s m ([.ref q10, .int a1] : List Value).toArray below meth c H locs 0 0 (vx_MQ below (va_Qi P (fun u t => va_P D vwCl (WX cB cI q0 q1 q2 q3 q4 q5 q6 q7 q8 q9 q10 u) t.heap) A) (vx_X Px (fun E u t => E = "java/lang/IllegalArgumentException" ∧ va_P D vwCl (WX cB cI q0 q1 q2 q3 q4 q5 q6 q7 q8 q9 q10 u) t.heap) A) ([.ref q10, .int a1] : List Value).toArray s 1 6 A) (F0 m 11 ls []) := by
    intro u H locs ls hP hD hS hl hw
    unfold wX5_run_b11 at hw
    exact th_ (wn := fun v => WX cB cI q0 q1 q2 q3 q4 q5 q6 q7 q8 q9 q10 v) (by decide +kernel) (cls := "java/lang/IllegalArgumentException") (text := "not 0 to 500 steps") (ik := 90) (is := 95) (ic := 94) (pc := 11) S hl9 ht hlk (hts (.classLink RX5 90 "java/lang/IllegalArgumentException") (by decide +kernel)) (hts (.initialized "java/lang/IllegalArgumentException") (by decide +kernel)) (xt_hat hts (fun w h => List.mem_cons_of_mem _ (List.mem_append_right _ h)) hE.2.2.2.2) xt_o90_94 hE.2 hl.1 dX5_run_11 dX5_run_14 dX5_run_15 dX5_run_17 dX5_run_20 ⟨Nat.le_of_ble_eq_true rfl, Nat.le_of_ble_eq_true rfl, Nat.le_of_ble_eq_true rfl, Nat.le_of_ble_eq_true rfl⟩ hS u hP hw
  unfold wX5_run at hw
  obtain ⟨H, eH⟩ : ∃ H, H = s.heap := ⟨_, rfl⟩
  obtain ⟨locs, eL⟩ : ∃ locs : List Loc, locs = [] := ⟨_, rfl⟩
  replace hP : va_P D vwCl (WX cB cI q0 q1 q2 q3 q4 q5 q6 q7 q8 q9 q10 u) H := by rw [eH]; exact hP
  replace hS : va_S A s.heap H locs := by rw [eH, eL]; exact hS
  suffices hgo : W p l e ({ frames := 7, cells := 1, slots := 6, locals := 163 } : Room) s m ([.ref q10, .int a1] : List Value).toArray below meth c H locs 0 0 (vx_MQ below (va_Qi P (fun u t => va_P D vwCl (WX cB cI q0 q1 q2 q3 q4 q5 q6 q7 q8 q9 q10 u) t.heap) A) (vx_X Px (fun E u t => E = "java/lang/IllegalArgumentException" ∧ va_P D vwCl (WX cB cI q0 q1 q2 q3 q4 q5 q6 q7 q8 q9 q10 u) t.heap) A) ([.ref q10, .int a1] : List Value).toArray s 1 6 A) (F0 m 0 ls []) by rw [eH, eL] at hgo; exact hgo
  clear eH eL
  refine lv_iload_n hx hb dX5_run_0 rfl (lv_at hl 1 rfl) ?_
  refine lv_if_lt (tgt := 11) hx hb dX5_run_1 (by decide) (fun c1 => ?_) (fun c1 => ?_)
  · replace hw := hw.1 c1
    exact b11 u H locs ls hP hD hS (lv_sub hl [] rfl) hw
  · replace hw := hw.2 c1
    refine lv_iload_n hx hb dX5_run_4 rfl (lv_at hl 1 rfl) ?_
    refine lv_sipush (v := (500 : Int32)) hx hb dX5_run_5 (by decide) ?_
    refine lv_icmp_le (tgt := 21) hx hb dX5_run_8 (by decide) (fun c2 => ?_) (fun c2 => ?_)
    · replace hw := hw.1 c2
      refine lv_iconst (v := (0 : Int32)) hx hb dX5_run_21 (by decide) ?_
      refine lv_istore_n (lv' := [(2, .int (0 : Int32)), (0, .ref q10), (1, .int a1)]) hx hb dX5_run_22 rfl hl (by decide) rfl (fun ls hl => ?_)
      obtain ⟨n, hw⟩ := hw
      exact b23 n (0 : Int32) u H locs ls hP hD hS (lv_sub hl [1, 2, 0] rfl) hw
    · replace hw := hw.2 c2
      exact b11 u H locs ls hP hD hS (lv_sub hl [] rfl) hw
-- X5_count
def wX5_count (a1 : Int32) (u : SX) (P : Int32 → SX → Prop) (Px : SX → Prop) : Prop := ((a1 = (0 : Int32) → (P (x_steps u) u)) ∧ (¬ a1 = (0 : Int32) → ((a1 = (1 : Int32) → (P (m_pages (p_mem (x_proc u))) u)) ∧ (¬ a1 = (1 : Int32) → ((a1 = (2 : Int32) → (P (m_lost (p_mem (x_proc u))) u)) ∧ (¬ a1 = (2 : Int32) → ((a1 = (3 : Int32) → (P (p_repetitions (x_proc u)) u)) ∧ (¬ a1 = (3 : Int32) → (Px u)))))))))
set_option maxHeartbeats 4000000 in
set_option maxRecDepth 100000 in
theorem kcX5_count (l : Launch) (hl9 : l.stackTraces = false) (D : va_G) (cB cI : ClassId) (sa : Nat) (q0 q1 q2 q3 q4 q5 q6 q7 q8 q9 q10 : Nat) (sz : Nat) (a1 : Int32) (u : SX) (P : Int32 → SX → Prop) (Px : SX → Prop) (hw : wX5_count a1 u P Px) : vx_Met l yX5_count wsX5_count ({ frames := 6, cells := 1, slots := 6, locals := 82 } : Room) (va_Pc [.ref q10, .int a1] (Pcw D (tyA cB cI) (WX cB cI q0 q1 q2 q3 q4 q5 q6 q7 q8 q9 q10 u) sz (Tx "java/lang/IllegalArgumentException" 94 "nothing is counted by this number" 139 sa (WX cB cI q0 q1 q2 q3 q4 q5 q6 q7 q8 q9 q10 u) sz))) (va_Qi P (fun u t => va_P D vwCl (WX cB cI q0 q1 q2 q3 q4 q5 q6 q7 q8 q9 q10 u) t.heap) (va_A (WX cB cI q0 q1 q2 q3 q4 q5 q6 q7 q8 q9 q10 u) sz)) (vx_X Px (fun E u t => E = "java/lang/IllegalArgumentException" ∧ va_P D vwCl (WX cB cI q0 q1 q2 q3 q4 q5 q6 q7 q8 q9 q10 u) t.heap) (va_A (WX cB cI q0 q1 q2 q3 q4 q5 q6 q7 q8 q9 q10 u) sz)) 1 6 (va_A (WX cB cI q0 q1 q2 q3 q4 q5 q6 q7 q8 q9 q10 u) sz) := by
  refine enx_ (cc := cX5_count) (maxL := 2) (ret := (some .int)) (own := RX5) (lv := [(0, .ref q10), (1, .int a1)]) (Qf := fun A => va_Qi P (fun u t => va_P D vwCl (WX cB cI q0 q1 q2 q3 q4 q5 q6 q7 q8 q9 q10 u) t.heap) A) (Xf := fun A => vx_X Px (fun E u t => E = "java/lang/IllegalArgumentException" ∧ va_P D vwCl (WX cB cI q0 q1 q2 q3 q4 q5 q6 q7 q8 q9 q10 u) t.heap) A) (by decide) rfl rfl (Nat.le_of_ble_eq_true rfl) rfl ?_
  intro p e s m below meth c A ls S ht hr hlk hname hsz hP hK hD hA hSub hS hE hl
  have hx := S.1
  have hb := S.2.1
  have hown := S.2.2.2.1
  have hts := S.2.2.2.2
  have i_X2 : ∀ w ∈ u_ws RX2 TX2 4, w ∈ wsX5_count := by decide +kernel
  have i_X3 : ∀ w ∈ u_ws RX3 TX3 8, w ∈ wsX5_count := by decide +kernel
  have i_X5 : ∀ w ∈ u_ws RX5 TX5 5, w ∈ wsX5_count := by decide +kernel
  have f_10 := hts (.fieldLink RX5 10 "MachineCore" "processor" "LMachineCore$Processor;") (by decide +kernel)
  have f_69 := hts (.fieldLink RX5 69 "MachineCore$Processor" "memory" "LMachineCore$Memory;") (by decide +kernel)
  have f_127 := hts (.fieldLink RX5 127 "MachineCore" "steps" "I") (by decide +kernel)
  have f_130 := hts (.fieldLink RX5 130 "MachineCore$Memory" "pages" "I") (by decide +kernel)
  have f_133 := hts (.fieldLink RX5 133 "MachineCore$Memory" "lost" "I") (by decide +kernel)
  have f_136 := hts (.fieldLink RX5 136 "MachineCore$Processor" "repetitions" "I") (by decide +kernel)
  have hE := tx_own hsz hSub hE
  unfold wX5_count at hw
  obtain ⟨H, eH⟩ : ∃ H, H = s.heap := ⟨_, rfl⟩
  obtain ⟨locs, eL⟩ : ∃ locs : List Loc, locs = [] := ⟨_, rfl⟩
  replace hP : va_P D vwCl (WX cB cI q0 q1 q2 q3 q4 q5 q6 q7 q8 q9 q10 u) H := by rw [eH]; exact hP
  replace hS : va_S A s.heap H locs := by rw [eH, eL]; exact hS
  suffices hgo : W p l e ({ frames := 6, cells := 1, slots := 6, locals := 82 } : Room) s m ([.ref q10, .int a1] : List Value).toArray below meth c H locs 0 0 (vx_MQ below (va_Qi P (fun u t => va_P D vwCl (WX cB cI q0 q1 q2 q3 q4 q5 q6 q7 q8 q9 q10 u) t.heap) A) (vx_X Px (fun E u t => E = "java/lang/IllegalArgumentException" ∧ va_P D vwCl (WX cB cI q0 q1 q2 q3 q4 q5 q6 q7 q8 q9 q10 u) t.heap) A) ([.ref q10, .int a1] : List Value).toArray s 1 6 A) (F0 m 0 ls []) by rw [eH, eL] at hgo; exact hgo
  clear eH eL
  refine lv_iload_n hx hb dX5_count_0 rfl (lv_at hl 1 rfl) ?_
  by_cases c1 : a1 = (0 : Int32)
  · replace hw := hw.1 c1
    refine lv_tableIn (off := 31) (tgt := 32) hx hb dX5_count_1 (by rw [c1]; decide) (by rw [c1]; decide) (by rw [c1]; rfl) (by decide) ?_
    refine lv_aload_n hx hb dX5_count_32 rfl (lv_at hl 0 rfl) ?_
    refine va_get (D := D) (ci := 5) (v := .int (x_steps u)) (C := RX5) (T := TX5) (N := 5) hx hb hts i_X5 hown hK hP 0 rfl rfl 4 (by decide) f_127 (fun _ h9 => h9) rfl dX5_count_33 ?_
    refine W.widen (k := 1) (n := 6) (Nat.zero_le _) (Nat.zero_le _) (vx_ret ?_)
    exact rt_i (wo := (fun v => WX cB cI q0 q1 q2 q3 q4 q5 q6 q7 q8 q9 q10 v)) S hr hlk u hP hS hw dX5_count_36
  replace hw := hw.2 c1
  by_cases c2 : a1 = (1 : Int32)
  · replace hw := hw.1 c2
    refine lv_tableIn (off := 36) (tgt := 37) hx hb dX5_count_1 (by rw [c2]; decide) (by rw [c2]; decide) (by rw [c2]; rfl) (by decide) ?_
    refine lv_aload_n hx hb dX5_count_37 rfl (lv_at hl 0 rfl) ?_
    refine va_get (D := D) (ci := 5) (v := .ref q0) (C := RX5) (T := TX5) (N := 5) hx hb hts i_X5 hown hK hP 0 rfl rfl 0 (by decide) f_10 (fun _ h9 => h9) rfl dX5_count_38 ?_
    refine va_get (D := D) (ci := 3) (v := .ref q1) (C := RX3) (T := TX3) (N := 8) hx hb hts i_X3 hown hK hP 1 rfl rfl 0 (by decide) f_69 (fun _ h9 => h9) rfl dX5_count_41 ?_
    refine va_get (D := D) (ci := 2) (v := .int (m_pages (p_mem (x_proc u)))) (C := RX2) (T := TX2) (N := 4) hx hb hts i_X2 hown hK hP 2 rfl rfl 2 (by decide) f_130 (fun _ h9 => h9) rfl dX5_count_44 ?_
    refine W.widen (k := 1) (n := 6) (Nat.zero_le _) (Nat.zero_le _) (vx_ret ?_)
    exact rt_i (wo := (fun v => WX cB cI q0 q1 q2 q3 q4 q5 q6 q7 q8 q9 q10 v)) S hr hlk u hP hS hw dX5_count_47
  replace hw := hw.2 c2
  by_cases c3 : a1 = (2 : Int32)
  · replace hw := hw.1 c3
    refine lv_tableIn (off := 47) (tgt := 48) hx hb dX5_count_1 (by rw [c3]; decide) (by rw [c3]; decide) (by rw [c3]; rfl) (by decide) ?_
    refine lv_aload_n hx hb dX5_count_48 rfl (lv_at hl 0 rfl) ?_
    refine va_get (D := D) (ci := 5) (v := .ref q0) (C := RX5) (T := TX5) (N := 5) hx hb hts i_X5 hown hK hP 0 rfl rfl 0 (by decide) f_10 (fun _ h9 => h9) rfl dX5_count_49 ?_
    refine va_get (D := D) (ci := 3) (v := .ref q1) (C := RX3) (T := TX3) (N := 8) hx hb hts i_X3 hown hK hP 1 rfl rfl 0 (by decide) f_69 (fun _ h9 => h9) rfl dX5_count_52 ?_
    refine va_get (D := D) (ci := 2) (v := .int (m_lost (p_mem (x_proc u)))) (C := RX2) (T := TX2) (N := 4) hx hb hts i_X2 hown hK hP 2 rfl rfl 3 (by decide) f_133 (fun _ h9 => h9) rfl dX5_count_55 ?_
    refine W.widen (k := 1) (n := 6) (Nat.zero_le _) (Nat.zero_le _) (vx_ret ?_)
    exact rt_i (wo := (fun v => WX cB cI q0 q1 q2 q3 q4 q5 q6 q7 q8 q9 q10 v)) S hr hlk u hP hS hw dX5_count_58
  replace hw := hw.2 c3
  by_cases c4 : a1 = (3 : Int32)
  · replace hw := hw.1 c4
    refine lv_tableIn (off := 58) (tgt := 59) hx hb dX5_count_1 (by rw [c4]; decide) (by rw [c4]; decide) (by rw [c4]; rfl) (by decide) ?_
    refine lv_aload_n hx hb dX5_count_59 rfl (lv_at hl 0 rfl) ?_
    refine va_get (D := D) (ci := 5) (v := .ref q0) (C := RX5) (T := TX5) (N := 5) hx hb hts i_X5 hown hK hP 0 rfl rfl 0 (by decide) f_10 (fun _ h9 => h9) rfl dX5_count_60 ?_
    refine va_get (D := D) (ci := 3) (v := .int (p_repetitions (x_proc u))) (C := RX3) (T := TX3) (N := 8) hx hb hts i_X3 hown hK hP 1 rfl rfl 6 (by decide) f_136 (fun _ h9 => h9) rfl dX5_count_63 ?_
    refine W.widen (k := 1) (n := 6) (Nat.zero_le _) (Nat.zero_le _) (vx_ret ?_)
    exact rt_i (wo := (fun v => WX cB cI q0 q1 q2 q3 q4 q5 q6 q7 q8 q9 q10 v)) S hr hlk u hP hS hw dX5_count_66
  replace hw := hw.2 c4
  refine lv_tableOut (tgt := 67) hx hb dX5_count_1 (by have e_c1 : ¬ (a1 : Int32).toInt = 0 := sw_ne c1; have e_c2 : ¬ (a1 : Int32).toInt = 1 := sw_ne c2; have e_c3 : ¬ (a1 : Int32).toInt = 2 := sw_ne c3; have e_c4 : ¬ (a1 : Int32).toInt = 3 := sw_ne c4; omega) (by decide) ?_
  exact th_ (wn := fun v => WX cB cI q0 q1 q2 q3 q4 q5 q6 q7 q8 q9 q10 v) (by decide +kernel) (cls := "java/lang/IllegalArgumentException") (text := "nothing is counted by this number") (ik := 90) (is := 139) (ic := 94) (pc := 67) S hl9 ht hlk (hts (.classLink RX5 90 "java/lang/IllegalArgumentException") (by decide +kernel)) (hts (.initialized "java/lang/IllegalArgumentException") (by decide +kernel)) (xt_hat hts (fun w h => List.mem_cons_of_mem _ (List.mem_append_right _ h)) hE.2.2.2) xt_o90_94 hE hl.1 dX5_count_67 dX5_count_70 dX5_count_71 dX5_count_73 dX5_count_76 ⟨Nat.le_of_ble_eq_true rfl, Nat.le_of_ble_eq_true rfl, Nat.le_of_ble_eq_true rfl, Nat.le_of_ble_eq_true rfl⟩ hS u hP hw
