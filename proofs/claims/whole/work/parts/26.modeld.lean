-- X6_does
def wX6_does_b86  (P : SQ → Prop) (s1 : Int32) (u : SQ) : Prop := (wX6_jump s1 u (fun u31 => (P u31)))
def wX6_does  (u : SQ) (P : SQ → Prop) : Prop := (((64 : Int32) ≤ (q_code u) → (((96 : Int32) ≤ (q_code u) → (((128 : Int32) ≤ (q_code u) → (((144 : Int32) ≤ (q_code u) → (((160 : Int32) ≤ (q_code u) → (((192 : Int32) ≤ (q_code u) → (((208 : Int32) ≤ (q_code u) → (((224 : Int32) ≤ (q_code u) → (((240 : Int32) ≤ (q_code u) → (wX6_flagsAndMore  (qs_interrupted (qs_gave (qs_ip u ((q_at u) &&& (65535 : Int32))) (0 : Int32)) (0 : Int32)) (fun u10 => (P u10)))) ∧ (¬ (240 : Int32) ≤ (q_code u) → (wX6_loopsAndPorts  (qs_interrupted (qs_gave (qs_ip u ((q_at u) &&& (65535 : Int32))) (0 : Int32)) (0 : Int32)) (fun u12 => (P u12)))))) ∧ (¬ (224 : Int32) ≤ (q_code u) → (wX6_shiftsAndMore  (qs_interrupted (qs_gave (qs_ip u ((q_at u) &&& (65535 : Int32))) (0 : Int32)) (0 : Int32)) (fun u14 => (P u14)))))) ∧ (¬ (208 : Int32) ≤ (q_code u) → (wX6_returnsAndMore  (qs_interrupted (qs_gave (qs_ip u ((q_at u) &&& (65535 : Int32))) (0 : Int32)) (0 : Int32)) (fun u16 => (P u16)))))) ∧ (¬ (192 : Int32) ≤ (q_code u) → (wX6_memory  (qs_interrupted (qs_gave (qs_ip u ((q_at u) &&& (65535 : Int32))) (0 : Int32)) (0 : Int32)) (fun u18 => (P u18)))))) ∧ (¬ (160 : Int32) ≤ (q_code u) → (wX6_others  (qs_interrupted (qs_gave (qs_ip u ((q_at u) &&& (65535 : Int32))) (0 : Int32)) (0 : Int32)) (fun u20 => (P u20)))))) ∧ (¬ (144 : Int32) ≤ (q_code u) → (wX6_moves  (qs_interrupted (qs_gave (qs_ip u ((q_at u) &&& (65535 : Int32))) (0 : Int32)) (0 : Int32)) (fun u22 => (P u22)))))) ∧ (¬ (128 : Int32) ≤ (q_code u) → (wX6_holds ((q_code u) &&& (15 : Int32)) (qs_interrupted (qs_gave (qs_ip u ((q_at u) &&& (65535 : Int32))) (0 : Int32)) (0 : Int32)) (fun r25 u24 => ((r25 = (0 : Int32) → (wX6_does_b86  P (0 : Int32) u24)) ∧ (¬ r25 = (0 : Int32) → (wX6_does_b86  P (q_i u24) u24)))))))) ∧ (¬ (96 : Int32) ≤ (q_code u) → (wX6_second  (qs_interrupted (qs_gave (qs_ip u ((q_at u) &&& (65535 : Int32))) (0 : Int32)) (0 : Int32)) (fun u27 => (P u27)))))) ∧ (¬ (64 : Int32) ≤ (q_code u) → (wX6_first  (qs_interrupted (qs_gave (qs_ip u ((q_at u) &&& (65535 : Int32))) (0 : Int32)) (0 : Int32)) (fun u29 => (P u29)))))
set_option maxHeartbeats 4000000 in
set_option maxRecDepth 100000 in
theorem kcX6_does (l : Launch) (D : va_G) (cB cI : ClassId) (h0 h1 h2 h3 h4 h5 : Nat) (sz : Nat)  (u : SQ) (P : SQ → Prop) (hw : wX6_does  u P) : Met l yX6_does wsX6_does ({ frames := 7, cells := 0, slots := 0, locals := 170 } : Room) (va_Pc [.ref h0] (Pcw D (tyA cB cI) (WQ cI h0 h1 h2 h3 h4 h5 u) sz Tru)) (va_Qv P (fun u t => va_P D vwCl (WQ cI h0 h1 h2 h3 h4 h5 u) t.heap) (va_A (WQ cI h0 h1 h2 h3 h4 h5 u) sz)) 0 0 (va_A (WQ cI h0 h1 h2 h3 h4 h5 u) sz) := by
  refine en_ (cc := cX6_does) (maxL := 1) (ret := none) (own := RX6) (lv := [(0, .ref h0)]) (Qf := fun A => va_Qv P (fun u t => va_P D vwCl (WQ cI h0 h1 h2 h3 h4 h5 u) t.heap) A) (by decide) rfl rfl (Nat.le_of_ble_eq_true rfl) rfl ?_
  intro p e s m below meth c A ls S hr hlk hname hsz hP hK hD hA hSub hS hE hl
  have hx := S.1
  have hb := S.2.1
  have hown := S.2.2.2.1
  have hts := S.2.2.2.2
  have i_X6 : ∀ w ∈ u_ws RX6 TX6 29, w ∈ wsX6_does := by decide +kernel
  have f_114 := hts (.fieldLink RX6 114 "MachineCoreModel" "at" "I") (by decide +kernel)
  have f_148 := hts (.fieldLink RX6 148 "MachineCoreModel" "code" "I") (by decide +kernel)
  have f_164 := hts (.fieldLink RX6 164 "MachineCoreModel" "i" "I") (by decide +kernel)
  have f_170 := hts (.fieldLink RX6 170 "MachineCoreModel" "ip" "I") (by decide +kernel)
  have f_209 := hts (.fieldLink RX6 209 "MachineCoreModel" "gave" "Z") (by decide +kernel)
  have f_264 := hts (.fieldLink RX6 264 "MachineCoreModel" "interrupted" "Z") (by decide +kernel)
  have k_39 := hts (.constant RX6 39 (65535)) (by decide +kernel)
  have b86 : ∀ (s1 : Int32) (u : SQ) (H : Heap) (locs : List Loc) (ls : Array Slot), va_P D vwCl (WQ cI h0 h1 h2 h3 h4 h5 u) H → va_D A (WQ cI h0 h1 h2 h3 h4 h5 u) → va_S A s.heap H locs → lv_has ls 1 [] → wX6_does_b86  P s1 u → W p l e ({ frames := 7, cells := 0, slots := 0, locals := 170 } : Room) s m ([.ref h0] : List Value).toArray below meth c H locs 0 0 (MQ below (va_Qv P (fun u t => va_P D vwCl (WQ cI h0 h1 h2 h3 h4 h5 u) t.heap) A) ([.ref h0] : List Value).toArray s 0 0 A) (F0 m 86 ls [.int s1, .ref h0]) := by
    intro s1 u H locs ls hP hD hS hl hw
    unfold wX6_does_b86 at hw
    refine cl_Vv (As := [.int s1]) (rest := []) (st := [.int s1, .ref h0]) S hK hA hP hD hS (fr_Q u) (kcX6_jump l D cB cI h0 h1 h2 h3 h4 h5 H.size s1 u _ hw) (cwV 1 hts gX6_does_X6_jump rfl rfl rfl (by decide +kernel) ⟨Nat.le_of_ble_eq_true rfl, Nat.le_of_ble_eq_true rfl⟩) tru_h tru_b 0 rfl rfl rfl rfl rfl hl.1 (Nat.le_of_ble_eq_true rfl) dX6_does_86 ⟨Nat.zero_le _, Nat.zero_le _⟩ (fun u31 H locs hP hD hS hw => ?_)
    replace hP : va_P D vwCl (WQ cI h0 h1 h2 h3 h4 h5 u31) H := hP
    replace hD : va_D A (WQ cI h0 h1 h2 h3 h4 h5 u31) := hD
    refine lv_goto (tgt := 198) hx hb dX6_does_89 (by decide) ?_
    exact rt_v (wo := (fun v => WQ cI h0 h1 h2 h3 h4 h5 v)) S hr hlk u31 hP hS hw dX6_does_198
  unfold wX6_does at hw
  obtain ⟨H, eH⟩ : ∃ H, H = s.heap := ⟨_, rfl⟩
  obtain ⟨locs, eL⟩ : ∃ locs : List Loc, locs = [] := ⟨_, rfl⟩
  replace hP : va_P D vwCl (WQ cI h0 h1 h2 h3 h4 h5 u) H := by rw [eH]; exact hP
  replace hS : va_S A s.heap H locs := by rw [eH, eL]; exact hS
  suffices hgo : W p l e ({ frames := 7, cells := 0, slots := 0, locals := 170 } : Room) s m ([.ref h0] : List Value).toArray below meth c H locs 0 0 (MQ below (va_Qv P (fun u t => va_P D vwCl (WQ cI h0 h1 h2 h3 h4 h5 u) t.heap) A) ([.ref h0] : List Value).toArray s 0 0 A) (F0 m 0 ls []) by rw [eH, eL] at hgo; exact hgo
  clear eH eL
  refine lv_aload_n hx hb dX6_does_0 rfl (lv_at hl 0 rfl) ?_
  refine lv_aload_n hx hb dX6_does_1 rfl (lv_at hl 0 rfl) ?_
  refine va_get (D := D) (ci := 6) (v := .int (q_at u)) (C := RX6) (T := TX6) (N := 29) hx hb hts i_X6 hown hK hP 0 rfl rfl 18 (by decide) f_114 (fun _ h9 => h9) rfl dX6_does_2 ?_
  refine lv_ldc (v := (65535 : Int32)) hx hb hown k_39 dX6_does_5 ?_
  refine lv_iand hx hb dX6_does_7 ?_
  refine va_put (D := D) (ci := 6) (v := .int ((q_at u) &&& (65535 : Int32))) (ty := .int) (C := RX6) (T := TX6) (N := 29) hx hb hts i_X6 tyX6 tyX6_ok nmX6 hown hK hP hD hS 0 rfl rfl 3 (by decide) f_170 (fun _ h9 => h9) rfl (by decide +kernel) rfl rfl (Nat.le_of_ble_eq_true rfl) dX6_does_8 (fun H locs hP hD hS => ?_)
  replace hP : va_P D vwCl (WQ cI h0 h1 h2 h3 h4 h5 (qs_ip u ((q_at u) &&& (65535 : Int32)))) H := hP
  replace hD : va_D A (WQ cI h0 h1 h2 h3 h4 h5 (qs_ip u ((q_at u) &&& (65535 : Int32)))) := hD
  refine lv_aload_n hx hb dX6_does_11 rfl (lv_at hl 0 rfl) ?_
  refine lv_iconst (v := (0 : Int32)) hx hb dX6_does_12 (by decide) ?_
  refine va_put (D := D) (ci := 6) (v := .int (0 : Int32)) (ty := .boolean) (C := RX6) (T := TX6) (N := 29) hx hb hts i_X6 tyX6 tyX6_ok nmX6 hown hK hP hD hS 0 rfl rfl 15 (by decide) f_209 (fun _ h9 => h9) rfl (by decide +kernel) rfl rfl (Nat.le_of_ble_eq_true rfl) dX6_does_13 (fun H locs hP hD hS => ?_)
  replace hP : va_P D vwCl (WQ cI h0 h1 h2 h3 h4 h5 (qs_gave (qs_ip u ((q_at u) &&& (65535 : Int32))) (0 : Int32))) H := hP
  replace hD : va_D A (WQ cI h0 h1 h2 h3 h4 h5 (qs_gave (qs_ip u ((q_at u) &&& (65535 : Int32))) (0 : Int32))) := hD
  refine lv_aload_n hx hb dX6_does_16 rfl (lv_at hl 0 rfl) ?_
  refine lv_iconst (v := (0 : Int32)) hx hb dX6_does_17 (by decide) ?_
  refine va_put (D := D) (ci := 6) (v := .int (0 : Int32)) (ty := .boolean) (C := RX6) (T := TX6) (N := 29) hx hb hts i_X6 tyX6 tyX6_ok nmX6 hown hK hP hD hS 0 rfl rfl 16 (by decide) f_264 (fun _ h9 => h9) rfl (by decide +kernel) rfl rfl (Nat.le_of_ble_eq_true rfl) dX6_does_18 (fun H locs hP hD hS => ?_)
  replace hP : va_P D vwCl (WQ cI h0 h1 h2 h3 h4 h5 (qs_interrupted (qs_gave (qs_ip u ((q_at u) &&& (65535 : Int32))) (0 : Int32)) (0 : Int32))) H := hP
  replace hD : va_D A (WQ cI h0 h1 h2 h3 h4 h5 (qs_interrupted (qs_gave (qs_ip u ((q_at u) &&& (65535 : Int32))) (0 : Int32)) (0 : Int32))) := hD
  refine lv_aload_n hx hb dX6_does_21 rfl (lv_at hl 0 rfl) ?_
  refine va_get (D := D) (ci := 6) (v := .int (q_code u)) (C := RX6) (T := TX6) (N := 29) hx hb hts i_X6 hown hK hP 0 rfl rfl 21 (by decide) f_148 (fun _ h9 => h9) rfl dX6_does_22 ?_
  refine lv_bipush (v := (64 : Int32)) hx hb dX6_does_25 (by decide) ?_
  refine lv_icmp_ge (tgt := 37) hx hb dX6_does_27 (by decide) (fun c1 => ?_) (fun c1 => ?_)
  · replace hw := hw.1 c1
    refine lv_aload_n hx hb dX6_does_37 rfl (lv_at hl 0 rfl) ?_
    refine va_get (D := D) (ci := 6) (v := .int (q_code u)) (C := RX6) (T := TX6) (N := 29) hx hb hts i_X6 hown hK hP 0 rfl rfl 21 (by decide) f_148 (fun _ h9 => h9) rfl dX6_does_38 ?_
    refine lv_bipush (v := (96 : Int32)) hx hb dX6_does_41 (by decide) ?_
    refine lv_icmp_ge (tgt := 53) hx hb dX6_does_43 (by decide) (fun c2 => ?_) (fun c2 => ?_)
    · replace hw := hw.1 c2
      refine lv_aload_n hx hb dX6_does_53 rfl (lv_at hl 0 rfl) ?_
      refine va_get (D := D) (ci := 6) (v := .int (q_code u)) (C := RX6) (T := TX6) (N := 29) hx hb hts i_X6 hown hK hP 0 rfl rfl 21 (by decide) f_148 (fun _ h9 => h9) rfl dX6_does_54 ?_
      refine lv_sipush (v := (128 : Int32)) hx hb dX6_does_57 (by decide) ?_
      refine lv_icmp_ge (tgt := 92) hx hb dX6_does_60 (by decide) (fun c3 => ?_) (fun c3 => ?_)
      · replace hw := hw.1 c3
        refine lv_aload_n hx hb dX6_does_92 rfl (lv_at hl 0 rfl) ?_
        refine va_get (D := D) (ci := 6) (v := .int (q_code u)) (C := RX6) (T := TX6) (N := 29) hx hb hts i_X6 hown hK hP 0 rfl rfl 21 (by decide) f_148 (fun _ h9 => h9) rfl dX6_does_93 ?_
        refine lv_sipush (v := (144 : Int32)) hx hb dX6_does_96 (by decide) ?_
        refine lv_icmp_ge (tgt := 109) hx hb dX6_does_99 (by decide) (fun c4 => ?_) (fun c4 => ?_)
        · replace hw := hw.1 c4
          refine lv_aload_n hx hb dX6_does_109 rfl (lv_at hl 0 rfl) ?_
          refine va_get (D := D) (ci := 6) (v := .int (q_code u)) (C := RX6) (T := TX6) (N := 29) hx hb hts i_X6 hown hK hP 0 rfl rfl 21 (by decide) f_148 (fun _ h9 => h9) rfl dX6_does_110 ?_
          refine lv_sipush (v := (160 : Int32)) hx hb dX6_does_113 (by decide) ?_
          refine lv_icmp_ge (tgt := 126) hx hb dX6_does_116 (by decide) (fun c5 => ?_) (fun c5 => ?_)
          · replace hw := hw.1 c5
            refine lv_aload_n hx hb dX6_does_126 rfl (lv_at hl 0 rfl) ?_
            refine va_get (D := D) (ci := 6) (v := .int (q_code u)) (C := RX6) (T := TX6) (N := 29) hx hb hts i_X6 hown hK hP 0 rfl rfl 21 (by decide) f_148 (fun _ h9 => h9) rfl dX6_does_127 ?_
            refine lv_sipush (v := (192 : Int32)) hx hb dX6_does_130 (by decide) ?_
            refine lv_icmp_ge (tgt := 143) hx hb dX6_does_133 (by decide) (fun c6 => ?_) (fun c6 => ?_)
            · replace hw := hw.1 c6
              refine lv_aload_n hx hb dX6_does_143 rfl (lv_at hl 0 rfl) ?_
              refine va_get (D := D) (ci := 6) (v := .int (q_code u)) (C := RX6) (T := TX6) (N := 29) hx hb hts i_X6 hown hK hP 0 rfl rfl 21 (by decide) f_148 (fun _ h9 => h9) rfl dX6_does_144 ?_
              refine lv_sipush (v := (208 : Int32)) hx hb dX6_does_147 (by decide) ?_
              refine lv_icmp_ge (tgt := 160) hx hb dX6_does_150 (by decide) (fun c7 => ?_) (fun c7 => ?_)
              · replace hw := hw.1 c7
                refine lv_aload_n hx hb dX6_does_160 rfl (lv_at hl 0 rfl) ?_
                refine va_get (D := D) (ci := 6) (v := .int (q_code u)) (C := RX6) (T := TX6) (N := 29) hx hb hts i_X6 hown hK hP 0 rfl rfl 21 (by decide) f_148 (fun _ h9 => h9) rfl dX6_does_161 ?_
                refine lv_sipush (v := (224 : Int32)) hx hb dX6_does_164 (by decide) ?_
                refine lv_icmp_ge (tgt := 177) hx hb dX6_does_167 (by decide) (fun c8 => ?_) (fun c8 => ?_)
                · replace hw := hw.1 c8
                  refine lv_aload_n hx hb dX6_does_177 rfl (lv_at hl 0 rfl) ?_
                  refine va_get (D := D) (ci := 6) (v := .int (q_code u)) (C := RX6) (T := TX6) (N := 29) hx hb hts i_X6 hown hK hP 0 rfl rfl 21 (by decide) f_148 (fun _ h9 => h9) rfl dX6_does_178 ?_
                  refine lv_sipush (v := (240 : Int32)) hx hb dX6_does_181 (by decide) ?_
                  refine lv_icmp_ge (tgt := 194) hx hb dX6_does_184 (by decide) (fun c9 => ?_) (fun c9 => ?_)
                  · replace hw := hw.1 c9
                    refine lv_aload_n hx hb dX6_does_194 rfl (lv_at hl 0 rfl) ?_
                    refine cl_Vv (As := []) (rest := []) (st := [.ref h0]) S hK hA hP hD hS (fr_Q (qs_interrupted (qs_gave (qs_ip u ((q_at u) &&& (65535 : Int32))) (0 : Int32)) (0 : Int32))) (kcX6_flagsAndMore l D cB cI h0 h1 h2 h3 h4 h5 H.size  (qs_interrupted (qs_gave (qs_ip u ((q_at u) &&& (65535 : Int32))) (0 : Int32)) (0 : Int32)) _ hw) (cwV 0 hts gX6_does_X6_flagsAndMore rfl rfl rfl (by decide +kernel) ⟨Nat.le_of_ble_eq_true rfl, Nat.le_of_ble_eq_true rfl⟩) tru_h tru_b 0 rfl rfl rfl rfl rfl hl.1 (Nat.le_of_ble_eq_true rfl) dX6_does_195 ⟨Nat.zero_le _, Nat.zero_le _⟩ (fun u10 H locs hP hD hS hw => ?_)
                    replace hP : va_P D vwCl (WQ cI h0 h1 h2 h3 h4 h5 u10) H := hP
                    replace hD : va_D A (WQ cI h0 h1 h2 h3 h4 h5 u10) := hD
                    exact rt_v (wo := (fun v => WQ cI h0 h1 h2 h3 h4 h5 v)) S hr hlk u10 hP hS hw dX6_does_198
                  · replace hw := hw.2 c9
                    refine lv_aload_n hx hb dX6_does_187 rfl (lv_at hl 0 rfl) ?_
                    refine cl_Vv (As := []) (rest := []) (st := [.ref h0]) S hK hA hP hD hS (fr_Q (qs_interrupted (qs_gave (qs_ip u ((q_at u) &&& (65535 : Int32))) (0 : Int32)) (0 : Int32))) (kcX6_loopsAndPorts l D cB cI h0 h1 h2 h3 h4 h5 H.size  (qs_interrupted (qs_gave (qs_ip u ((q_at u) &&& (65535 : Int32))) (0 : Int32)) (0 : Int32)) _ hw) (cwV 0 hts gX6_does_X6_loopsAndPorts rfl rfl rfl (by decide +kernel) ⟨Nat.le_of_ble_eq_true rfl, Nat.le_of_ble_eq_true rfl⟩) tru_h tru_b 0 rfl rfl rfl rfl rfl hl.1 (Nat.le_of_ble_eq_true rfl) dX6_does_188 ⟨Nat.zero_le _, Nat.zero_le _⟩ (fun u12 H locs hP hD hS hw => ?_)
                    replace hP : va_P D vwCl (WQ cI h0 h1 h2 h3 h4 h5 u12) H := hP
                    replace hD : va_D A (WQ cI h0 h1 h2 h3 h4 h5 u12) := hD
                    refine lv_goto (tgt := 198) hx hb dX6_does_191 (by decide) ?_
                    exact rt_v (wo := (fun v => WQ cI h0 h1 h2 h3 h4 h5 v)) S hr hlk u12 hP hS hw dX6_does_198
                · replace hw := hw.2 c8
                  refine lv_aload_n hx hb dX6_does_170 rfl (lv_at hl 0 rfl) ?_
                  refine cl_Vv (As := []) (rest := []) (st := [.ref h0]) S hK hA hP hD hS (fr_Q (qs_interrupted (qs_gave (qs_ip u ((q_at u) &&& (65535 : Int32))) (0 : Int32)) (0 : Int32))) (kcX6_shiftsAndMore l D cB cI h0 h1 h2 h3 h4 h5 H.size  (qs_interrupted (qs_gave (qs_ip u ((q_at u) &&& (65535 : Int32))) (0 : Int32)) (0 : Int32)) _ hw) (cwV 0 hts gX6_does_X6_shiftsAndMore rfl rfl rfl (by decide +kernel) ⟨Nat.le_of_ble_eq_true rfl, Nat.le_of_ble_eq_true rfl⟩) tru_h tru_b 0 rfl rfl rfl rfl rfl hl.1 (Nat.le_of_ble_eq_true rfl) dX6_does_171 ⟨Nat.zero_le _, Nat.zero_le _⟩ (fun u14 H locs hP hD hS hw => ?_)
                  replace hP : va_P D vwCl (WQ cI h0 h1 h2 h3 h4 h5 u14) H := hP
                  replace hD : va_D A (WQ cI h0 h1 h2 h3 h4 h5 u14) := hD
                  refine lv_goto (tgt := 198) hx hb dX6_does_174 (by decide) ?_
                  exact rt_v (wo := (fun v => WQ cI h0 h1 h2 h3 h4 h5 v)) S hr hlk u14 hP hS hw dX6_does_198
              · replace hw := hw.2 c7
                refine lv_aload_n hx hb dX6_does_153 rfl (lv_at hl 0 rfl) ?_
                refine cl_Vv (As := []) (rest := []) (st := [.ref h0]) S hK hA hP hD hS (fr_Q (qs_interrupted (qs_gave (qs_ip u ((q_at u) &&& (65535 : Int32))) (0 : Int32)) (0 : Int32))) (kcX6_returnsAndMore l D cB cI h0 h1 h2 h3 h4 h5 H.size  (qs_interrupted (qs_gave (qs_ip u ((q_at u) &&& (65535 : Int32))) (0 : Int32)) (0 : Int32)) _ hw) (cwV 0 hts gX6_does_X6_returnsAndMore rfl rfl rfl (by decide +kernel) ⟨Nat.le_of_ble_eq_true rfl, Nat.le_of_ble_eq_true rfl⟩) tru_h tru_b 0 rfl rfl rfl rfl rfl hl.1 (Nat.le_of_ble_eq_true rfl) dX6_does_154 ⟨Nat.zero_le _, Nat.zero_le _⟩ (fun u16 H locs hP hD hS hw => ?_)
                replace hP : va_P D vwCl (WQ cI h0 h1 h2 h3 h4 h5 u16) H := hP
                replace hD : va_D A (WQ cI h0 h1 h2 h3 h4 h5 u16) := hD
                refine lv_goto (tgt := 198) hx hb dX6_does_157 (by decide) ?_
                exact rt_v (wo := (fun v => WQ cI h0 h1 h2 h3 h4 h5 v)) S hr hlk u16 hP hS hw dX6_does_198
            · replace hw := hw.2 c6
              refine lv_aload_n hx hb dX6_does_136 rfl (lv_at hl 0 rfl) ?_
              refine cl_Vv (As := []) (rest := []) (st := [.ref h0]) S hK hA hP hD hS (fr_Q (qs_interrupted (qs_gave (qs_ip u ((q_at u) &&& (65535 : Int32))) (0 : Int32)) (0 : Int32))) (kcX6_memory l D cB cI h0 h1 h2 h3 h4 h5 H.size  (qs_interrupted (qs_gave (qs_ip u ((q_at u) &&& (65535 : Int32))) (0 : Int32)) (0 : Int32)) _ hw) (cwV 0 hts gX6_does_X6_memory rfl rfl rfl (by decide +kernel) ⟨Nat.le_of_ble_eq_true rfl, Nat.le_of_ble_eq_true rfl⟩) tru_h tru_b 0 rfl rfl rfl rfl rfl hl.1 (Nat.le_of_ble_eq_true rfl) dX6_does_137 ⟨Nat.zero_le _, Nat.zero_le _⟩ (fun u18 H locs hP hD hS hw => ?_)
              replace hP : va_P D vwCl (WQ cI h0 h1 h2 h3 h4 h5 u18) H := hP
              replace hD : va_D A (WQ cI h0 h1 h2 h3 h4 h5 u18) := hD
              refine lv_goto (tgt := 198) hx hb dX6_does_140 (by decide) ?_
              exact rt_v (wo := (fun v => WQ cI h0 h1 h2 h3 h4 h5 v)) S hr hlk u18 hP hS hw dX6_does_198
          · replace hw := hw.2 c5
            refine lv_aload_n hx hb dX6_does_119 rfl (lv_at hl 0 rfl) ?_
            refine cl_Vv (As := []) (rest := []) (st := [.ref h0]) S hK hA hP hD hS (fr_Q (qs_interrupted (qs_gave (qs_ip u ((q_at u) &&& (65535 : Int32))) (0 : Int32)) (0 : Int32))) (kcX6_others l D cB cI h0 h1 h2 h3 h4 h5 H.size  (qs_interrupted (qs_gave (qs_ip u ((q_at u) &&& (65535 : Int32))) (0 : Int32)) (0 : Int32)) _ hw) (cwV 0 hts gX6_does_X6_others rfl rfl rfl (by decide +kernel) ⟨Nat.le_of_ble_eq_true rfl, Nat.le_of_ble_eq_true rfl⟩) tru_h tru_b 0 rfl rfl rfl rfl rfl hl.1 (Nat.le_of_ble_eq_true rfl) dX6_does_120 ⟨Nat.zero_le _, Nat.zero_le _⟩ (fun u20 H locs hP hD hS hw => ?_)
            replace hP : va_P D vwCl (WQ cI h0 h1 h2 h3 h4 h5 u20) H := hP
            replace hD : va_D A (WQ cI h0 h1 h2 h3 h4 h5 u20) := hD
            refine lv_goto (tgt := 198) hx hb dX6_does_123 (by decide) ?_
            exact rt_v (wo := (fun v => WQ cI h0 h1 h2 h3 h4 h5 v)) S hr hlk u20 hP hS hw dX6_does_198
        · replace hw := hw.2 c4
          refine lv_aload_n hx hb dX6_does_102 rfl (lv_at hl 0 rfl) ?_
          refine cl_Vv (As := []) (rest := []) (st := [.ref h0]) S hK hA hP hD hS (fr_Q (qs_interrupted (qs_gave (qs_ip u ((q_at u) &&& (65535 : Int32))) (0 : Int32)) (0 : Int32))) (kcX6_moves l D cB cI h0 h1 h2 h3 h4 h5 H.size  (qs_interrupted (qs_gave (qs_ip u ((q_at u) &&& (65535 : Int32))) (0 : Int32)) (0 : Int32)) _ hw) (cwV 0 hts gX6_does_X6_moves rfl rfl rfl (by decide +kernel) ⟨Nat.le_of_ble_eq_true rfl, Nat.le_of_ble_eq_true rfl⟩) tru_h tru_b 0 rfl rfl rfl rfl rfl hl.1 (Nat.le_of_ble_eq_true rfl) dX6_does_103 ⟨Nat.zero_le _, Nat.zero_le _⟩ (fun u22 H locs hP hD hS hw => ?_)
          replace hP : va_P D vwCl (WQ cI h0 h1 h2 h3 h4 h5 u22) H := hP
          replace hD : va_D A (WQ cI h0 h1 h2 h3 h4 h5 u22) := hD
          refine lv_goto (tgt := 198) hx hb dX6_does_106 (by decide) ?_
          exact rt_v (wo := (fun v => WQ cI h0 h1 h2 h3 h4 h5 v)) S hr hlk u22 hP hS hw dX6_does_198
      · replace hw := hw.2 c3
        refine lv_aload_n hx hb dX6_does_63 rfl (lv_at hl 0 rfl) ?_
        refine lv_aload_n hx hb dX6_does_64 rfl (lv_at hl 0 rfl) ?_
        refine lv_aload_n hx hb dX6_does_65 rfl (lv_at hl 0 rfl) ?_
        refine va_get (D := D) (ci := 6) (v := .int (q_code u)) (C := RX6) (T := TX6) (N := 29) hx hb hts i_X6 hown hK hP 0 rfl rfl 21 (by decide) f_148 (fun _ h9 => h9) rfl dX6_does_66 ?_
        refine lv_bipush (v := (15 : Int32)) hx hb dX6_does_69 (by decide) ?_
        refine lv_iand hx hb dX6_does_71 ?_
        refine cl_Vi (As := [.int ((q_code u) &&& (15 : Int32))]) (rest := [.ref h0]) (st := [.int ((q_code u) &&& (15 : Int32)), .ref h0, .ref h0]) S hK hA hP hD hS (fr_Q (qs_interrupted (qs_gave (qs_ip u ((q_at u) &&& (65535 : Int32))) (0 : Int32)) (0 : Int32))) (kcX6_holds l D cB cI h0 h1 h2 h3 h4 h5 H.size ((q_code u) &&& (15 : Int32)) (qs_interrupted (qs_gave (qs_ip u ((q_at u) &&& (65535 : Int32))) (0 : Int32)) (0 : Int32)) _ hw) (cwV 1 hts gX6_does_X6_holds rfl rfl rfl (by decide +kernel) ⟨Nat.le_of_ble_eq_true rfl, Nat.le_of_ble_eq_true rfl⟩) tru_h tru_b 0 rfl rfl rfl rfl rfl hl.1 (Nat.le_of_ble_eq_true rfl) dX6_does_72 ⟨Nat.zero_le _, Nat.zero_le _⟩ (fun r25 u24 H locs hP hD hS hw => ?_)
        replace hP : va_P D vwCl (WQ cI h0 h1 h2 h3 h4 h5 u24) H := hP
        replace hD : va_D A (WQ cI h0 h1 h2 h3 h4 h5 u24) := hD
        refine lv_if_eq (tgt := 85) hx hb dX6_does_75 (by decide) (fun c26 => ?_) (fun c26 => ?_)
        · replace hw := hw.1 c26
          refine lv_iconst (v := (0 : Int32)) hx hb dX6_does_85 (by decide) ?_
          exact b86 (0 : Int32) u24 H locs ls hP hD hS (lv_sub hl [] rfl) hw
        · replace hw := hw.2 c26
          refine lv_aload_n hx hb dX6_does_78 rfl (lv_at hl 0 rfl) ?_
          refine va_get (D := D) (ci := 6) (v := .int (q_i u24)) (C := RX6) (T := TX6) (N := 29) hx hb hts i_X6 hown hK hP 0 rfl rfl 27 (by decide) f_164 (fun _ h9 => h9) rfl dX6_does_79 ?_
          refine lv_goto (tgt := 86) hx hb dX6_does_82 (by decide) ?_
          exact b86 (q_i u24) u24 H locs ls hP hD hS (lv_sub hl [] rfl) hw
    · replace hw := hw.2 c2
      refine lv_aload_n hx hb dX6_does_46 rfl (lv_at hl 0 rfl) ?_
      refine cl_Vv (As := []) (rest := []) (st := [.ref h0]) S hK hA hP hD hS (fr_Q (qs_interrupted (qs_gave (qs_ip u ((q_at u) &&& (65535 : Int32))) (0 : Int32)) (0 : Int32))) (kcX6_second l D cB cI h0 h1 h2 h3 h4 h5 H.size  (qs_interrupted (qs_gave (qs_ip u ((q_at u) &&& (65535 : Int32))) (0 : Int32)) (0 : Int32)) _ hw) (cwV 0 hts gX6_does_X6_second rfl rfl rfl (by decide +kernel) ⟨Nat.le_of_ble_eq_true rfl, Nat.le_of_ble_eq_true rfl⟩) tru_h tru_b 0 rfl rfl rfl rfl rfl hl.1 (Nat.le_of_ble_eq_true rfl) dX6_does_47 ⟨Nat.zero_le _, Nat.zero_le _⟩ (fun u27 H locs hP hD hS hw => ?_)
      replace hP : va_P D vwCl (WQ cI h0 h1 h2 h3 h4 h5 u27) H := hP
      replace hD : va_D A (WQ cI h0 h1 h2 h3 h4 h5 u27) := hD
      refine lv_goto (tgt := 198) hx hb dX6_does_50 (by decide) ?_
      exact rt_v (wo := (fun v => WQ cI h0 h1 h2 h3 h4 h5 v)) S hr hlk u27 hP hS hw dX6_does_198
  · replace hw := hw.2 c1
    refine lv_aload_n hx hb dX6_does_30 rfl (lv_at hl 0 rfl) ?_
    refine cl_Vv (As := []) (rest := []) (st := [.ref h0]) S hK hA hP hD hS (fr_Q (qs_interrupted (qs_gave (qs_ip u ((q_at u) &&& (65535 : Int32))) (0 : Int32)) (0 : Int32))) (kcX6_first l D cB cI h0 h1 h2 h3 h4 h5 H.size  (qs_interrupted (qs_gave (qs_ip u ((q_at u) &&& (65535 : Int32))) (0 : Int32)) (0 : Int32)) _ hw) (cwV 0 hts gX6_does_X6_first rfl rfl rfl (by decide +kernel) ⟨Nat.le_of_ble_eq_true rfl, Nat.le_of_ble_eq_true rfl⟩) tru_h tru_b 0 rfl rfl rfl rfl rfl hl.1 (Nat.le_of_ble_eq_true rfl) dX6_does_31 ⟨Nat.zero_le _, Nat.zero_le _⟩ (fun u29 H locs hP hD hS hw => ?_)
    replace hP : va_P D vwCl (WQ cI h0 h1 h2 h3 h4 h5 u29) H := hP
    replace hD : va_D A (WQ cI h0 h1 h2 h3 h4 h5 u29) := hD
    refine lv_goto (tgt := 198) hx hb dX6_does_34 (by decide) ?_
    exact rt_v (wo := (fun v => WQ cI h0 h1 h2 h3 h4 h5 v)) S hr hlk u29 hP hS hw dX6_does_198
-- X6_interruptStep
def wX6_interruptStep (a1 : Int32) (u : SQ) (P : SQ → Prop) : Prop := (wX6_interrupt a1 u (fun u1 => (P (qs_interrupted (qs_gave (qs_halted (qs_steps u1 ((q_steps u1) + (1 : Int32))) (0 : Int32)) (0 : Int32)) (1 : Int32)))))
set_option maxHeartbeats 4000000 in
set_option maxRecDepth 100000 in
theorem kcX6_interruptStep (l : Launch) (D : va_G) (cB cI : ClassId) (h0 h1 h2 h3 h4 h5 : Nat) (sz : Nat) (a1 : Int32) (u : SQ) (P : SQ → Prop) (hw : wX6_interruptStep a1 u P) : Met l yX6_interruptStep wsX6_interruptStep ({ frames := 4, cells := 0, slots := 0, locals := 88 } : Room) (va_Pc [.ref h0, .int a1] (Pcw D (tyA cB cI) (WQ cI h0 h1 h2 h3 h4 h5 u) sz Tru)) (va_Qv P (fun u t => va_P D vwCl (WQ cI h0 h1 h2 h3 h4 h5 u) t.heap) (va_A (WQ cI h0 h1 h2 h3 h4 h5 u) sz)) 0 0 (va_A (WQ cI h0 h1 h2 h3 h4 h5 u) sz) := by
  refine en_ (cc := cX6_interruptStep) (maxL := 2) (ret := none) (own := RX6) (lv := [(0, .ref h0), (1, .int a1)]) (Qf := fun A => va_Qv P (fun u t => va_P D vwCl (WQ cI h0 h1 h2 h3 h4 h5 u) t.heap) A) (by decide) rfl rfl (Nat.le_of_ble_eq_true rfl) rfl ?_
  intro p e s m below meth c A ls S hr hlk hname hsz hP hK hD hA hSub hS hE hl
  have hx := S.1
  have hb := S.2.1
  have hown := S.2.2.2.1
  have hts := S.2.2.2.2
  have i_X6 : ∀ w ∈ u_ws RX6 TX6 29, w ∈ wsX6_interruptStep := by decide +kernel
  have f_209 := hts (.fieldLink RX6 209 "MachineCoreModel" "gave" "Z") (by decide +kernel)
  have f_255 := hts (.fieldLink RX6 255 "MachineCoreModel" "halted" "Z") (by decide +kernel)
  have f_264 := hts (.fieldLink RX6 264 "MachineCoreModel" "interrupted" "Z") (by decide +kernel)
  have f_297 := hts (.fieldLink RX6 297 "MachineCoreModel" "steps" "I") (by decide +kernel)
  unfold wX6_interruptStep at hw
  obtain ⟨H, eH⟩ : ∃ H, H = s.heap := ⟨_, rfl⟩
  obtain ⟨locs, eL⟩ : ∃ locs : List Loc, locs = [] := ⟨_, rfl⟩
  replace hP : va_P D vwCl (WQ cI h0 h1 h2 h3 h4 h5 u) H := by rw [eH]; exact hP
  replace hS : va_S A s.heap H locs := by rw [eH, eL]; exact hS
  suffices hgo : W p l e ({ frames := 4, cells := 0, slots := 0, locals := 88 } : Room) s m ([.ref h0, .int a1] : List Value).toArray below meth c H locs 0 0 (MQ below (va_Qv P (fun u t => va_P D vwCl (WQ cI h0 h1 h2 h3 h4 h5 u) t.heap) A) ([.ref h0, .int a1] : List Value).toArray s 0 0 A) (F0 m 0 ls []) by rw [eH, eL] at hgo; exact hgo
  clear eH eL
  refine lv_aload_n hx hb dX6_interruptStep_0 rfl (lv_at hl 0 rfl) ?_
  refine lv_iload_n hx hb dX6_interruptStep_1 rfl (lv_at hl 1 rfl) ?_
  refine cl_Vv (As := [.int a1]) (rest := []) (st := [.int a1, .ref h0]) S hK hA hP hD hS (fr_Q u) (kcX6_interrupt l D cB cI h0 h1 h2 h3 h4 h5 H.size a1 u _ hw) (cwV 1 hts gX6_interruptStep_X6_interrupt rfl rfl rfl (by decide +kernel) ⟨Nat.le_of_ble_eq_true rfl, Nat.le_of_ble_eq_true rfl⟩) tru_h tru_b 0 rfl rfl rfl rfl rfl hl.1 (Nat.le_of_ble_eq_true rfl) dX6_interruptStep_2 ⟨Nat.zero_le _, Nat.zero_le _⟩ (fun u1 H locs hP hD hS hw => ?_)
  replace hP : va_P D vwCl (WQ cI h0 h1 h2 h3 h4 h5 u1) H := hP
  replace hD : va_D A (WQ cI h0 h1 h2 h3 h4 h5 u1) := hD
  refine lv_aload_n hx hb dX6_interruptStep_5 rfl (lv_at hl 0 rfl) ?_
  refine lv_iconst (v := (0 : Int32)) hx hb dX6_interruptStep_6 (by decide) ?_
  refine va_put (D := D) (ci := 6) (v := .int (0 : Int32)) (ty := .boolean) (C := RX6) (T := TX6) (N := 29) hx hb hts i_X6 tyX6 tyX6_ok nmX6 hown hK hP hD hS 0 rfl rfl 13 (by decide) f_255 (fun _ h9 => h9) rfl (by decide +kernel) rfl rfl (Nat.le_of_ble_eq_true rfl) dX6_interruptStep_7 (fun H locs hP hD hS => ?_)
  replace hP : va_P D vwCl (WQ cI h0 h1 h2 h3 h4 h5 (qs_halted u1 (0 : Int32))) H := hP
  replace hD : va_D A (WQ cI h0 h1 h2 h3 h4 h5 (qs_halted u1 (0 : Int32))) := hD
  refine lv_aload_n hx hb dX6_interruptStep_10 rfl (lv_at hl 0 rfl) ?_
  refine lv_iconst (v := (0 : Int32)) hx hb dX6_interruptStep_11 (by decide) ?_
  refine va_put (D := D) (ci := 6) (v := .int (0 : Int32)) (ty := .boolean) (C := RX6) (T := TX6) (N := 29) hx hb hts i_X6 tyX6 tyX6_ok nmX6 hown hK hP hD hS 0 rfl rfl 15 (by decide) f_209 (fun _ h9 => h9) rfl (by decide +kernel) rfl rfl (Nat.le_of_ble_eq_true rfl) dX6_interruptStep_12 (fun H locs hP hD hS => ?_)
  replace hP : va_P D vwCl (WQ cI h0 h1 h2 h3 h4 h5 (qs_gave (qs_halted u1 (0 : Int32)) (0 : Int32))) H := hP
  replace hD : va_D A (WQ cI h0 h1 h2 h3 h4 h5 (qs_gave (qs_halted u1 (0 : Int32)) (0 : Int32))) := hD
  refine lv_aload_n hx hb dX6_interruptStep_15 rfl (lv_at hl 0 rfl) ?_
  refine lv_iconst (v := (1 : Int32)) hx hb dX6_interruptStep_16 (by decide) ?_
  refine va_put (D := D) (ci := 6) (v := .int (1 : Int32)) (ty := .boolean) (C := RX6) (T := TX6) (N := 29) hx hb hts i_X6 tyX6 tyX6_ok nmX6 hown hK hP hD hS 0 rfl rfl 16 (by decide) f_264 (fun _ h9 => h9) rfl (by decide +kernel) rfl rfl (Nat.le_of_ble_eq_true rfl) dX6_interruptStep_17 (fun H locs hP hD hS => ?_)
  replace hP : va_P D vwCl (WQ cI h0 h1 h2 h3 h4 h5 (qs_interrupted (qs_gave (qs_halted u1 (0 : Int32)) (0 : Int32)) (1 : Int32))) H := hP
  replace hD : va_D A (WQ cI h0 h1 h2 h3 h4 h5 (qs_interrupted (qs_gave (qs_halted u1 (0 : Int32)) (0 : Int32)) (1 : Int32))) := hD
  refine lv_aload_n hx hb dX6_interruptStep_20 rfl (lv_at hl 0 rfl) ?_
  refine lv_dup hx hb dX6_interruptStep_21 rfl ?_
  refine va_get (D := D) (ci := 6) (v := .int (q_steps u1)) (C := RX6) (T := TX6) (N := 29) hx hb hts i_X6 hown hK hP 0 rfl rfl 11 (by decide) f_297 (fun _ h9 => h9) rfl dX6_interruptStep_22 ?_
  refine lv_iconst (v := (1 : Int32)) hx hb dX6_interruptStep_25 (by decide) ?_
  refine lv_iadd hx hb dX6_interruptStep_26 ?_
  refine va_put (D := D) (ci := 6) (v := .int ((q_steps u1) + (1 : Int32))) (ty := .int) (C := RX6) (T := TX6) (N := 29) hx hb hts i_X6 tyX6 tyX6_ok nmX6 hown hK hP hD hS 0 rfl rfl 11 (by decide) f_297 (fun _ h9 => h9) rfl (by decide +kernel) rfl rfl (Nat.le_of_ble_eq_true rfl) dX6_interruptStep_27 (fun H locs hP hD hS => ?_)
  replace hP : va_P D vwCl (WQ cI h0 h1 h2 h3 h4 h5 (qs_interrupted (qs_gave (qs_halted (qs_steps u1 ((q_steps u1) + (1 : Int32))) (0 : Int32)) (0 : Int32)) (1 : Int32))) H := hP
  replace hD : va_D A (WQ cI h0 h1 h2 h3 h4 h5 (qs_interrupted (qs_gave (qs_halted (qs_steps u1 ((q_steps u1) + (1 : Int32))) (0 : Int32)) (0 : Int32)) (1 : Int32))) := hD
  exact rt_v (wo := (fun v => WQ cI h0 h1 h2 h3 h4 h5 v)) S hr hlk (qs_interrupted (qs_gave (qs_halted (qs_steps u1 ((q_steps u1) + (1 : Int32))) (0 : Int32)) (0 : Int32)) (1 : Int32)) hP hS hw dX6_interruptStep_30
-- X6_step
def wX6_step_b91  (P : Int32 → SQ → Prop)  (u : SQ) : Prop := (((q_halted u) = (0 : Int32) → (wX6_decode  u (fun r19 u18 => ((r19 = (0 : Int32) → (P (2 : Int32) u18)) ∧ (¬ r19 = (0 : Int32) → (wX6_has (256 : Int32) u18 (fun r22 u21 => (zB r22 ∧ (wX6_does  (qs_trapped u21 r22) (fun u23 => (P (0 : Int32) (qs_steps u23 ((q_steps u23) + (1 : Int32)))))))))))))) ∧ (¬ (q_halted u) = (0 : Int32) → (P (1 : Int32) u)))
def wX6_step_b39  (P : Int32 → SQ → Prop)  (u : SQ) : Prop := (((q_line u) < (0 : Int32) → (wX6_step_b91  P u)) ∧ (¬ (q_line u) < (0 : Int32) → (wX6_has (512 : Int32) u (fun r10 u9 => ((r10 = (0 : Int32) → (wX6_step_b91  P u9)) ∧ (¬ r10 = (0 : Int32) → (((q_gave u9) = (0 : Int32) → (wX6_has (256 : Int32) (qs_line u9 (-1 : Int32)) (fun r14 u13 => (zB r14 ∧ (wX6_interruptStep (q_line u9) (qs_trapped u13 r14) (fun u15 => (P (0 : Int32) u15))))))) ∧ (¬ (q_gave u9) = (0 : Int32) → (wX6_step_b91  P u9)))))))))
def wX6_step  (u : SQ) (P : Int32 → SQ → Prop) : Prop := (((q_trapped u) = (0 : Int32) → (wX6_step_b39  P u)) ∧ (¬ (q_trapped u) = (0 : Int32) → (((q_gave u) = (0 : Int32) → (((q_interrupted u) = (0 : Int32) → (wX6_has (256 : Int32) u (fun r5 u4 => (zB r5 ∧ (wX6_interruptStep (1 : Int32) (qs_trapped u4 r5) (fun u6 => (P (0 : Int32) u6))))))) ∧ (¬ (q_interrupted u) = (0 : Int32) → (wX6_step_b39  P u)))) ∧ (¬ (q_gave u) = (0 : Int32) → (wX6_step_b39  P u)))))
set_option maxHeartbeats 4000000 in
set_option maxRecDepth 100000 in
theorem kcX6_step (l : Launch) (D : va_G) (cB cI : ClassId) (h0 h1 h2 h3 h4 h5 : Nat) (sz : Nat)  (u : SQ) (P : Int32 → SQ → Prop) (hw : wX6_step  u P) : Met l yX6_step wsX6_step ({ frames := 8, cells := 0, slots := 0, locals := 190 } : Room) (va_Pc [.ref h0] (Pcw D (tyA cB cI) (WQ cI h0 h1 h2 h3 h4 h5 u) sz Tru)) (va_Qi P (fun u t => va_P D vwCl (WQ cI h0 h1 h2 h3 h4 h5 u) t.heap) (va_A (WQ cI h0 h1 h2 h3 h4 h5 u) sz)) 0 0 (va_A (WQ cI h0 h1 h2 h3 h4 h5 u) sz) := by
  refine en_ (cc := cX6_step) (maxL := 2) (ret := (some .int)) (own := RX6) (lv := [(0, .ref h0)]) (Qf := fun A => va_Qi P (fun u t => va_P D vwCl (WQ cI h0 h1 h2 h3 h4 h5 u) t.heap) A) (by decide) rfl rfl (Nat.le_of_ble_eq_true rfl) rfl ?_
  intro p e s m below meth c A ls S hr hlk hname hsz hP hK hD hA hSub hS hE hl
  have hx := S.1
  have hb := S.2.1
  have hown := S.2.2.2.1
  have hts := S.2.2.2.2
  have i_X6 : ∀ w ∈ u_ws RX6 TX6 29, w ∈ wsX6_step := by decide +kernel
  have f_26 := hts (.fieldLink RX6 26 "MachineCoreModel" "line" "I") (by decide +kernel)
  have f_209 := hts (.fieldLink RX6 209 "MachineCoreModel" "gave" "Z") (by decide +kernel)
  have f_255 := hts (.fieldLink RX6 255 "MachineCoreModel" "halted" "Z") (by decide +kernel)
  have f_264 := hts (.fieldLink RX6 264 "MachineCoreModel" "interrupted" "Z") (by decide +kernel)
  have f_297 := hts (.fieldLink RX6 297 "MachineCoreModel" "steps" "I") (by decide +kernel)
  have f_300 := hts (.fieldLink RX6 300 "MachineCoreModel" "trapped" "Z") (by decide +kernel)
  have b91 : ∀  (u : SQ) (H : Heap) (locs : List Loc) (ls : Array Slot), va_P D vwCl (WQ cI h0 h1 h2 h3 h4 h5 u) H → va_D A (WQ cI h0 h1 h2 h3 h4 h5 u) → va_S A s.heap H locs → lv_has ls 2 [(0, .ref h0)] → wX6_step_b91  P u → W p l e ({ frames := 8, cells := 0, slots := 0, locals := 190 } : Room) s m ([.ref h0] : List Value).toArray below meth c H locs 0 0 (MQ below (va_Qi P (fun u t => va_P D vwCl (WQ cI h0 h1 h2 h3 h4 h5 u) t.heap) A) ([.ref h0] : List Value).toArray s 0 0 A) (F0 m 91 ls []) := by
    intro u H locs ls hP hD hS hl hw
    unfold wX6_step_b91 at hw
    refine lv_aload_n hx hb dX6_step_91 rfl (lv_at hl 0 rfl) ?_
    refine va_get (D := D) (ci := 6) (v := .int (q_halted u)) (C := RX6) (T := TX6) (N := 29) hx hb hts i_X6 hown hK hP 0 rfl rfl 13 (by decide) f_255 (fun _ h9 => h9) rfl dX6_step_92 ?_
    refine lv_if_eq (tgt := 100) hx hb dX6_step_95 (by decide) (fun c17 => ?_) (fun c17 => ?_)
    · replace hw := hw.1 c17
      refine lv_aload_n hx hb dX6_step_100 rfl (lv_at hl 0 rfl) ?_
      refine cl_Vi (As := []) (rest := []) (st := [.ref h0]) S hK hA hP hD hS (fr_Q u) (kcX6_decode l D cB cI h0 h1 h2 h3 h4 h5 H.size  u _ hw) (cwV 0 hts gX6_step_X6_decode rfl rfl rfl (by decide +kernel) ⟨Nat.le_of_ble_eq_true rfl, Nat.le_of_ble_eq_true rfl⟩) tru_h tru_b 0 rfl rfl rfl rfl rfl hl.1 (Nat.le_of_ble_eq_true rfl) dX6_step_101 ⟨Nat.zero_le _, Nat.zero_le _⟩ (fun r19 u18 H locs hP hD hS hw => ?_)
      replace hP : va_P D vwCl (WQ cI h0 h1 h2 h3 h4 h5 u18) H := hP
      replace hD : va_D A (WQ cI h0 h1 h2 h3 h4 h5 u18) := hD
      refine lv_if_ne (tgt := 109) hx hb dX6_step_104 (by decide) (fun c20 => ?_) (fun c20 => ?_)
      · replace hw := hw.2 c20
        refine lv_aload_n hx hb dX6_step_109 rfl (lv_at hl 0 rfl) ?_
        refine lv_aload_n hx hb dX6_step_110 rfl (lv_at hl 0 rfl) ?_
        refine lv_sipush (v := (256 : Int32)) hx hb dX6_step_111 (by decide) ?_
        refine cl_Vi (As := [.int (256 : Int32)]) (rest := [.ref h0]) (st := [.int (256 : Int32), .ref h0, .ref h0]) S hK hA hP hD hS (fr_Q u18) (kcX6_has l D cB cI h0 h1 h2 h3 h4 h5 H.size (256 : Int32) u18 _ hw) (cwV 1 hts gX6_step_X6_has rfl rfl rfl (by decide +kernel) ⟨Nat.le_of_ble_eq_true rfl, Nat.le_of_ble_eq_true rfl⟩) tru_h tru_b 0 rfl rfl rfl rfl rfl hl.1 (Nat.le_of_ble_eq_true rfl) dX6_step_114 ⟨Nat.zero_le _, Nat.zero_le _⟩ (fun r22 u21 H locs hP hD hS hw => ?_)
        replace hP : va_P D vwCl (WQ cI h0 h1 h2 h3 h4 h5 u21) H := hP
        replace hD : va_D A (WQ cI h0 h1 h2 h3 h4 h5 u21) := hD
        refine va_put (D := D) (ci := 6) (v := .int r22) (ty := .boolean) (C := RX6) (T := TX6) (N := 29) hx hb hts i_X6 tyX6 tyX6_ok nmX6 hown hK hP hD hS 0 rfl rfl 14 (by decide) f_300 (fun _ h9 => h9) rfl (by decide +kernel) (zB_n hw.1) (zB_f hw.1) (Nat.le_of_ble_eq_true rfl) dX6_step_117 (fun H locs hP hD hS => ?_)
        replace hP : va_P D vwCl (WQ cI h0 h1 h2 h3 h4 h5 (qs_trapped u21 r22)) H := hP
        replace hD : va_D A (WQ cI h0 h1 h2 h3 h4 h5 (qs_trapped u21 r22)) := hD
        replace hw := hw.2
        refine lv_aload_n hx hb dX6_step_120 rfl (lv_at hl 0 rfl) ?_
        refine cl_Vv (As := []) (rest := []) (st := [.ref h0]) S hK hA hP hD hS (fr_Q (qs_trapped u21 r22)) (kcX6_does l D cB cI h0 h1 h2 h3 h4 h5 H.size  (qs_trapped u21 r22) _ hw) (cwV 0 hts gX6_step_X6_does rfl rfl rfl (by decide +kernel) ⟨Nat.le_of_ble_eq_true rfl, Nat.le_of_ble_eq_true rfl⟩) tru_h tru_b 0 rfl rfl rfl rfl rfl hl.1 (Nat.le_of_ble_eq_true rfl) dX6_step_121 ⟨Nat.zero_le _, Nat.zero_le _⟩ (fun u23 H locs hP hD hS hw => ?_)
        replace hP : va_P D vwCl (WQ cI h0 h1 h2 h3 h4 h5 u23) H := hP
        replace hD : va_D A (WQ cI h0 h1 h2 h3 h4 h5 u23) := hD
        refine lv_aload_n hx hb dX6_step_124 rfl (lv_at hl 0 rfl) ?_
        refine lv_dup hx hb dX6_step_125 rfl ?_
        refine va_get (D := D) (ci := 6) (v := .int (q_steps u23)) (C := RX6) (T := TX6) (N := 29) hx hb hts i_X6 hown hK hP 0 rfl rfl 11 (by decide) f_297 (fun _ h9 => h9) rfl dX6_step_126 ?_
        refine lv_iconst (v := (1 : Int32)) hx hb dX6_step_129 (by decide) ?_
        refine lv_iadd hx hb dX6_step_130 ?_
        refine va_put (D := D) (ci := 6) (v := .int ((q_steps u23) + (1 : Int32))) (ty := .int) (C := RX6) (T := TX6) (N := 29) hx hb hts i_X6 tyX6 tyX6_ok nmX6 hown hK hP hD hS 0 rfl rfl 11 (by decide) f_297 (fun _ h9 => h9) rfl (by decide +kernel) rfl rfl (Nat.le_of_ble_eq_true rfl) dX6_step_131 (fun H locs hP hD hS => ?_)
        replace hP : va_P D vwCl (WQ cI h0 h1 h2 h3 h4 h5 (qs_steps u23 ((q_steps u23) + (1 : Int32)))) H := hP
        replace hD : va_D A (WQ cI h0 h1 h2 h3 h4 h5 (qs_steps u23 ((q_steps u23) + (1 : Int32)))) := hD
        refine lv_iconst (v := (0 : Int32)) hx hb dX6_step_134 (by decide) ?_
        exact rt_i (wo := (fun v => WQ cI h0 h1 h2 h3 h4 h5 v)) S hr hlk (qs_steps u23 ((q_steps u23) + (1 : Int32))) hP hS hw dX6_step_135
      · replace hw := hw.1 c20
        refine lv_iconst (v := (2 : Int32)) hx hb dX6_step_107 (by decide) ?_
        exact rt_i (wo := (fun v => WQ cI h0 h1 h2 h3 h4 h5 v)) S hr hlk u18 hP hS hw dX6_step_108
    · replace hw := hw.2 c17
      refine lv_iconst (v := (1 : Int32)) hx hb dX6_step_98 (by decide) ?_
      exact rt_i (wo := (fun v => WQ cI h0 h1 h2 h3 h4 h5 v)) S hr hlk u hP hS hw dX6_step_99
  have b39 : ∀  (u : SQ) (H : Heap) (locs : List Loc) (ls : Array Slot), va_P D vwCl (WQ cI h0 h1 h2 h3 h4 h5 u) H → va_D A (WQ cI h0 h1 h2 h3 h4 h5 u) → va_S A s.heap H locs → lv_has ls 2 [(0, .ref h0)] → wX6_step_b39  P u → W p l e ({ frames := 8, cells := 0, slots := 0, locals := 190 } : Room) s m ([.ref h0] : List Value).toArray below meth c H locs 0 0 (MQ below (va_Qi P (fun u t => va_P D vwCl (WQ cI h0 h1 h2 h3 h4 h5 u) t.heap) A) ([.ref h0] : List Value).toArray s 0 0 A) (F0 m 39 ls []) := by
    intro u H locs ls hP hD hS hl hw
    unfold wX6_step_b39 at hw
    refine lv_aload_n hx hb dX6_step_39 rfl (lv_at hl 0 rfl) ?_
    refine va_get (D := D) (ci := 6) (v := .int (q_line u)) (C := RX6) (T := TX6) (N := 29) hx hb hts i_X6 hown hK hP 0 rfl rfl 10 (by decide) f_26 (fun _ h9 => h9) rfl dX6_step_40 ?_
    refine lv_if_lt (tgt := 91) hx hb dX6_step_43 (by decide) (fun c8 => ?_) (fun c8 => ?_)
    · replace hw := hw.1 c8
      exact b91 u H locs ls hP hD hS (lv_sub hl [0] rfl) hw
    · replace hw := hw.2 c8
      refine lv_aload_n hx hb dX6_step_46 rfl (lv_at hl 0 rfl) ?_
      refine lv_sipush (v := (512 : Int32)) hx hb dX6_step_47 (by decide) ?_
      refine cl_Vi (As := [.int (512 : Int32)]) (rest := []) (st := [.int (512 : Int32), .ref h0]) S hK hA hP hD hS (fr_Q u) (kcX6_has l D cB cI h0 h1 h2 h3 h4 h5 H.size (512 : Int32) u _ hw) (cwV 1 hts gX6_step_X6_has rfl rfl rfl (by decide +kernel) ⟨Nat.le_of_ble_eq_true rfl, Nat.le_of_ble_eq_true rfl⟩) tru_h tru_b 0 rfl rfl rfl rfl rfl hl.1 (Nat.le_of_ble_eq_true rfl) dX6_step_50 ⟨Nat.zero_le _, Nat.zero_le _⟩ (fun r10 u9 H locs hP hD hS hw => ?_)
      replace hP : va_P D vwCl (WQ cI h0 h1 h2 h3 h4 h5 u9) H := hP
      replace hD : va_D A (WQ cI h0 h1 h2 h3 h4 h5 u9) := hD
      refine lv_if_eq (tgt := 91) hx hb dX6_step_53 (by decide) (fun c11 => ?_) (fun c11 => ?_)
      · replace hw := hw.1 c11
        exact b91 u9 H locs ls hP hD hS (lv_sub hl [0] rfl) hw
      · replace hw := hw.2 c11
        refine lv_aload_n hx hb dX6_step_56 rfl (lv_at hl 0 rfl) ?_
        refine va_get (D := D) (ci := 6) (v := .int (q_gave u9)) (C := RX6) (T := TX6) (N := 29) hx hb hts i_X6 hown hK hP 0 rfl rfl 15 (by decide) f_209 (fun _ h9 => h9) rfl dX6_step_57 ?_
        refine lv_if_ne (tgt := 91) hx hb dX6_step_60 (by decide) (fun c12 => ?_) (fun c12 => ?_)
        · replace hw := hw.2 c12
          exact b91 u9 H locs ls hP hD hS (lv_sub hl [0] rfl) hw
        · replace hw := hw.1 c12
          refine lv_aload_n hx hb dX6_step_63 rfl (lv_at hl 0 rfl) ?_
          refine va_get (D := D) (ci := 6) (v := .int (q_line u9)) (C := RX6) (T := TX6) (N := 29) hx hb hts i_X6 hown hK hP 0 rfl rfl 10 (by decide) f_26 (fun _ h9 => h9) rfl dX6_step_64 ?_
          refine lv_istore_n (lv' := [(1, .int (q_line u9)), (0, .ref h0)]) hx hb dX6_step_67 rfl hl (by decide) rfl (fun ls hl => ?_)
          refine lv_aload_n hx hb dX6_step_68 rfl (lv_at hl 1 rfl) ?_
          refine lv_iconst (v := (-1 : Int32)) hx hb dX6_step_69 (by decide) ?_
          refine va_put (D := D) (ci := 6) (v := .int (-1 : Int32)) (ty := .int) (C := RX6) (T := TX6) (N := 29) hx hb hts i_X6 tyX6 tyX6_ok nmX6 hown hK hP hD hS 0 rfl rfl 10 (by decide) f_26 (fun _ h9 => h9) rfl (by decide +kernel) rfl rfl (Nat.le_of_ble_eq_true rfl) dX6_step_70 (fun H locs hP hD hS => ?_)
          replace hP : va_P D vwCl (WQ cI h0 h1 h2 h3 h4 h5 (qs_line u9 (-1 : Int32))) H := hP
          replace hD : va_D A (WQ cI h0 h1 h2 h3 h4 h5 (qs_line u9 (-1 : Int32))) := hD
          refine lv_aload_n hx hb dX6_step_73 rfl (lv_at hl 1 rfl) ?_
          refine lv_aload_n hx hb dX6_step_74 rfl (lv_at hl 1 rfl) ?_
          refine lv_sipush (v := (256 : Int32)) hx hb dX6_step_75 (by decide) ?_
          refine cl_Vi (As := [.int (256 : Int32)]) (rest := [.ref h0]) (st := [.int (256 : Int32), .ref h0, .ref h0]) S hK hA hP hD hS (fr_Q (qs_line u9 (-1 : Int32))) (kcX6_has l D cB cI h0 h1 h2 h3 h4 h5 H.size (256 : Int32) (qs_line u9 (-1 : Int32)) _ hw) (cwV 1 hts gX6_step_X6_has rfl rfl rfl (by decide +kernel) ⟨Nat.le_of_ble_eq_true rfl, Nat.le_of_ble_eq_true rfl⟩) tru_h tru_b 0 rfl rfl rfl rfl rfl hl.1 (Nat.le_of_ble_eq_true rfl) dX6_step_78 ⟨Nat.zero_le _, Nat.zero_le _⟩ (fun r14 u13 H locs hP hD hS hw => ?_)
          replace hP : va_P D vwCl (WQ cI h0 h1 h2 h3 h4 h5 u13) H := hP
          replace hD : va_D A (WQ cI h0 h1 h2 h3 h4 h5 u13) := hD
          refine va_put (D := D) (ci := 6) (v := .int r14) (ty := .boolean) (C := RX6) (T := TX6) (N := 29) hx hb hts i_X6 tyX6 tyX6_ok nmX6 hown hK hP hD hS 0 rfl rfl 14 (by decide) f_300 (fun _ h9 => h9) rfl (by decide +kernel) (zB_n hw.1) (zB_f hw.1) (Nat.le_of_ble_eq_true rfl) dX6_step_81 (fun H locs hP hD hS => ?_)
          replace hP : va_P D vwCl (WQ cI h0 h1 h2 h3 h4 h5 (qs_trapped u13 r14)) H := hP
          replace hD : va_D A (WQ cI h0 h1 h2 h3 h4 h5 (qs_trapped u13 r14)) := hD
          replace hw := hw.2
          refine lv_aload_n hx hb dX6_step_84 rfl (lv_at hl 1 rfl) ?_
          refine lv_iload_n hx hb dX6_step_85 rfl (lv_at hl 0 rfl) ?_
          refine cl_Vv (As := [.int (q_line u9)]) (rest := []) (st := [.int (q_line u9), .ref h0]) S hK hA hP hD hS (fr_Q (qs_trapped u13 r14)) (kcX6_interruptStep l D cB cI h0 h1 h2 h3 h4 h5 H.size (q_line u9) (qs_trapped u13 r14) _ hw) (cwV 1 hts gX6_step_X6_interruptStep rfl rfl rfl (by decide +kernel) ⟨Nat.le_of_ble_eq_true rfl, Nat.le_of_ble_eq_true rfl⟩) tru_h tru_b 0 rfl rfl rfl rfl rfl hl.1 (Nat.le_of_ble_eq_true rfl) dX6_step_86 ⟨Nat.zero_le _, Nat.zero_le _⟩ (fun u15 H locs hP hD hS hw => ?_)
          replace hP : va_P D vwCl (WQ cI h0 h1 h2 h3 h4 h5 u15) H := hP
          replace hD : va_D A (WQ cI h0 h1 h2 h3 h4 h5 u15) := hD
          refine lv_iconst (v := (0 : Int32)) hx hb dX6_step_89 (by decide) ?_
          exact rt_i (wo := (fun v => WQ cI h0 h1 h2 h3 h4 h5 v)) S hr hlk u15 hP hS hw dX6_step_90
  unfold wX6_step at hw
  obtain ⟨H, eH⟩ : ∃ H, H = s.heap := ⟨_, rfl⟩
  obtain ⟨locs, eL⟩ : ∃ locs : List Loc, locs = [] := ⟨_, rfl⟩
  replace hP : va_P D vwCl (WQ cI h0 h1 h2 h3 h4 h5 u) H := by rw [eH]; exact hP
  replace hS : va_S A s.heap H locs := by rw [eH, eL]; exact hS
  suffices hgo : W p l e ({ frames := 8, cells := 0, slots := 0, locals := 190 } : Room) s m ([.ref h0] : List Value).toArray below meth c H locs 0 0 (MQ below (va_Qi P (fun u t => va_P D vwCl (WQ cI h0 h1 h2 h3 h4 h5 u) t.heap) A) ([.ref h0] : List Value).toArray s 0 0 A) (F0 m 0 ls []) by rw [eH, eL] at hgo; exact hgo
  clear eH eL
  refine lv_aload_n hx hb dX6_step_0 rfl (lv_at hl 0 rfl) ?_
  refine va_get (D := D) (ci := 6) (v := .int (q_trapped u)) (C := RX6) (T := TX6) (N := 29) hx hb hts i_X6 hown hK hP 0 rfl rfl 14 (by decide) f_300 (fun _ h9 => h9) rfl dX6_step_1 ?_
  refine lv_if_eq (tgt := 39) hx hb dX6_step_4 (by decide) (fun c1 => ?_) (fun c1 => ?_)
  · replace hw := hw.1 c1
    exact b39 u H locs ls hP hD hS (lv_sub hl [0] rfl) hw
  · replace hw := hw.2 c1
    refine lv_aload_n hx hb dX6_step_7 rfl (lv_at hl 0 rfl) ?_
    refine va_get (D := D) (ci := 6) (v := .int (q_gave u)) (C := RX6) (T := TX6) (N := 29) hx hb hts i_X6 hown hK hP 0 rfl rfl 15 (by decide) f_209 (fun _ h9 => h9) rfl dX6_step_8 ?_
    refine lv_if_ne (tgt := 39) hx hb dX6_step_11 (by decide) (fun c2 => ?_) (fun c2 => ?_)
    · replace hw := hw.2 c2
      exact b39 u H locs ls hP hD hS (lv_sub hl [0] rfl) hw
    · replace hw := hw.1 c2
      refine lv_aload_n hx hb dX6_step_14 rfl (lv_at hl 0 rfl) ?_
      refine va_get (D := D) (ci := 6) (v := .int (q_interrupted u)) (C := RX6) (T := TX6) (N := 29) hx hb hts i_X6 hown hK hP 0 rfl rfl 16 (by decide) f_264 (fun _ h9 => h9) rfl dX6_step_15 ?_
      refine lv_if_ne (tgt := 39) hx hb dX6_step_18 (by decide) (fun c3 => ?_) (fun c3 => ?_)
      · replace hw := hw.2 c3
        exact b39 u H locs ls hP hD hS (lv_sub hl [0] rfl) hw
      · replace hw := hw.1 c3
        refine lv_aload_n hx hb dX6_step_21 rfl (lv_at hl 0 rfl) ?_
        refine lv_aload_n hx hb dX6_step_22 rfl (lv_at hl 0 rfl) ?_
        refine lv_sipush (v := (256 : Int32)) hx hb dX6_step_23 (by decide) ?_
        refine cl_Vi (As := [.int (256 : Int32)]) (rest := [.ref h0]) (st := [.int (256 : Int32), .ref h0, .ref h0]) S hK hA hP hD hS (fr_Q u) (kcX6_has l D cB cI h0 h1 h2 h3 h4 h5 H.size (256 : Int32) u _ hw) (cwV 1 hts gX6_step_X6_has rfl rfl rfl (by decide +kernel) ⟨Nat.le_of_ble_eq_true rfl, Nat.le_of_ble_eq_true rfl⟩) tru_h tru_b 0 rfl rfl rfl rfl rfl hl.1 (Nat.le_of_ble_eq_true rfl) dX6_step_26 ⟨Nat.zero_le _, Nat.zero_le _⟩ (fun r5 u4 H locs hP hD hS hw => ?_)
        replace hP : va_P D vwCl (WQ cI h0 h1 h2 h3 h4 h5 u4) H := hP
        replace hD : va_D A (WQ cI h0 h1 h2 h3 h4 h5 u4) := hD
        refine va_put (D := D) (ci := 6) (v := .int r5) (ty := .boolean) (C := RX6) (T := TX6) (N := 29) hx hb hts i_X6 tyX6 tyX6_ok nmX6 hown hK hP hD hS 0 rfl rfl 14 (by decide) f_300 (fun _ h9 => h9) rfl (by decide +kernel) (zB_n hw.1) (zB_f hw.1) (Nat.le_of_ble_eq_true rfl) dX6_step_29 (fun H locs hP hD hS => ?_)
        replace hP : va_P D vwCl (WQ cI h0 h1 h2 h3 h4 h5 (qs_trapped u4 r5)) H := hP
        replace hD : va_D A (WQ cI h0 h1 h2 h3 h4 h5 (qs_trapped u4 r5)) := hD
        replace hw := hw.2
        refine lv_aload_n hx hb dX6_step_32 rfl (lv_at hl 0 rfl) ?_
        refine lv_iconst (v := (1 : Int32)) hx hb dX6_step_33 (by decide) ?_
        refine cl_Vv (As := [.int (1 : Int32)]) (rest := []) (st := [.int (1 : Int32), .ref h0]) S hK hA hP hD hS (fr_Q (qs_trapped u4 r5)) (kcX6_interruptStep l D cB cI h0 h1 h2 h3 h4 h5 H.size (1 : Int32) (qs_trapped u4 r5) _ hw) (cwV 1 hts gX6_step_X6_interruptStep rfl rfl rfl (by decide +kernel) ⟨Nat.le_of_ble_eq_true rfl, Nat.le_of_ble_eq_true rfl⟩) tru_h tru_b 0 rfl rfl rfl rfl rfl hl.1 (Nat.le_of_ble_eq_true rfl) dX6_step_34 ⟨Nat.zero_le _, Nat.zero_le _⟩ (fun u6 H locs hP hD hS hw => ?_)
        replace hP : va_P D vwCl (WQ cI h0 h1 h2 h3 h4 h5 u6) H := hP
        replace hD : va_D A (WQ cI h0 h1 h2 h3 h4 h5 u6) := hD
        refine lv_iconst (v := (0 : Int32)) hx hb dX6_step_37 (by decide) ?_
        exact rt_i (wo := (fun v => WQ cI h0 h1 h2 h3 h4 h5 v)) S hr hlk u6 hP hS hw dX6_step_38
-- X6_run
def wX6_run_b24 (a1 : Int32) (P : Int32 → SQ → Prop) : Nat → Int32 → Int32 → SQ → Prop
  | 0, _, _, _ => False
  | n + 1, x2, x3, u => ((a1 ≤ x3 → (P x2 u)) ∧ (¬ a1 ≤ x3 → (((q_thrown u) = (0 : Int32) → ((x2 = (0 : Int32) → (wX6_step  u (fun r7 u6 => (wX6_run_b24 a1 P n r7 (x3 + (1 : Int32)) u6)))) ∧ (¬ x2 = (0 : Int32) → (P x2 u)))) ∧ (¬ (q_thrown u) = (0 : Int32) → (P x2 u)))))
def wX6_run_b17 (a1 : Int32) (P : Int32 → SQ → Prop) (s1 : Int32) (u : SQ) : Prop := (∃ n, wX6_run_b24 a1 P n (0 : Int32) (0 : Int32) (qs_thrown u s1))
def wX6_run_b12 (a1 : Int32) (P : Int32 → SQ → Prop)  (u : SQ) : Prop := (wX6_run_b17 a1 P (1 : Int32) u)
def wX6_run (a1 : Int32) (u : SQ) (P : Int32 → SQ → Prop) : Prop := ((a1 < (0 : Int32) → (wX6_run_b12 a1 P u)) ∧ (¬ a1 < (0 : Int32) → ((a1 ≤ (500 : Int32) → (wX6_run_b17 a1 P (0 : Int32) u)) ∧ (¬ a1 ≤ (500 : Int32) → (wX6_run_b12 a1 P u)))))
set_option maxHeartbeats 4000000 in
set_option maxRecDepth 100000 in
theorem kcX6_run (l : Launch) (D : va_G) (cB cI : ClassId) (h0 h1 h2 h3 h4 h5 : Nat) (sz : Nat) (a1 : Int32) (u : SQ) (P : Int32 → SQ → Prop) (hw : wX6_run a1 u P) : Met l yX6_run wsX6_run ({ frames := 9, cells := 0, slots := 0, locals := 211 } : Room) (va_Pc [.ref h0, .int a1] (Pcw D (tyA cB cI) (WQ cI h0 h1 h2 h3 h4 h5 u) sz Tru)) (va_Qi P (fun u t => va_P D vwCl (WQ cI h0 h1 h2 h3 h4 h5 u) t.heap) (va_A (WQ cI h0 h1 h2 h3 h4 h5 u) sz)) 0 0 (va_A (WQ cI h0 h1 h2 h3 h4 h5 u) sz) := by
  refine en_ (cc := cX6_run) (maxL := 4) (ret := (some .int)) (own := RX6) (lv := [(0, .ref h0), (1, .int a1)]) (Qf := fun A => va_Qi P (fun u t => va_P D vwCl (WQ cI h0 h1 h2 h3 h4 h5 u) t.heap) A) (by decide) rfl rfl (Nat.le_of_ble_eq_true rfl) rfl ?_
  intro p e s m below meth c A ls S hr hlk hname hsz hP hK hD hA hSub hS hE hl
  have hx := S.1
  have hb := S.2.1
  have hown := S.2.2.2.1
  have hts := S.2.2.2.2
  have i_X6 : ∀ w ∈ u_ws RX6 TX6 29, w ∈ wsX6_run := by decide +kernel
  have f_30 := hts (.fieldLink RX6 30 "MachineCoreModel" "thrown" "I") (by decide +kernel)
  have b24 : ∀ (n : Nat) (x2 : Int32) (x3 : Int32) (u : SQ) (H : Heap) (locs : List Loc) (ls : Array Slot), va_P D vwCl (WQ cI h0 h1 h2 h3 h4 h5 u) H → va_D A (WQ cI h0 h1 h2 h3 h4 h5 u) → va_S A s.heap H locs → lv_has ls 4 [(0, .ref h0), (1, .int a1), (2, .int x2), (3, .int x3)] → wX6_run_b24 a1 P n x2 x3 u → W p l e ({ frames := 9, cells := 0, slots := 0, locals := 211 } : Room) s m ([.ref h0, .int a1] : List Value).toArray below meth c H locs 0 0 (MQ below (va_Qi P (fun u t => va_P D vwCl (WQ cI h0 h1 h2 h3 h4 h5 u) t.heap) A) ([.ref h0, .int a1] : List Value).toArray s 0 0 A) (F0 m 24 ls []) := by
    intro n
    induction n with
    | zero => intro x2 x3 u H locs ls hP hD hS hl hw; exact False.elim hw
    | succ n ih =>
      intro x2 x3 u H locs ls hP hD hS hl hw
      rw [wX6_run_b24] at hw
      refine lv_iload_n hx hb dX6_run_24 rfl (lv_at hl 3 rfl) ?_
      refine lv_iload_n hx hb dX6_run_25 rfl (lv_at hl 1 rfl) ?_
      refine lv_icmp_ge (tgt := 51) hx hb dX6_run_26 (by decide) (fun c3 => ?_) (fun c3 => ?_)
      · replace hw := hw.1 c3
        refine lv_iload_n hx hb dX6_run_51 rfl (lv_at hl 2 rfl) ?_
        exact rt_i (wo := (fun v => WQ cI h0 h1 h2 h3 h4 h5 v)) S hr hlk u hP hS hw dX6_run_52
      · replace hw := hw.2 c3
        refine lv_aload_n hx hb dX6_run_29 rfl (lv_at hl 0 rfl) ?_
        refine va_get (D := D) (ci := 6) (v := .int (q_thrown u)) (C := RX6) (T := TX6) (N := 29) hx hb hts i_X6 hown hK hP 0 rfl rfl 0 (by decide) f_30 (fun _ h9 => h9) rfl dX6_run_30 ?_
        refine lv_if_ne (tgt := 51) hx hb dX6_run_33 (by decide) (fun c4 => ?_) (fun c4 => ?_)
        · replace hw := hw.2 c4
          refine lv_iload_n hx hb dX6_run_51 rfl (lv_at hl 2 rfl) ?_
          exact rt_i (wo := (fun v => WQ cI h0 h1 h2 h3 h4 h5 v)) S hr hlk u hP hS hw dX6_run_52
        · replace hw := hw.1 c4
          refine lv_iload_n hx hb dX6_run_36 rfl (lv_at hl 2 rfl) ?_
          refine lv_if_ne (tgt := 51) hx hb dX6_run_37 (by decide) (fun c5 => ?_) (fun c5 => ?_)
          · replace hw := hw.2 c5
            refine lv_iload_n hx hb dX6_run_51 rfl (lv_at hl 2 rfl) ?_
            exact rt_i (wo := (fun v => WQ cI h0 h1 h2 h3 h4 h5 v)) S hr hlk u hP hS hw dX6_run_52
          · replace hw := hw.1 c5
            refine lv_aload_n hx hb dX6_run_40 rfl (lv_at hl 0 rfl) ?_
            refine cl_Vi (As := []) (rest := []) (st := [.ref h0]) S hK hA hP hD hS (fr_Q u) (kcX6_step l D cB cI h0 h1 h2 h3 h4 h5 H.size  u _ hw) (cwV 0 hts gX6_run_X6_step rfl rfl rfl (by decide +kernel) ⟨Nat.le_of_ble_eq_true rfl, Nat.le_of_ble_eq_true rfl⟩) tru_h tru_b 0 rfl rfl rfl rfl rfl hl.1 (Nat.le_of_ble_eq_true rfl) dX6_run_41 ⟨Nat.zero_le _, Nat.zero_le _⟩ (fun r7 u6 H locs hP hD hS hw => ?_)
            replace hP : va_P D vwCl (WQ cI h0 h1 h2 h3 h4 h5 u6) H := hP
            replace hD : va_D A (WQ cI h0 h1 h2 h3 h4 h5 u6) := hD
            refine lv_istore_n (lv' := [(2, .int r7), (0, .ref h0), (1, .int a1), (3, .int x3)]) hx hb dX6_run_44 rfl hl (by decide) rfl (fun ls hl => ?_)
            refine lv_iinc (v := (x3 + (1 : Int32))) (lv' := [(3, .int (x3 + (1 : Int32))), (2, .int r7), (0, .ref h0), (1, .int a1)]) hx hb dX6_run_45 hl (k := 3) rfl rfl (by decide) rfl (fun ls hl => ?_)
            refine lv_goto (tgt := 24) hx hb dX6_run_48 (by decide) ?_
            exact ih r7 (x3 + (1 : Int32)) u6 H locs ls hP hD hS (lv_sub hl [2, 3, 1, 0] rfl) hw
  have b17 : ∀ (s1 : Int32) (u : SQ) (H : Heap) (locs : List Loc) (ls : Array Slot), va_P D vwCl (WQ cI h0 h1 h2 h3 h4 h5 u) H → va_D A (WQ cI h0 h1 h2 h3 h4 h5 u) → va_S A s.heap H locs → lv_has ls 4 [(0, .ref h0), (1, .int a1)] → wX6_run_b17 a1 P s1 u → W p l e ({ frames := 9, cells := 0, slots := 0, locals := 211 } : Room) s m ([.ref h0, .int a1] : List Value).toArray below meth c H locs 0 0 (MQ below (va_Qi P (fun u t => va_P D vwCl (WQ cI h0 h1 h2 h3 h4 h5 u) t.heap) A) ([.ref h0, .int a1] : List Value).toArray s 0 0 A) (F0 m 17 ls [.int s1, .ref h0]) := by
    intro s1 u H locs ls hP hD hS hl hw
    unfold wX6_run_b17 at hw
    refine va_put (D := D) (ci := 6) (v := .int s1) (ty := .int) (C := RX6) (T := TX6) (N := 29) hx hb hts i_X6 tyX6 tyX6_ok nmX6 hown hK hP hD hS 0 rfl rfl 0 (by decide) f_30 (fun _ h9 => h9) rfl (by decide +kernel) rfl rfl (Nat.le_of_ble_eq_true rfl) dX6_run_17 (fun H locs hP hD hS => ?_)
    replace hP : va_P D vwCl (WQ cI h0 h1 h2 h3 h4 h5 (qs_thrown u s1)) H := hP
    replace hD : va_D A (WQ cI h0 h1 h2 h3 h4 h5 (qs_thrown u s1)) := hD
    refine lv_iconst (v := (0 : Int32)) hx hb dX6_run_20 (by decide) ?_
    refine lv_istore_n (lv' := [(2, .int (0 : Int32)), (0, .ref h0), (1, .int a1)]) hx hb dX6_run_21 rfl hl (by decide) rfl (fun ls hl => ?_)
    refine lv_iconst (v := (0 : Int32)) hx hb dX6_run_22 (by decide) ?_
    refine lv_istore_n (lv' := [(3, .int (0 : Int32)), (2, .int (0 : Int32)), (0, .ref h0), (1, .int a1)]) hx hb dX6_run_23 rfl hl (by decide) rfl (fun ls hl => ?_)
    obtain ⟨n, hw⟩ := hw
    exact b24 n (0 : Int32) (0 : Int32) (qs_thrown u s1) H locs ls hP hD hS (lv_sub hl [2, 3, 1, 0] rfl) hw
  have b12 : ∀  (u : SQ) (H : Heap) (locs : List Loc) (ls : Array Slot), va_P D vwCl (WQ cI h0 h1 h2 h3 h4 h5 u) H → va_D A (WQ cI h0 h1 h2 h3 h4 h5 u) → va_S A s.heap H locs → lv_has ls 4 [(0, .ref h0), (1, .int a1)] → wX6_run_b12 a1 P u → W p l e ({ frames := 9, cells := 0, slots := 0, locals := 211 } : Room) s m ([.ref h0, .int a1] : List Value).toArray below meth c H locs 0 0 (MQ below (va_Qi P (fun u t => va_P D vwCl (WQ cI h0 h1 h2 h3 h4 h5 u) t.heap) A) ([.ref h0, .int a1] : List Value).toArray s 0 0 A) (F0 m 12 ls [.ref h0]) := by
    intro u H locs ls hP hD hS hl hw
    unfold wX6_run_b12 at hw
    refine lv_iconst (v := (1 : Int32)) hx hb dX6_run_12 (by decide) ?_
    refine lv_goto (tgt := 17) hx hb dX6_run_13 (by decide) ?_
    exact b17 (1 : Int32) u H locs ls hP hD hS (lv_sub hl [0, 1] rfl) hw
  unfold wX6_run at hw
  obtain ⟨H, eH⟩ : ∃ H, H = s.heap := ⟨_, rfl⟩
  obtain ⟨locs, eL⟩ : ∃ locs : List Loc, locs = [] := ⟨_, rfl⟩
  replace hP : va_P D vwCl (WQ cI h0 h1 h2 h3 h4 h5 u) H := by rw [eH]; exact hP
  replace hS : va_S A s.heap H locs := by rw [eH, eL]; exact hS
  suffices hgo : W p l e ({ frames := 9, cells := 0, slots := 0, locals := 211 } : Room) s m ([.ref h0, .int a1] : List Value).toArray below meth c H locs 0 0 (MQ below (va_Qi P (fun u t => va_P D vwCl (WQ cI h0 h1 h2 h3 h4 h5 u) t.heap) A) ([.ref h0, .int a1] : List Value).toArray s 0 0 A) (F0 m 0 ls []) by rw [eH, eL] at hgo; exact hgo
  clear eH eL
  refine lv_aload_n hx hb dX6_run_0 rfl (lv_at hl 0 rfl) ?_
  refine lv_iload_n hx hb dX6_run_1 rfl (lv_at hl 1 rfl) ?_
  refine lv_if_lt (tgt := 12) hx hb dX6_run_2 (by decide) (fun c1 => ?_) (fun c1 => ?_)
  · replace hw := hw.1 c1
    exact b12 u H locs ls hP hD hS (lv_sub hl [0, 1] rfl) hw
  · replace hw := hw.2 c1
    refine lv_iload_n hx hb dX6_run_5 rfl (lv_at hl 1 rfl) ?_
    refine lv_sipush (v := (500 : Int32)) hx hb dX6_run_6 (by decide) ?_
    refine lv_icmp_le (tgt := 16) hx hb dX6_run_9 (by decide) (fun c2 => ?_) (fun c2 => ?_)
    · replace hw := hw.1 c2
      refine lv_iconst (v := (0 : Int32)) hx hb dX6_run_16 (by decide) ?_
      exact b17 (0 : Int32) u H locs ls hP hD hS (lv_sub hl [0, 1] rfl) hw
    · replace hw := hw.2 c2
      exact b12 u H locs ls hP hD hS (lv_sub hl [0, 1] rfl) hw
-- X6_set
def wX6_set_b16 (a1 : Int32) (a2 : Int32) (P : SQ → Prop) (s1 : Int32) (u : SQ) : Prop := ((s1 ≤ (0 : Int32) → (((8 : Int32) ≤ a1 → (((12 : Int32) ≤ a1 → ((a1 = (12 : Int32) → (P (qs_ip (qs_thrown u s1) (a2 &&& (65535 : Int32))))) ∧ (¬ a1 = (12 : Int32) → (P (qs_flags (qs_thrown u s1) (a2 &&& (4053 : Int32))))))) ∧ (¬ (12 : Int32) ≤ a1 → (vp_in (a1 - (8 : Int32)) 4 ∧ (P (qs_segments (qs_thrown u s1) (upd (q_segments u) (a1 - (8 : Int32)).toNatClampNeg (a2 &&& (65535 : Int32))))))))) ∧ (¬ (8 : Int32) ≤ a1 → (vp_in a1 8 ∧ (P (qs_registers (qs_thrown u s1) (upd (q_registers u) a1.toNatClampNeg (a2 &&& (65535 : Int32))))))))) ∧ (¬ s1 ≤ (0 : Int32) → (P (qs_thrown u s1))))
def wX6_set_b11 (a1 : Int32) (a2 : Int32) (P : SQ → Prop)  (u : SQ) : Prop := (wX6_set_b16 a1 a2 P (1 : Int32) u)
def wX6_set (a1 : Int32) (a2 : Int32) (u : SQ) (P : SQ → Prop) : Prop := ((a1 < (0 : Int32) → (wX6_set_b11 a1 a2 P u)) ∧ (¬ a1 < (0 : Int32) → ((a1 ≤ (13 : Int32) → (wX6_set_b16 a1 a2 P (0 : Int32) u)) ∧ (¬ a1 ≤ (13 : Int32) → (wX6_set_b11 a1 a2 P u)))))
set_option maxHeartbeats 4000000 in
set_option maxRecDepth 100000 in
theorem kcX6_set (l : Launch) (D : va_G) (cB cI : ClassId) (h0 h1 h2 h3 h4 h5 : Nat) (sz : Nat) (a1 : Int32) (a2 : Int32) (u : SQ) (P : SQ → Prop) (hw : wX6_set a1 a2 u P) : Met l yX6_set wsX6_set ({ frames := 0, cells := 0, slots := 0, locals := 0 } : Room) (va_Pc [.ref h0, .int a1, .int a2] (Pcw D (tyA cB cI) (WQ cI h0 h1 h2 h3 h4 h5 u) sz Tru)) (va_Qv P (fun u t => va_P D vwCl (WQ cI h0 h1 h2 h3 h4 h5 u) t.heap) (va_A (WQ cI h0 h1 h2 h3 h4 h5 u) sz)) 0 0 (va_A (WQ cI h0 h1 h2 h3 h4 h5 u) sz) := by
  refine en_ (cc := cX6_set) (maxL := 3) (ret := none) (own := RX6) (lv := [(0, .ref h0), (1, .int a1), (2, .int a2)]) (Qf := fun A => va_Qv P (fun u t => va_P D vwCl (WQ cI h0 h1 h2 h3 h4 h5 u) t.heap) A) (by decide) rfl rfl (Nat.le_of_ble_eq_true rfl) rfl ?_
  intro p e s m below meth c A ls S hr hlk hname hsz hP hK hD hA hSub hS hE hl
  have hx := S.1
  have hb := S.2.1
  have hown := S.2.2.2.1
  have hts := S.2.2.2.2
  have i_X6 : ∀ w ∈ u_ws RX6 TX6 29, w ∈ wsX6_set := by decide +kernel
  have f_7 := hts (.fieldLink RX6 7 "MachineCoreModel" "registers" "[I") (by decide +kernel)
  have f_13 := hts (.fieldLink RX6 13 "MachineCoreModel" "segments" "[I") (by decide +kernel)
  have f_30 := hts (.fieldLink RX6 30 "MachineCoreModel" "thrown" "I") (by decide +kernel)
  have f_54 := hts (.fieldLink RX6 54 "MachineCoreModel" "flags" "I") (by decide +kernel)
  have f_170 := hts (.fieldLink RX6 170 "MachineCoreModel" "ip" "I") (by decide +kernel)
  have k_39 := hts (.constant RX6 39 (65535)) (by decide +kernel)
  have b16 : ∀ (s1 : Int32) (u : SQ) (H : Heap) (locs : List Loc) (ls : Array Slot), va_P D vwCl (WQ cI h0 h1 h2 h3 h4 h5 u) H → va_D A (WQ cI h0 h1 h2 h3 h4 h5 u) → va_S A s.heap H locs → lv_has ls 3 [(0, .ref h0), (1, .int a1), (2, .int a2)] → wX6_set_b16 a1 a2 P s1 u → W p l e ({ frames := 0, cells := 0, slots := 0, locals := 0 } : Room) s m ([.ref h0, .int a1, .int a2] : List Value).toArray below meth c H locs 0 0 (MQ below (va_Qv P (fun u t => va_P D vwCl (WQ cI h0 h1 h2 h3 h4 h5 u) t.heap) A) ([.ref h0, .int a1, .int a2] : List Value).toArray s 0 0 A) (F0 m 16 ls [.int s1, .ref h0]) := by
    intro s1 u H locs ls hP hD hS hl hw
    unfold wX6_set_b16 at hw
    refine va_put (D := D) (ci := 6) (v := .int s1) (ty := .int) (C := RX6) (T := TX6) (N := 29) hx hb hts i_X6 tyX6 tyX6_ok nmX6 hown hK hP hD hS 0 rfl rfl 0 (by decide) f_30 (fun _ h9 => h9) rfl (by decide +kernel) rfl rfl (Nat.le_of_ble_eq_true rfl) dX6_set_16 (fun H locs hP hD hS => ?_)
    replace hP : va_P D vwCl (WQ cI h0 h1 h2 h3 h4 h5 (qs_thrown u s1)) H := hP
    replace hD : va_D A (WQ cI h0 h1 h2 h3 h4 h5 (qs_thrown u s1)) := hD
    refine lv_aload_n hx hb dX6_set_19 rfl (lv_at hl 0 rfl) ?_
    refine va_get (D := D) (ci := 6) (v := .int s1) (C := RX6) (T := TX6) (N := 29) hx hb hts i_X6 hown hK hP 0 rfl rfl 0 (by decide) f_30 (fun _ h9 => h9) rfl dX6_set_20 ?_
    refine lv_if_le (tgt := 27) hx hb dX6_set_23 (by decide) (fun c3 => ?_) (fun c3 => ?_)
    · replace hw := hw.1 c3
      refine lv_iload_n hx hb dX6_set_27 rfl (lv_at hl 1 rfl) ?_
      refine lv_bipush (v := (8 : Int32)) hx hb dX6_set_28 (by decide) ?_
      refine lv_icmp_ge (tgt := 46) hx hb dX6_set_30 (by decide) (fun c4 => ?_) (fun c4 => ?_)
      · replace hw := hw.1 c4
        refine lv_iload_n hx hb dX6_set_46 rfl (lv_at hl 1 rfl) ?_
        refine lv_bipush (v := (12 : Int32)) hx hb dX6_set_47 (by decide) ?_
        refine lv_icmp_ge (tgt := 68) hx hb dX6_set_49 (by decide) (fun c5 => ?_) (fun c5 => ?_)
        · replace hw := hw.1 c5
          refine lv_iload_n hx hb dX6_set_68 rfl (lv_at hl 1 rfl) ?_
          refine lv_bipush (v := (12 : Int32)) hx hb dX6_set_69 (by decide) ?_
          refine lv_icmp_ne (tgt := 85) hx hb dX6_set_71 (by decide) (fun c6 => ?_) (fun c6 => ?_)
          · replace hw := hw.2 c6
            refine lv_aload_n hx hb dX6_set_85 rfl (lv_at hl 0 rfl) ?_
            refine lv_iload_n hx hb dX6_set_86 rfl (lv_at hl 2 rfl) ?_
            refine lv_sipush (v := (4053 : Int32)) hx hb dX6_set_87 (by decide) ?_
            refine lv_iand hx hb dX6_set_90 ?_
            refine va_put (D := D) (ci := 6) (v := .int (a2 &&& (4053 : Int32))) (ty := .int) (C := RX6) (T := TX6) (N := 29) hx hb hts i_X6 tyX6 tyX6_ok nmX6 hown hK hP hD hS 0 rfl rfl 4 (by decide) f_54 (fun _ h9 => h9) rfl (by decide +kernel) rfl rfl (Nat.le_of_ble_eq_true rfl) dX6_set_91 (fun H locs hP hD hS => ?_)
            replace hP : va_P D vwCl (WQ cI h0 h1 h2 h3 h4 h5 (qs_flags (qs_thrown u s1) (a2 &&& (4053 : Int32)))) H := hP
            replace hD : va_D A (WQ cI h0 h1 h2 h3 h4 h5 (qs_flags (qs_thrown u s1) (a2 &&& (4053 : Int32)))) := hD
            exact rt_v (wo := (fun v => WQ cI h0 h1 h2 h3 h4 h5 v)) S hr hlk (qs_flags (qs_thrown u s1) (a2 &&& (4053 : Int32))) hP hS hw dX6_set_94
          · replace hw := hw.1 c6
            refine lv_aload_n hx hb dX6_set_74 rfl (lv_at hl 0 rfl) ?_
            refine lv_iload_n hx hb dX6_set_75 rfl (lv_at hl 2 rfl) ?_
            refine lv_ldc (v := (65535 : Int32)) hx hb hown k_39 dX6_set_76 ?_
            refine lv_iand hx hb dX6_set_78 ?_
            refine va_put (D := D) (ci := 6) (v := .int (a2 &&& (65535 : Int32))) (ty := .int) (C := RX6) (T := TX6) (N := 29) hx hb hts i_X6 tyX6 tyX6_ok nmX6 hown hK hP hD hS 0 rfl rfl 3 (by decide) f_170 (fun _ h9 => h9) rfl (by decide +kernel) rfl rfl (Nat.le_of_ble_eq_true rfl) dX6_set_79 (fun H locs hP hD hS => ?_)
            replace hP : va_P D vwCl (WQ cI h0 h1 h2 h3 h4 h5 (qs_ip (qs_thrown u s1) (a2 &&& (65535 : Int32)))) H := hP
            replace hD : va_D A (WQ cI h0 h1 h2 h3 h4 h5 (qs_ip (qs_thrown u s1) (a2 &&& (65535 : Int32)))) := hD
            refine lv_goto (tgt := 94) hx hb dX6_set_82 (by decide) ?_
            exact rt_v (wo := (fun v => WQ cI h0 h1 h2 h3 h4 h5 v)) S hr hlk (qs_ip (qs_thrown u s1) (a2 &&& (65535 : Int32))) hP hS hw dX6_set_94
        · replace hw := hw.2 c5
          refine lv_aload_n hx hb dX6_set_52 rfl (lv_at hl 0 rfl) ?_
          refine va_get (D := D) (ci := 6) (v := .ref h2) (C := RX6) (T := TX6) (N := 29) hx hb hts i_X6 hown hK hP 0 rfl rfl 2 (by decide) f_13 (fun _ h9 => h9) rfl dX6_set_53 ?_
          refine lv_iload_n hx hb dX6_set_56 rfl (lv_at hl 1 rfl) ?_
          refine lv_bipush (v := (8 : Int32)) hx hb dX6_set_57 (by decide) ?_
          refine lv_isub hx hb dX6_set_59 ?_
          refine lv_iload_n hx hb dX6_set_60 rfl (lv_at hl 2 rfl) ?_
          refine lv_ldc (v := (65535 : Int32)) hx hb hown k_39 dX6_set_61 ?_
          refine lv_iand hx hb dX6_set_63 ?_
          refine va_iast hx hb hK hP hD hS 2 1 (f := (q_segments u)) rfl rfl hw.1 dX6_set_64 (fun H locs hP hD hS => ?_)
          replace hw := hw.2
          replace hP : va_P D vwCl (WQ cI h0 h1 h2 h3 h4 h5 (qs_segments (qs_thrown u s1) (upd (q_segments u) (a1 - (8 : Int32)).toNatClampNeg (a2 &&& (65535 : Int32))))) H := hP
          replace hD : va_D A (WQ cI h0 h1 h2 h3 h4 h5 (qs_segments (qs_thrown u s1) (upd (q_segments u) (a1 - (8 : Int32)).toNatClampNeg (a2 &&& (65535 : Int32))))) := hD
          refine lv_goto (tgt := 94) hx hb dX6_set_65 (by decide) ?_
          exact rt_v (wo := (fun v => WQ cI h0 h1 h2 h3 h4 h5 v)) S hr hlk (qs_segments (qs_thrown u s1) (upd (q_segments u) (a1 - (8 : Int32)).toNatClampNeg (a2 &&& (65535 : Int32)))) hP hS hw dX6_set_94
      · replace hw := hw.2 c4
        refine lv_aload_n hx hb dX6_set_33 rfl (lv_at hl 0 rfl) ?_
        refine va_get (D := D) (ci := 6) (v := .ref h1) (C := RX6) (T := TX6) (N := 29) hx hb hts i_X6 hown hK hP 0 rfl rfl 1 (by decide) f_7 (fun _ h9 => h9) rfl dX6_set_34 ?_
        refine lv_iload_n hx hb dX6_set_37 rfl (lv_at hl 1 rfl) ?_
        refine lv_iload_n hx hb dX6_set_38 rfl (lv_at hl 2 rfl) ?_
        refine lv_ldc (v := (65535 : Int32)) hx hb hown k_39 dX6_set_39 ?_
        refine lv_iand hx hb dX6_set_41 ?_
        refine va_iast hx hb hK hP hD hS 1 1 (f := (q_registers u)) rfl rfl hw.1 dX6_set_42 (fun H locs hP hD hS => ?_)
        replace hw := hw.2
        replace hP : va_P D vwCl (WQ cI h0 h1 h2 h3 h4 h5 (qs_registers (qs_thrown u s1) (upd (q_registers u) a1.toNatClampNeg (a2 &&& (65535 : Int32))))) H := hP
        replace hD : va_D A (WQ cI h0 h1 h2 h3 h4 h5 (qs_registers (qs_thrown u s1) (upd (q_registers u) a1.toNatClampNeg (a2 &&& (65535 : Int32))))) := hD
        refine lv_goto (tgt := 94) hx hb dX6_set_43 (by decide) ?_
        exact rt_v (wo := (fun v => WQ cI h0 h1 h2 h3 h4 h5 v)) S hr hlk (qs_registers (qs_thrown u s1) (upd (q_registers u) a1.toNatClampNeg (a2 &&& (65535 : Int32)))) hP hS hw dX6_set_94
    · replace hw := hw.2 c3
      exact rt_v (wo := (fun v => WQ cI h0 h1 h2 h3 h4 h5 v)) S hr hlk (qs_thrown u s1) hP hS hw dX6_set_26
  have b11 : ∀  (u : SQ) (H : Heap) (locs : List Loc) (ls : Array Slot), va_P D vwCl (WQ cI h0 h1 h2 h3 h4 h5 u) H → va_D A (WQ cI h0 h1 h2 h3 h4 h5 u) → va_S A s.heap H locs → lv_has ls 3 [(0, .ref h0), (1, .int a1), (2, .int a2)] → wX6_set_b11 a1 a2 P u → W p l e ({ frames := 0, cells := 0, slots := 0, locals := 0 } : Room) s m ([.ref h0, .int a1, .int a2] : List Value).toArray below meth c H locs 0 0 (MQ below (va_Qv P (fun u t => va_P D vwCl (WQ cI h0 h1 h2 h3 h4 h5 u) t.heap) A) ([.ref h0, .int a1, .int a2] : List Value).toArray s 0 0 A) (F0 m 11 ls [.ref h0]) := by
    intro u H locs ls hP hD hS hl hw
    unfold wX6_set_b11 at hw
    refine lv_iconst (v := (1 : Int32)) hx hb dX6_set_11 (by decide) ?_
    refine lv_goto (tgt := 16) hx hb dX6_set_12 (by decide) ?_
    exact b16 (1 : Int32) u H locs ls hP hD hS (lv_sub hl [0, 1, 2] rfl) hw
  unfold wX6_set at hw
  obtain ⟨H, eH⟩ : ∃ H, H = s.heap := ⟨_, rfl⟩
  obtain ⟨locs, eL⟩ : ∃ locs : List Loc, locs = [] := ⟨_, rfl⟩
  replace hP : va_P D vwCl (WQ cI h0 h1 h2 h3 h4 h5 u) H := by rw [eH]; exact hP
  replace hS : va_S A s.heap H locs := by rw [eH, eL]; exact hS
  suffices hgo : W p l e ({ frames := 0, cells := 0, slots := 0, locals := 0 } : Room) s m ([.ref h0, .int a1, .int a2] : List Value).toArray below meth c H locs 0 0 (MQ below (va_Qv P (fun u t => va_P D vwCl (WQ cI h0 h1 h2 h3 h4 h5 u) t.heap) A) ([.ref h0, .int a1, .int a2] : List Value).toArray s 0 0 A) (F0 m 0 ls []) by rw [eH, eL] at hgo; exact hgo
  clear eH eL
  refine lv_aload_n hx hb dX6_set_0 rfl (lv_at hl 0 rfl) ?_
  refine lv_iload_n hx hb dX6_set_1 rfl (lv_at hl 1 rfl) ?_
  refine lv_if_lt (tgt := 11) hx hb dX6_set_2 (by decide) (fun c1 => ?_) (fun c1 => ?_)
  · replace hw := hw.1 c1
    exact b11 u H locs ls hP hD hS (lv_sub hl [0, 1, 2] rfl) hw
  · replace hw := hw.2 c1
    refine lv_iload_n hx hb dX6_set_5 rfl (lv_at hl 1 rfl) ?_
    refine lv_bipush (v := (13 : Int32)) hx hb dX6_set_6 (by decide) ?_
    refine lv_icmp_le (tgt := 15) hx hb dX6_set_8 (by decide) (fun c2 => ?_) (fun c2 => ?_)
    · replace hw := hw.1 c2
      refine lv_iconst (v := (0 : Int32)) hx hb dX6_set_15 (by decide) ?_
      exact b16 (0 : Int32) u H locs ls hP hD hS (lv_sub hl [0, 1, 2] rfl) hw
    · replace hw := hw.2 c2
      exact b11 u H locs ls hP hD hS (lv_sub hl [0, 1, 2] rfl) hw
-- X6_get_
def wX6_get__b16 (a1 : Int32) (P : Int32 → SQ → Prop) (s1 : Int32) (u : SQ) : Prop := ((s1 ≤ (0 : Int32) → (((8 : Int32) ≤ a1 → (((12 : Int32) ≤ a1 → ((a1 = (12 : Int32) → (P (q_ip u) (qs_thrown u s1))) ∧ (¬ a1 = (12 : Int32) → (P (q_flags u) (qs_thrown u s1))))) ∧ (¬ (12 : Int32) ≤ a1 → (vp_in (a1 - (8 : Int32)) 4 ∧ (P ((q_segments u) (a1 - (8 : Int32)).toNatClampNeg) (qs_thrown u s1)))))) ∧ (¬ (8 : Int32) ≤ a1 → (vp_in a1 8 ∧ (P ((q_registers u) a1.toNatClampNeg) (qs_thrown u s1)))))) ∧ (¬ s1 ≤ (0 : Int32) → (P (0 : Int32) (qs_thrown u s1))))
def wX6_get__b11 (a1 : Int32) (P : Int32 → SQ → Prop)  (u : SQ) : Prop := (wX6_get__b16 a1 P (1 : Int32) u)
def wX6_get_ (a1 : Int32) (u : SQ) (P : Int32 → SQ → Prop) : Prop := ((a1 < (0 : Int32) → (wX6_get__b11 a1 P u)) ∧ (¬ a1 < (0 : Int32) → ((a1 ≤ (13 : Int32) → (wX6_get__b16 a1 P (0 : Int32) u)) ∧ (¬ a1 ≤ (13 : Int32) → (wX6_get__b11 a1 P u)))))
set_option maxHeartbeats 4000000 in
set_option maxRecDepth 100000 in
theorem kcX6_get_ (l : Launch) (D : va_G) (cB cI : ClassId) (h0 h1 h2 h3 h4 h5 : Nat) (sz : Nat) (a1 : Int32) (u : SQ) (P : Int32 → SQ → Prop) (hw : wX6_get_ a1 u P) : Met l yX6_get_ wsX6_get_ ({ frames := 0, cells := 0, slots := 0, locals := 0 } : Room) (va_Pc [.ref h0, .int a1] (Pcw D (tyA cB cI) (WQ cI h0 h1 h2 h3 h4 h5 u) sz Tru)) (va_Qi P (fun u t => va_P D vwCl (WQ cI h0 h1 h2 h3 h4 h5 u) t.heap) (va_A (WQ cI h0 h1 h2 h3 h4 h5 u) sz)) 0 0 (va_A (WQ cI h0 h1 h2 h3 h4 h5 u) sz) := by
  refine en_ (cc := cX6_get_) (maxL := 2) (ret := (some .int)) (own := RX6) (lv := [(0, .ref h0), (1, .int a1)]) (Qf := fun A => va_Qi P (fun u t => va_P D vwCl (WQ cI h0 h1 h2 h3 h4 h5 u) t.heap) A) (by decide) rfl rfl (Nat.le_of_ble_eq_true rfl) rfl ?_
  intro p e s m below meth c A ls S hr hlk hname hsz hP hK hD hA hSub hS hE hl
  have hx := S.1
  have hb := S.2.1
  have hown := S.2.2.2.1
  have hts := S.2.2.2.2
  have i_X6 : ∀ w ∈ u_ws RX6 TX6 29, w ∈ wsX6_get_ := by decide +kernel
  have f_7 := hts (.fieldLink RX6 7 "MachineCoreModel" "registers" "[I") (by decide +kernel)
  have f_13 := hts (.fieldLink RX6 13 "MachineCoreModel" "segments" "[I") (by decide +kernel)
  have f_30 := hts (.fieldLink RX6 30 "MachineCoreModel" "thrown" "I") (by decide +kernel)
  have f_54 := hts (.fieldLink RX6 54 "MachineCoreModel" "flags" "I") (by decide +kernel)
  have f_170 := hts (.fieldLink RX6 170 "MachineCoreModel" "ip" "I") (by decide +kernel)
  have b16 : ∀ (s1 : Int32) (u : SQ) (H : Heap) (locs : List Loc) (ls : Array Slot), va_P D vwCl (WQ cI h0 h1 h2 h3 h4 h5 u) H → va_D A (WQ cI h0 h1 h2 h3 h4 h5 u) → va_S A s.heap H locs → lv_has ls 2 [(0, .ref h0), (1, .int a1)] → wX6_get__b16 a1 P s1 u → W p l e ({ frames := 0, cells := 0, slots := 0, locals := 0 } : Room) s m ([.ref h0, .int a1] : List Value).toArray below meth c H locs 0 0 (MQ below (va_Qi P (fun u t => va_P D vwCl (WQ cI h0 h1 h2 h3 h4 h5 u) t.heap) A) ([.ref h0, .int a1] : List Value).toArray s 0 0 A) (F0 m 16 ls [.int s1, .ref h0]) := by
    intro s1 u H locs ls hP hD hS hl hw
    unfold wX6_get__b16 at hw
    refine va_put (D := D) (ci := 6) (v := .int s1) (ty := .int) (C := RX6) (T := TX6) (N := 29) hx hb hts i_X6 tyX6 tyX6_ok nmX6 hown hK hP hD hS 0 rfl rfl 0 (by decide) f_30 (fun _ h9 => h9) rfl (by decide +kernel) rfl rfl (Nat.le_of_ble_eq_true rfl) dX6_get__16 (fun H locs hP hD hS => ?_)
    replace hP : va_P D vwCl (WQ cI h0 h1 h2 h3 h4 h5 (qs_thrown u s1)) H := hP
    replace hD : va_D A (WQ cI h0 h1 h2 h3 h4 h5 (qs_thrown u s1)) := hD
    refine lv_aload_n hx hb dX6_get__19 rfl (lv_at hl 0 rfl) ?_
    refine va_get (D := D) (ci := 6) (v := .int s1) (C := RX6) (T := TX6) (N := 29) hx hb hts i_X6 hown hK hP 0 rfl rfl 0 (by decide) f_30 (fun _ h9 => h9) rfl dX6_get__20 ?_
    refine lv_if_le (tgt := 30) hx hb dX6_get__23 (by decide) (fun c3 => ?_) (fun c3 => ?_)
    · replace hw := hw.1 c3
      refine lv_iload_n hx hb dX6_get__30 rfl (lv_at hl 1 rfl) ?_
      refine lv_bipush (v := (8 : Int32)) hx hb dX6_get__31 (by decide) ?_
      refine lv_icmp_ge (tgt := 45) hx hb dX6_get__33 (by decide) (fun c4 => ?_) (fun c4 => ?_)
      · replace hw := hw.1 c4
        refine lv_iload_n hx hb dX6_get__45 rfl (lv_at hl 1 rfl) ?_
        refine lv_bipush (v := (12 : Int32)) hx hb dX6_get__46 (by decide) ?_
        refine lv_icmp_ge (tgt := 63) hx hb dX6_get__48 (by decide) (fun c5 => ?_) (fun c5 => ?_)
        · replace hw := hw.1 c5
          refine lv_iload_n hx hb dX6_get__63 rfl (lv_at hl 1 rfl) ?_
          refine lv_bipush (v := (12 : Int32)) hx hb dX6_get__64 (by decide) ?_
          refine lv_icmp_ne (tgt := 76) hx hb dX6_get__66 (by decide) (fun c6 => ?_) (fun c6 => ?_)
          · replace hw := hw.2 c6
            refine lv_aload_n hx hb dX6_get__76 rfl (lv_at hl 0 rfl) ?_
            refine va_get (D := D) (ci := 6) (v := .int (q_flags u)) (C := RX6) (T := TX6) (N := 29) hx hb hts i_X6 hown hK hP 0 rfl rfl 4 (by decide) f_54 (fun _ h9 => h9) rfl dX6_get__77 ?_
            exact rt_i (wo := (fun v => WQ cI h0 h1 h2 h3 h4 h5 v)) S hr hlk (qs_thrown u s1) hP hS hw dX6_get__80
          · replace hw := hw.1 c6
            refine lv_aload_n hx hb dX6_get__69 rfl (lv_at hl 0 rfl) ?_
            refine va_get (D := D) (ci := 6) (v := .int (q_ip u)) (C := RX6) (T := TX6) (N := 29) hx hb hts i_X6 hown hK hP 0 rfl rfl 3 (by decide) f_170 (fun _ h9 => h9) rfl dX6_get__70 ?_
            refine lv_goto (tgt := 80) hx hb dX6_get__73 (by decide) ?_
            exact rt_i (wo := (fun v => WQ cI h0 h1 h2 h3 h4 h5 v)) S hr hlk (qs_thrown u s1) hP hS hw dX6_get__80
        · replace hw := hw.2 c5
          refine lv_aload_n hx hb dX6_get__51 rfl (lv_at hl 0 rfl) ?_
          refine va_get (D := D) (ci := 6) (v := .ref h2) (C := RX6) (T := TX6) (N := 29) hx hb hts i_X6 hown hK hP 0 rfl rfl 2 (by decide) f_13 (fun _ h9 => h9) rfl dX6_get__52 ?_
          refine lv_iload_n hx hb dX6_get__55 rfl (lv_at hl 1 rfl) ?_
          refine lv_bipush (v := (8 : Int32)) hx hb dX6_get__56 (by decide) ?_
          refine lv_isub hx hb dX6_get__58 ?_
          refine va_iald hx hb hK hP 2 1 (f := (q_segments u)) rfl rfl hw.1 dX6_get__59 ?_
          replace hw := hw.2
          refine lv_goto (tgt := 80) hx hb dX6_get__60 (by decide) ?_
          exact rt_i (wo := (fun v => WQ cI h0 h1 h2 h3 h4 h5 v)) S hr hlk (qs_thrown u s1) hP hS hw dX6_get__80
      · replace hw := hw.2 c4
        refine lv_aload_n hx hb dX6_get__36 rfl (lv_at hl 0 rfl) ?_
        refine va_get (D := D) (ci := 6) (v := .ref h1) (C := RX6) (T := TX6) (N := 29) hx hb hts i_X6 hown hK hP 0 rfl rfl 1 (by decide) f_7 (fun _ h9 => h9) rfl dX6_get__37 ?_
        refine lv_iload_n hx hb dX6_get__40 rfl (lv_at hl 1 rfl) ?_
        refine va_iald hx hb hK hP 1 1 (f := (q_registers u)) rfl rfl hw.1 dX6_get__41 ?_
        replace hw := hw.2
        refine lv_goto (tgt := 80) hx hb dX6_get__42 (by decide) ?_
        exact rt_i (wo := (fun v => WQ cI h0 h1 h2 h3 h4 h5 v)) S hr hlk (qs_thrown u s1) hP hS hw dX6_get__80
    · replace hw := hw.2 c3
      refine lv_iconst (v := (0 : Int32)) hx hb dX6_get__26 (by decide) ?_
      refine lv_goto (tgt := 80) hx hb dX6_get__27 (by decide) ?_
      exact rt_i (wo := (fun v => WQ cI h0 h1 h2 h3 h4 h5 v)) S hr hlk (qs_thrown u s1) hP hS hw dX6_get__80
  have b11 : ∀  (u : SQ) (H : Heap) (locs : List Loc) (ls : Array Slot), va_P D vwCl (WQ cI h0 h1 h2 h3 h4 h5 u) H → va_D A (WQ cI h0 h1 h2 h3 h4 h5 u) → va_S A s.heap H locs → lv_has ls 2 [(0, .ref h0), (1, .int a1)] → wX6_get__b11 a1 P u → W p l e ({ frames := 0, cells := 0, slots := 0, locals := 0 } : Room) s m ([.ref h0, .int a1] : List Value).toArray below meth c H locs 0 0 (MQ below (va_Qi P (fun u t => va_P D vwCl (WQ cI h0 h1 h2 h3 h4 h5 u) t.heap) A) ([.ref h0, .int a1] : List Value).toArray s 0 0 A) (F0 m 11 ls [.ref h0]) := by
    intro u H locs ls hP hD hS hl hw
    unfold wX6_get__b11 at hw
    refine lv_iconst (v := (1 : Int32)) hx hb dX6_get__11 (by decide) ?_
    refine lv_goto (tgt := 16) hx hb dX6_get__12 (by decide) ?_
    exact b16 (1 : Int32) u H locs ls hP hD hS (lv_sub hl [0, 1] rfl) hw
  unfold wX6_get_ at hw
  obtain ⟨H, eH⟩ : ∃ H, H = s.heap := ⟨_, rfl⟩
  obtain ⟨locs, eL⟩ : ∃ locs : List Loc, locs = [] := ⟨_, rfl⟩
  replace hP : va_P D vwCl (WQ cI h0 h1 h2 h3 h4 h5 u) H := by rw [eH]; exact hP
  replace hS : va_S A s.heap H locs := by rw [eH, eL]; exact hS
  suffices hgo : W p l e ({ frames := 0, cells := 0, slots := 0, locals := 0 } : Room) s m ([.ref h0, .int a1] : List Value).toArray below meth c H locs 0 0 (MQ below (va_Qi P (fun u t => va_P D vwCl (WQ cI h0 h1 h2 h3 h4 h5 u) t.heap) A) ([.ref h0, .int a1] : List Value).toArray s 0 0 A) (F0 m 0 ls []) by rw [eH, eL] at hgo; exact hgo
  clear eH eL
  refine lv_aload_n hx hb dX6_get__0 rfl (lv_at hl 0 rfl) ?_
  refine lv_iload_n hx hb dX6_get__1 rfl (lv_at hl 1 rfl) ?_
  refine lv_if_lt (tgt := 11) hx hb dX6_get__2 (by decide) (fun c1 => ?_) (fun c1 => ?_)
  · replace hw := hw.1 c1
    exact b11 u H locs ls hP hD hS (lv_sub hl [0, 1] rfl) hw
  · replace hw := hw.2 c1
    refine lv_iload_n hx hb dX6_get__5 rfl (lv_at hl 1 rfl) ?_
    refine lv_bipush (v := (13 : Int32)) hx hb dX6_get__6 (by decide) ?_
    refine lv_icmp_le (tgt := 15) hx hb dX6_get__8 (by decide) (fun c2 => ?_) (fun c2 => ?_)
    · replace hw := hw.1 c2
      refine lv_iconst (v := (0 : Int32)) hx hb dX6_get__15 (by decide) ?_
      exact b16 (0 : Int32) u H locs ls hP hD hS (lv_sub hl [0, 1] rfl) hw
    · replace hw := hw.2 c2
      exact b11 u H locs ls hP hD hS (lv_sub hl [0, 1] rfl) hw
-- X6_write
def wX6_write_b22 (a1 : Int32) (a2 : Int32) (P : SQ → Prop) : Nat → Int32 → SQ → Prop
  | 0, _, _ => False
  | n + 1, x3, u => (((4 : Int32) ≤ x3 → (P u)) ∧ (¬ (4 : Int32) ≤ x3 → (((q_thrown u) = (0 : Int32) → (wX6_store (a1 + x3) (a2 >>> (((24 : Int32) - ((8 : Int32) * x3)) &&& 31)) u (fun u5 => (wX6_write_b22 a1 a2 P n (x3 + (1 : Int32)) u5)))) ∧ (¬ (q_thrown u) = (0 : Int32) → (P u)))))
def wX6_write_b17 (a1 : Int32) (a2 : Int32) (P : SQ → Prop) (s1 : Int32) (u : SQ) : Prop := (∃ n, wX6_write_b22 a1 a2 P n (0 : Int32) (qs_thrown u s1))
def wX6_write_b12 (a1 : Int32) (a2 : Int32) (P : SQ → Prop)  (u : SQ) : Prop := (wX6_write_b17 a1 a2 P (1 : Int32) u)
def wX6_write (a1 : Int32) (a2 : Int32) (u : SQ) (P : SQ → Prop) : Prop := ((a1 < (0 : Int32) → (wX6_write_b12 a1 a2 P u)) ∧ (¬ a1 < (0 : Int32) → ((a1 ≤ (1048572 : Int32) → (wX6_write_b17 a1 a2 P (0 : Int32) u)) ∧ (¬ a1 ≤ (1048572 : Int32) → (wX6_write_b12 a1 a2 P u)))))
set_option maxHeartbeats 4000000 in
set_option maxRecDepth 100000 in
theorem kcX6_write (l : Launch) (D : va_G) (cB cI : ClassId) (h0 h1 h2 h3 h4 h5 : Nat) (sz : Nat) (a1 : Int32) (a2 : Int32) (u : SQ) (P : SQ → Prop) (hw : wX6_write a1 a2 u P) : Met l yX6_write wsX6_write ({ frames := 1, cells := 0, slots := 0, locals := 22 } : Room) (va_Pc [.ref h0, .int a1, .int a2] (Pcw D (tyA cB cI) (WQ cI h0 h1 h2 h3 h4 h5 u) sz Tru)) (va_Qv P (fun u t => va_P D vwCl (WQ cI h0 h1 h2 h3 h4 h5 u) t.heap) (va_A (WQ cI h0 h1 h2 h3 h4 h5 u) sz)) 0 0 (va_A (WQ cI h0 h1 h2 h3 h4 h5 u) sz) := by
  refine en_ (cc := cX6_write) (maxL := 4) (ret := none) (own := RX6) (lv := [(0, .ref h0), (1, .int a1), (2, .int a2)]) (Qf := fun A => va_Qv P (fun u t => va_P D vwCl (WQ cI h0 h1 h2 h3 h4 h5 u) t.heap) A) (by decide) rfl rfl (Nat.le_of_ble_eq_true rfl) rfl ?_
  intro p e s m below meth c A ls S hr hlk hname hsz hP hK hD hA hSub hS hE hl
  have hx := S.1
  have hb := S.2.1
  have hown := S.2.2.2.1
  have hts := S.2.2.2.2
  have i_X6 : ∀ w ∈ u_ws RX6 TX6 29, w ∈ wsX6_write := by decide +kernel
  have f_30 := hts (.fieldLink RX6 30 "MachineCoreModel" "thrown" "I") (by decide +kernel)
  have k_315 := hts (.constant RX6 315 (1048572)) (by decide +kernel)
  have b22 : ∀ (n : Nat) (x3 : Int32) (u : SQ) (H : Heap) (locs : List Loc) (ls : Array Slot), va_P D vwCl (WQ cI h0 h1 h2 h3 h4 h5 u) H → va_D A (WQ cI h0 h1 h2 h3 h4 h5 u) → va_S A s.heap H locs → lv_has ls 4 [(0, .ref h0), (1, .int a1), (2, .int a2), (3, .int x3)] → wX6_write_b22 a1 a2 P n x3 u → W p l e ({ frames := 1, cells := 0, slots := 0, locals := 22 } : Room) s m ([.ref h0, .int a1, .int a2] : List Value).toArray below meth c H locs 0 0 (MQ below (va_Qv P (fun u t => va_P D vwCl (WQ cI h0 h1 h2 h3 h4 h5 u) t.heap) A) ([.ref h0, .int a1, .int a2] : List Value).toArray s 0 0 A) (F0 m 22 ls []) := by
    intro n
    induction n with
    | zero => intro x3 u H locs ls hP hD hS hl hw; exact False.elim hw
    | succ n ih =>
      intro x3 u H locs ls hP hD hS hl hw
      rw [wX6_write_b22] at hw
      refine lv_iload_n hx hb dX6_write_22 rfl (lv_at hl 3 rfl) ?_
      refine lv_iconst (v := (4 : Int32)) hx hb dX6_write_23 (by decide) ?_
      refine lv_icmp_ge (tgt := 56) hx hb dX6_write_24 (by decide) (fun c3 => ?_) (fun c3 => ?_)
      · replace hw := hw.1 c3
        exact rt_v (wo := (fun v => WQ cI h0 h1 h2 h3 h4 h5 v)) S hr hlk u hP hS hw dX6_write_56
      · replace hw := hw.2 c3
        refine lv_aload_n hx hb dX6_write_27 rfl (lv_at hl 0 rfl) ?_
        refine va_get (D := D) (ci := 6) (v := .int (q_thrown u)) (C := RX6) (T := TX6) (N := 29) hx hb hts i_X6 hown hK hP 0 rfl rfl 0 (by decide) f_30 (fun _ h9 => h9) rfl dX6_write_28 ?_
        refine lv_if_ne (tgt := 56) hx hb dX6_write_31 (by decide) (fun c4 => ?_) (fun c4 => ?_)
        · replace hw := hw.2 c4
          exact rt_v (wo := (fun v => WQ cI h0 h1 h2 h3 h4 h5 v)) S hr hlk u hP hS hw dX6_write_56
        · replace hw := hw.1 c4
          refine lv_aload_n hx hb dX6_write_34 rfl (lv_at hl 0 rfl) ?_
          refine lv_iload_n hx hb dX6_write_35 rfl (lv_at hl 1 rfl) ?_
          refine lv_iload_n hx hb dX6_write_36 rfl (lv_at hl 3 rfl) ?_
          refine lv_iadd hx hb dX6_write_37 ?_
          refine lv_iload_n hx hb dX6_write_38 rfl (lv_at hl 2 rfl) ?_
          refine lv_bipush (v := (24 : Int32)) hx hb dX6_write_39 (by decide) ?_
          refine lv_bipush (v := (8 : Int32)) hx hb dX6_write_41 (by decide) ?_
          refine lv_iload_n hx hb dX6_write_43 rfl (lv_at hl 3 rfl) ?_
          refine lv_imul hx hb dX6_write_44 ?_
          refine lv_isub hx hb dX6_write_45 ?_
          refine lv_ishr hx hb dX6_write_46 ?_
          refine cl_Vv (As := [.int (a1 + x3), .int (a2 >>> (((24 : Int32) - ((8 : Int32) * x3)) &&& 31))]) (rest := []) (st := [.int (a2 >>> (((24 : Int32) - ((8 : Int32) * x3)) &&& 31)), .int (a1 + x3), .ref h0]) S hK hA hP hD hS (fr_Q u) (kcX6_store l D cB cI h0 h1 h2 h3 h4 h5 H.size (a1 + x3) (a2 >>> (((24 : Int32) - ((8 : Int32) * x3)) &&& 31)) u _ hw) (cwV 2 hts gX6_write_X6_store rfl rfl rfl (by decide +kernel) ⟨Nat.le_of_ble_eq_true rfl, Nat.le_of_ble_eq_true rfl⟩) tru_h tru_b 0 rfl rfl rfl rfl rfl hl.1 (Nat.le_of_ble_eq_true rfl) dX6_write_47 ⟨Nat.zero_le _, Nat.zero_le _⟩ (fun u5 H locs hP hD hS hw => ?_)
          replace hP : va_P D vwCl (WQ cI h0 h1 h2 h3 h4 h5 u5) H := hP
          replace hD : va_D A (WQ cI h0 h1 h2 h3 h4 h5 u5) := hD
          refine lv_iinc (v := (x3 + (1 : Int32))) (lv' := [(3, .int (x3 + (1 : Int32))), (0, .ref h0), (1, .int a1), (2, .int a2)]) hx hb dX6_write_50 hl (k := 3) rfl rfl (by decide) rfl (fun ls hl => ?_)
          refine lv_goto (tgt := 22) hx hb dX6_write_53 (by decide) ?_
          exact ih (x3 + (1 : Int32)) u5 H locs ls hP hD hS (lv_sub hl [1, 2, 3, 0] rfl) hw
  have b17 : ∀ (s1 : Int32) (u : SQ) (H : Heap) (locs : List Loc) (ls : Array Slot), va_P D vwCl (WQ cI h0 h1 h2 h3 h4 h5 u) H → va_D A (WQ cI h0 h1 h2 h3 h4 h5 u) → va_S A s.heap H locs → lv_has ls 4 [(0, .ref h0), (1, .int a1), (2, .int a2)] → wX6_write_b17 a1 a2 P s1 u → W p l e ({ frames := 1, cells := 0, slots := 0, locals := 22 } : Room) s m ([.ref h0, .int a1, .int a2] : List Value).toArray below meth c H locs 0 0 (MQ below (va_Qv P (fun u t => va_P D vwCl (WQ cI h0 h1 h2 h3 h4 h5 u) t.heap) A) ([.ref h0, .int a1, .int a2] : List Value).toArray s 0 0 A) (F0 m 17 ls [.int s1, .ref h0]) := by
    intro s1 u H locs ls hP hD hS hl hw
    unfold wX6_write_b17 at hw
    refine va_put (D := D) (ci := 6) (v := .int s1) (ty := .int) (C := RX6) (T := TX6) (N := 29) hx hb hts i_X6 tyX6 tyX6_ok nmX6 hown hK hP hD hS 0 rfl rfl 0 (by decide) f_30 (fun _ h9 => h9) rfl (by decide +kernel) rfl rfl (Nat.le_of_ble_eq_true rfl) dX6_write_17 (fun H locs hP hD hS => ?_)
    replace hP : va_P D vwCl (WQ cI h0 h1 h2 h3 h4 h5 (qs_thrown u s1)) H := hP
    replace hD : va_D A (WQ cI h0 h1 h2 h3 h4 h5 (qs_thrown u s1)) := hD
    refine lv_iconst (v := (0 : Int32)) hx hb dX6_write_20 (by decide) ?_
    refine lv_istore_n (lv' := [(3, .int (0 : Int32)), (0, .ref h0), (1, .int a1), (2, .int a2)]) hx hb dX6_write_21 rfl hl (by decide) rfl (fun ls hl => ?_)
    obtain ⟨n, hw⟩ := hw
    exact b22 n (0 : Int32) (qs_thrown u s1) H locs ls hP hD hS (lv_sub hl [1, 2, 3, 0] rfl) hw
  have b12 : ∀  (u : SQ) (H : Heap) (locs : List Loc) (ls : Array Slot), va_P D vwCl (WQ cI h0 h1 h2 h3 h4 h5 u) H → va_D A (WQ cI h0 h1 h2 h3 h4 h5 u) → va_S A s.heap H locs → lv_has ls 4 [(0, .ref h0), (1, .int a1), (2, .int a2)] → wX6_write_b12 a1 a2 P u → W p l e ({ frames := 1, cells := 0, slots := 0, locals := 22 } : Room) s m ([.ref h0, .int a1, .int a2] : List Value).toArray below meth c H locs 0 0 (MQ below (va_Qv P (fun u t => va_P D vwCl (WQ cI h0 h1 h2 h3 h4 h5 u) t.heap) A) ([.ref h0, .int a1, .int a2] : List Value).toArray s 0 0 A) (F0 m 12 ls [.ref h0]) := by
    intro u H locs ls hP hD hS hl hw
    unfold wX6_write_b12 at hw
    refine lv_iconst (v := (1 : Int32)) hx hb dX6_write_12 (by decide) ?_
    refine lv_goto (tgt := 17) hx hb dX6_write_13 (by decide) ?_
    exact b17 (1 : Int32) u H locs ls hP hD hS (lv_sub hl [0, 1, 2] rfl) hw
  unfold wX6_write at hw
  obtain ⟨H, eH⟩ : ∃ H, H = s.heap := ⟨_, rfl⟩
  obtain ⟨locs, eL⟩ : ∃ locs : List Loc, locs = [] := ⟨_, rfl⟩
  replace hP : va_P D vwCl (WQ cI h0 h1 h2 h3 h4 h5 u) H := by rw [eH]; exact hP
  replace hS : va_S A s.heap H locs := by rw [eH, eL]; exact hS
  suffices hgo : W p l e ({ frames := 1, cells := 0, slots := 0, locals := 22 } : Room) s m ([.ref h0, .int a1, .int a2] : List Value).toArray below meth c H locs 0 0 (MQ below (va_Qv P (fun u t => va_P D vwCl (WQ cI h0 h1 h2 h3 h4 h5 u) t.heap) A) ([.ref h0, .int a1, .int a2] : List Value).toArray s 0 0 A) (F0 m 0 ls []) by rw [eH, eL] at hgo; exact hgo
  clear eH eL
  refine lv_aload_n hx hb dX6_write_0 rfl (lv_at hl 0 rfl) ?_
  refine lv_iload_n hx hb dX6_write_1 rfl (lv_at hl 1 rfl) ?_
  refine lv_if_lt (tgt := 12) hx hb dX6_write_2 (by decide) (fun c1 => ?_) (fun c1 => ?_)
  · replace hw := hw.1 c1
    exact b12 u H locs ls hP hD hS (lv_sub hl [0, 1, 2] rfl) hw
  · replace hw := hw.2 c1
    refine lv_iload_n hx hb dX6_write_5 rfl (lv_at hl 1 rfl) ?_
    refine lv_ldcw (v := (1048572 : Int32)) hx hb hown k_315 dX6_write_6 ?_
    refine lv_icmp_le (tgt := 16) hx hb dX6_write_9 (by decide) (fun c2 => ?_) (fun c2 => ?_)
    · replace hw := hw.1 c2
      refine lv_iconst (v := (0 : Int32)) hx hb dX6_write_16 (by decide) ?_
      exact b17 (0 : Int32) u H locs ls hP hD hS (lv_sub hl [0, 1, 2] rfl) hw
    · replace hw := hw.2 c2
      exact b12 u H locs ls hP hD hS (lv_sub hl [0, 1, 2] rfl) hw
-- X6_byteAt
def wX6_byteAt_b16 (a1 : Int32) (P : Int32 → SQ → Prop) (s1 : Int32) (u : SQ) : Prop := ((s1 ≤ (0 : Int32) → (wX6_load a1 (qs_thrown u s1) (fun r5 u4 => (P r5 u4)))) ∧ (¬ s1 ≤ (0 : Int32) → (P (0 : Int32) (qs_thrown u s1))))
def wX6_byteAt_b11 (a1 : Int32) (P : Int32 → SQ → Prop)  (u : SQ) : Prop := (wX6_byteAt_b16 a1 P (1 : Int32) u)
def wX6_byteAt (a1 : Int32) (u : SQ) (P : Int32 → SQ → Prop) : Prop := ((a1 < (0 : Int32) → (wX6_byteAt_b11 a1 P u)) ∧ (¬ a1 < (0 : Int32) → ((a1 ≤ (1048575 : Int32) → (wX6_byteAt_b16 a1 P (0 : Int32) u)) ∧ (¬ a1 ≤ (1048575 : Int32) → (wX6_byteAt_b11 a1 P u)))))
set_option maxHeartbeats 4000000 in
set_option maxRecDepth 100000 in
theorem kcX6_byteAt (l : Launch) (D : va_G) (cB cI : ClassId) (h0 h1 h2 h3 h4 h5 : Nat) (sz : Nat) (a1 : Int32) (u : SQ) (P : Int32 → SQ → Prop) (hw : wX6_byteAt a1 u P) : Met l yX6_byteAt wsX6_byteAt ({ frames := 1, cells := 0, slots := 0, locals := 22 } : Room) (va_Pc [.ref h0, .int a1] (Pcw D (tyA cB cI) (WQ cI h0 h1 h2 h3 h4 h5 u) sz Tru)) (va_Qi P (fun u t => va_P D vwCl (WQ cI h0 h1 h2 h3 h4 h5 u) t.heap) (va_A (WQ cI h0 h1 h2 h3 h4 h5 u) sz)) 0 0 (va_A (WQ cI h0 h1 h2 h3 h4 h5 u) sz) := by
  refine en_ (cc := cX6_byteAt) (maxL := 2) (ret := (some .int)) (own := RX6) (lv := [(0, .ref h0), (1, .int a1)]) (Qf := fun A => va_Qi P (fun u t => va_P D vwCl (WQ cI h0 h1 h2 h3 h4 h5 u) t.heap) A) (by decide) rfl rfl (Nat.le_of_ble_eq_true rfl) rfl ?_
  intro p e s m below meth c A ls S hr hlk hname hsz hP hK hD hA hSub hS hE hl
  have hx := S.1
  have hb := S.2.1
  have hown := S.2.2.2.1
  have hts := S.2.2.2.2
  have i_X6 : ∀ w ∈ u_ws RX6 TX6 29, w ∈ wsX6_byteAt := by decide +kernel
  have f_30 := hts (.fieldLink RX6 30 "MachineCoreModel" "thrown" "I") (by decide +kernel)
  have k_40 := hts (.constant RX6 40 (1048575)) (by decide +kernel)
  have b16 : ∀ (s1 : Int32) (u : SQ) (H : Heap) (locs : List Loc) (ls : Array Slot), va_P D vwCl (WQ cI h0 h1 h2 h3 h4 h5 u) H → va_D A (WQ cI h0 h1 h2 h3 h4 h5 u) → va_S A s.heap H locs → lv_has ls 2 [(0, .ref h0), (1, .int a1)] → wX6_byteAt_b16 a1 P s1 u → W p l e ({ frames := 1, cells := 0, slots := 0, locals := 22 } : Room) s m ([.ref h0, .int a1] : List Value).toArray below meth c H locs 0 0 (MQ below (va_Qi P (fun u t => va_P D vwCl (WQ cI h0 h1 h2 h3 h4 h5 u) t.heap) A) ([.ref h0, .int a1] : List Value).toArray s 0 0 A) (F0 m 16 ls [.int s1, .ref h0]) := by
    intro s1 u H locs ls hP hD hS hl hw
    unfold wX6_byteAt_b16 at hw
    refine va_put (D := D) (ci := 6) (v := .int s1) (ty := .int) (C := RX6) (T := TX6) (N := 29) hx hb hts i_X6 tyX6 tyX6_ok nmX6 hown hK hP hD hS 0 rfl rfl 0 (by decide) f_30 (fun _ h9 => h9) rfl (by decide +kernel) rfl rfl (Nat.le_of_ble_eq_true rfl) dX6_byteAt_16 (fun H locs hP hD hS => ?_)
    replace hP : va_P D vwCl (WQ cI h0 h1 h2 h3 h4 h5 (qs_thrown u s1)) H := hP
    replace hD : va_D A (WQ cI h0 h1 h2 h3 h4 h5 (qs_thrown u s1)) := hD
    refine lv_aload_n hx hb dX6_byteAt_19 rfl (lv_at hl 0 rfl) ?_
    refine va_get (D := D) (ci := 6) (v := .int s1) (C := RX6) (T := TX6) (N := 29) hx hb hts i_X6 hown hK hP 0 rfl rfl 0 (by decide) f_30 (fun _ h9 => h9) rfl dX6_byteAt_20 ?_
    refine lv_if_le (tgt := 30) hx hb dX6_byteAt_23 (by decide) (fun c3 => ?_) (fun c3 => ?_)
    · replace hw := hw.1 c3
      refine lv_aload_n hx hb dX6_byteAt_30 rfl (lv_at hl 0 rfl) ?_
      refine lv_iload_n hx hb dX6_byteAt_31 rfl (lv_at hl 1 rfl) ?_
      refine cl_Vi (As := [.int a1]) (rest := []) (st := [.int a1, .ref h0]) S hK hA hP hD hS (fr_Q (qs_thrown u s1)) (kcX6_load l D cB cI h0 h1 h2 h3 h4 h5 H.size a1 (qs_thrown u s1) _ hw) (cwV 1 hts gX6_byteAt_X6_load rfl rfl rfl (by decide +kernel) ⟨Nat.le_of_ble_eq_true rfl, Nat.le_of_ble_eq_true rfl⟩) tru_h tru_b 0 rfl rfl rfl rfl rfl hl.1 (Nat.le_of_ble_eq_true rfl) dX6_byteAt_32 ⟨Nat.zero_le _, Nat.zero_le _⟩ (fun r5 u4 H locs hP hD hS hw => ?_)
      replace hP : va_P D vwCl (WQ cI h0 h1 h2 h3 h4 h5 u4) H := hP
      replace hD : va_D A (WQ cI h0 h1 h2 h3 h4 h5 u4) := hD
      exact rt_i (wo := (fun v => WQ cI h0 h1 h2 h3 h4 h5 v)) S hr hlk u4 hP hS hw dX6_byteAt_35
    · replace hw := hw.2 c3
      refine lv_iconst (v := (0 : Int32)) hx hb dX6_byteAt_26 (by decide) ?_
      refine lv_goto (tgt := 35) hx hb dX6_byteAt_27 (by decide) ?_
      exact rt_i (wo := (fun v => WQ cI h0 h1 h2 h3 h4 h5 v)) S hr hlk (qs_thrown u s1) hP hS hw dX6_byteAt_35
  have b11 : ∀  (u : SQ) (H : Heap) (locs : List Loc) (ls : Array Slot), va_P D vwCl (WQ cI h0 h1 h2 h3 h4 h5 u) H → va_D A (WQ cI h0 h1 h2 h3 h4 h5 u) → va_S A s.heap H locs → lv_has ls 2 [(0, .ref h0), (1, .int a1)] → wX6_byteAt_b11 a1 P u → W p l e ({ frames := 1, cells := 0, slots := 0, locals := 22 } : Room) s m ([.ref h0, .int a1] : List Value).toArray below meth c H locs 0 0 (MQ below (va_Qi P (fun u t => va_P D vwCl (WQ cI h0 h1 h2 h3 h4 h5 u) t.heap) A) ([.ref h0, .int a1] : List Value).toArray s 0 0 A) (F0 m 11 ls [.ref h0]) := by
    intro u H locs ls hP hD hS hl hw
    unfold wX6_byteAt_b11 at hw
    refine lv_iconst (v := (1 : Int32)) hx hb dX6_byteAt_11 (by decide) ?_
    refine lv_goto (tgt := 16) hx hb dX6_byteAt_12 (by decide) ?_
    exact b16 (1 : Int32) u H locs ls hP hD hS (lv_sub hl [0, 1] rfl) hw
  unfold wX6_byteAt at hw
  obtain ⟨H, eH⟩ : ∃ H, H = s.heap := ⟨_, rfl⟩
  obtain ⟨locs, eL⟩ : ∃ locs : List Loc, locs = [] := ⟨_, rfl⟩
  replace hP : va_P D vwCl (WQ cI h0 h1 h2 h3 h4 h5 u) H := by rw [eH]; exact hP
  replace hS : va_S A s.heap H locs := by rw [eH, eL]; exact hS
  suffices hgo : W p l e ({ frames := 1, cells := 0, slots := 0, locals := 22 } : Room) s m ([.ref h0, .int a1] : List Value).toArray below meth c H locs 0 0 (MQ below (va_Qi P (fun u t => va_P D vwCl (WQ cI h0 h1 h2 h3 h4 h5 u) t.heap) A) ([.ref h0, .int a1] : List Value).toArray s 0 0 A) (F0 m 0 ls []) by rw [eH, eL] at hgo; exact hgo
  clear eH eL
  refine lv_aload_n hx hb dX6_byteAt_0 rfl (lv_at hl 0 rfl) ?_
  refine lv_iload_n hx hb dX6_byteAt_1 rfl (lv_at hl 1 rfl) ?_
  refine lv_if_lt (tgt := 11) hx hb dX6_byteAt_2 (by decide) (fun c1 => ?_) (fun c1 => ?_)
  · replace hw := hw.1 c1
    exact b11 u H locs ls hP hD hS (lv_sub hl [0, 1] rfl) hw
  · replace hw := hw.2 c1
    refine lv_iload_n hx hb dX6_byteAt_5 rfl (lv_at hl 1 rfl) ?_
    refine lv_ldc (v := (1048575 : Int32)) hx hb hown k_40 dX6_byteAt_6 ?_
    refine lv_icmp_le (tgt := 15) hx hb dX6_byteAt_8 (by decide) (fun c2 => ?_) (fun c2 => ?_)
    · replace hw := hw.1 c2
      refine lv_iconst (v := (0 : Int32)) hx hb dX6_byteAt_15 (by decide) ?_
      exact b16 (0 : Int32) u H locs ls hP hD hS (lv_sub hl [0, 1] rfl) hw
    · replace hw := hw.2 c2
      exact b11 u H locs ls hP hD hS (lv_sub hl [0, 1] rfl) hw
-- X6_port
def wX6_port (a1 : Int32) (u : SQ) (P : Int32 → SQ → Prop) : Prop := (vp_in (a1 &&& (255 : Int32)) 256 ∧ (P ((q_ports u) (a1 &&& (255 : Int32)).toNatClampNeg) (qs_thrown u (0 : Int32))))
set_option maxHeartbeats 4000000 in
set_option maxRecDepth 100000 in
theorem kcX6_port (l : Launch) (D : va_G) (cB cI : ClassId) (h0 h1 h2 h3 h4 h5 : Nat) (sz : Nat) (a1 : Int32) (u : SQ) (P : Int32 → SQ → Prop) (hw : wX6_port a1 u P) : Met l yX6_port wsX6_port ({ frames := 0, cells := 0, slots := 0, locals := 0 } : Room) (va_Pc [.ref h0, .int a1] (Pcw D (tyA cB cI) (WQ cI h0 h1 h2 h3 h4 h5 u) sz Tru)) (va_Qi P (fun u t => va_P D vwCl (WQ cI h0 h1 h2 h3 h4 h5 u) t.heap) (va_A (WQ cI h0 h1 h2 h3 h4 h5 u) sz)) 0 0 (va_A (WQ cI h0 h1 h2 h3 h4 h5 u) sz) := by
  refine en_ (cc := cX6_port) (maxL := 2) (ret := (some .int)) (own := RX6) (lv := [(0, .ref h0), (1, .int a1)]) (Qf := fun A => va_Qi P (fun u t => va_P D vwCl (WQ cI h0 h1 h2 h3 h4 h5 u) t.heap) A) (by decide) rfl rfl (Nat.le_of_ble_eq_true rfl) rfl ?_
  intro p e s m below meth c A ls S hr hlk hname hsz hP hK hD hA hSub hS hE hl
  have hx := S.1
  have hb := S.2.1
  have hown := S.2.2.2.1
  have hts := S.2.2.2.2
  have i_X6 : ∀ w ∈ u_ws RX6 TX6 29, w ∈ wsX6_port := by decide +kernel
  have f_23 := hts (.fieldLink RX6 23 "MachineCoreModel" "ports" "[I") (by decide +kernel)
  have f_30 := hts (.fieldLink RX6 30 "MachineCoreModel" "thrown" "I") (by decide +kernel)
  unfold wX6_port at hw
  obtain ⟨H, eH⟩ : ∃ H, H = s.heap := ⟨_, rfl⟩
  obtain ⟨locs, eL⟩ : ∃ locs : List Loc, locs = [] := ⟨_, rfl⟩
  replace hP : va_P D vwCl (WQ cI h0 h1 h2 h3 h4 h5 u) H := by rw [eH]; exact hP
  replace hS : va_S A s.heap H locs := by rw [eH, eL]; exact hS
  suffices hgo : W p l e ({ frames := 0, cells := 0, slots := 0, locals := 0 } : Room) s m ([.ref h0, .int a1] : List Value).toArray below meth c H locs 0 0 (MQ below (va_Qi P (fun u t => va_P D vwCl (WQ cI h0 h1 h2 h3 h4 h5 u) t.heap) A) ([.ref h0, .int a1] : List Value).toArray s 0 0 A) (F0 m 0 ls []) by rw [eH, eL] at hgo; exact hgo
  clear eH eL
  refine lv_aload_n hx hb dX6_port_0 rfl (lv_at hl 0 rfl) ?_
  refine lv_iconst (v := (0 : Int32)) hx hb dX6_port_1 (by decide) ?_
  refine va_put (D := D) (ci := 6) (v := .int (0 : Int32)) (ty := .int) (C := RX6) (T := TX6) (N := 29) hx hb hts i_X6 tyX6 tyX6_ok nmX6 hown hK hP hD hS 0 rfl rfl 0 (by decide) f_30 (fun _ h9 => h9) rfl (by decide +kernel) rfl rfl (Nat.le_of_ble_eq_true rfl) dX6_port_2 (fun H locs hP hD hS => ?_)
  replace hP : va_P D vwCl (WQ cI h0 h1 h2 h3 h4 h5 (qs_thrown u (0 : Int32))) H := hP
  replace hD : va_D A (WQ cI h0 h1 h2 h3 h4 h5 (qs_thrown u (0 : Int32))) := hD
  refine lv_aload_n hx hb dX6_port_5 rfl (lv_at hl 0 rfl) ?_
  refine va_get (D := D) (ci := 6) (v := .ref h5) (C := RX6) (T := TX6) (N := 29) hx hb hts i_X6 hown hK hP 0 rfl rfl 9 (by decide) f_23 (fun _ h9 => h9) rfl dX6_port_6 ?_
  refine lv_iload_n hx hb dX6_port_9 rfl (lv_at hl 1 rfl) ?_
  refine lv_sipush (v := (255 : Int32)) hx hb dX6_port_10 (by decide) ?_
  refine lv_iand hx hb dX6_port_13 ?_
  refine va_iald hx hb hK hP 5 1 (f := (q_ports u)) rfl rfl hw.1 dX6_port_14 ?_
  replace hw := hw.2
  exact rt_i (wo := (fun v => WQ cI h0 h1 h2 h3 h4 h5 v)) S hr hlk (qs_thrown u (0 : Int32)) hP hS hw dX6_port_15
-- X6_setPort
def wX6_setPort (a1 : Int32) (a2 : Int32) (u : SQ) (P : SQ → Prop) : Prop := (vp_in (a1 &&& (255 : Int32)) 256 ∧ (P (qs_ports (qs_thrown u (0 : Int32)) (upd (q_ports u) (a1 &&& (255 : Int32)).toNatClampNeg (a2 &&& (255 : Int32))))))
set_option maxHeartbeats 4000000 in
set_option maxRecDepth 100000 in
theorem kcX6_setPort (l : Launch) (D : va_G) (cB cI : ClassId) (h0 h1 h2 h3 h4 h5 : Nat) (sz : Nat) (a1 : Int32) (a2 : Int32) (u : SQ) (P : SQ → Prop) (hw : wX6_setPort a1 a2 u P) : Met l yX6_setPort wsX6_setPort ({ frames := 0, cells := 0, slots := 0, locals := 0 } : Room) (va_Pc [.ref h0, .int a1, .int a2] (Pcw D (tyA cB cI) (WQ cI h0 h1 h2 h3 h4 h5 u) sz Tru)) (va_Qv P (fun u t => va_P D vwCl (WQ cI h0 h1 h2 h3 h4 h5 u) t.heap) (va_A (WQ cI h0 h1 h2 h3 h4 h5 u) sz)) 0 0 (va_A (WQ cI h0 h1 h2 h3 h4 h5 u) sz) := by
  refine en_ (cc := cX6_setPort) (maxL := 3) (ret := none) (own := RX6) (lv := [(0, .ref h0), (1, .int a1), (2, .int a2)]) (Qf := fun A => va_Qv P (fun u t => va_P D vwCl (WQ cI h0 h1 h2 h3 h4 h5 u) t.heap) A) (by decide) rfl rfl (Nat.le_of_ble_eq_true rfl) rfl ?_
  intro p e s m below meth c A ls S hr hlk hname hsz hP hK hD hA hSub hS hE hl
  have hx := S.1
  have hb := S.2.1
  have hown := S.2.2.2.1
  have hts := S.2.2.2.2
  have i_X6 : ∀ w ∈ u_ws RX6 TX6 29, w ∈ wsX6_setPort := by decide +kernel
  have f_23 := hts (.fieldLink RX6 23 "MachineCoreModel" "ports" "[I") (by decide +kernel)
  have f_30 := hts (.fieldLink RX6 30 "MachineCoreModel" "thrown" "I") (by decide +kernel)
  unfold wX6_setPort at hw
  obtain ⟨H, eH⟩ : ∃ H, H = s.heap := ⟨_, rfl⟩
  obtain ⟨locs, eL⟩ : ∃ locs : List Loc, locs = [] := ⟨_, rfl⟩
  replace hP : va_P D vwCl (WQ cI h0 h1 h2 h3 h4 h5 u) H := by rw [eH]; exact hP
  replace hS : va_S A s.heap H locs := by rw [eH, eL]; exact hS
  suffices hgo : W p l e ({ frames := 0, cells := 0, slots := 0, locals := 0 } : Room) s m ([.ref h0, .int a1, .int a2] : List Value).toArray below meth c H locs 0 0 (MQ below (va_Qv P (fun u t => va_P D vwCl (WQ cI h0 h1 h2 h3 h4 h5 u) t.heap) A) ([.ref h0, .int a1, .int a2] : List Value).toArray s 0 0 A) (F0 m 0 ls []) by rw [eH, eL] at hgo; exact hgo
  clear eH eL
  refine lv_aload_n hx hb dX6_setPort_0 rfl (lv_at hl 0 rfl) ?_
  refine lv_iconst (v := (0 : Int32)) hx hb dX6_setPort_1 (by decide) ?_
  refine va_put (D := D) (ci := 6) (v := .int (0 : Int32)) (ty := .int) (C := RX6) (T := TX6) (N := 29) hx hb hts i_X6 tyX6 tyX6_ok nmX6 hown hK hP hD hS 0 rfl rfl 0 (by decide) f_30 (fun _ h9 => h9) rfl (by decide +kernel) rfl rfl (Nat.le_of_ble_eq_true rfl) dX6_setPort_2 (fun H locs hP hD hS => ?_)
  replace hP : va_P D vwCl (WQ cI h0 h1 h2 h3 h4 h5 (qs_thrown u (0 : Int32))) H := hP
  replace hD : va_D A (WQ cI h0 h1 h2 h3 h4 h5 (qs_thrown u (0 : Int32))) := hD
  refine lv_aload_n hx hb dX6_setPort_5 rfl (lv_at hl 0 rfl) ?_
  refine va_get (D := D) (ci := 6) (v := .ref h5) (C := RX6) (T := TX6) (N := 29) hx hb hts i_X6 hown hK hP 0 rfl rfl 9 (by decide) f_23 (fun _ h9 => h9) rfl dX6_setPort_6 ?_
  refine lv_iload_n hx hb dX6_setPort_9 rfl (lv_at hl 1 rfl) ?_
  refine lv_sipush (v := (255 : Int32)) hx hb dX6_setPort_10 (by decide) ?_
  refine lv_iand hx hb dX6_setPort_13 ?_
  refine lv_iload_n hx hb dX6_setPort_14 rfl (lv_at hl 2 rfl) ?_
  refine lv_sipush (v := (255 : Int32)) hx hb dX6_setPort_15 (by decide) ?_
  refine lv_iand hx hb dX6_setPort_18 ?_
  refine va_iast hx hb hK hP hD hS 5 1 (f := (q_ports u)) rfl rfl hw.1 dX6_setPort_19 (fun H locs hP hD hS => ?_)
  replace hw := hw.2
  replace hP : va_P D vwCl (WQ cI h0 h1 h2 h3 h4 h5 (qs_ports (qs_thrown u (0 : Int32)) (upd (q_ports u) (a1 &&& (255 : Int32)).toNatClampNeg (a2 &&& (255 : Int32))))) H := hP
  replace hD : va_D A (WQ cI h0 h1 h2 h3 h4 h5 (qs_ports (qs_thrown u (0 : Int32)) (upd (q_ports u) (a1 &&& (255 : Int32)).toNatClampNeg (a2 &&& (255 : Int32))))) := hD
  exact rt_v (wo := (fun v => WQ cI h0 h1 h2 h3 h4 h5 v)) S hr hlk (qs_ports (qs_thrown u (0 : Int32)) (upd (q_ports u) (a1 &&& (255 : Int32)).toNatClampNeg (a2 &&& (255 : Int32)))) hP hS hw dX6_setPort_20
-- X6_line
def wX6_line_b40 (a1 : Int32) (P : SQ → Prop) (s1 : Int32) (u : SQ) : Prop := (P (qs_line u s1))
def wX6_line_b13 (a1 : Int32) (P : SQ → Prop) (s1 : Int32) (u : SQ) : Prop := ((s1 ≤ (0 : Int32) → (((0 : Int32) ≤ a1 → (wX6_line_b40 a1 P a1 (qs_thrown u s1))) ∧ (¬ (0 : Int32) ≤ a1 → (wX6_line_b40 a1 P (-1 : Int32) (qs_thrown u s1))))) ∧ (¬ s1 ≤ (0 : Int32) → (wX6_line_b40 a1 P (q_line u) (qs_thrown u s1))))
def wX6_line (a1 : Int32) (u : SQ) (P : SQ → Prop) : Prop := ((a1 ≤ (255 : Int32) → (wX6_line_b13 a1 P (0 : Int32) u)) ∧ (¬ a1 ≤ (255 : Int32) → (wX6_line_b13 a1 P (1 : Int32) u)))
set_option maxHeartbeats 4000000 in
set_option maxRecDepth 100000 in
theorem kcX6_line (l : Launch) (D : va_G) (cB cI : ClassId) (h0 h1 h2 h3 h4 h5 : Nat) (sz : Nat) (a1 : Int32) (u : SQ) (P : SQ → Prop) (hw : wX6_line a1 u P) : Met l yX6_line wsX6_line ({ frames := 0, cells := 0, slots := 0, locals := 0 } : Room) (va_Pc [.ref h0, .int a1] (Pcw D (tyA cB cI) (WQ cI h0 h1 h2 h3 h4 h5 u) sz Tru)) (va_Qv P (fun u t => va_P D vwCl (WQ cI h0 h1 h2 h3 h4 h5 u) t.heap) (va_A (WQ cI h0 h1 h2 h3 h4 h5 u) sz)) 0 0 (va_A (WQ cI h0 h1 h2 h3 h4 h5 u) sz) := by
  refine en_ (cc := cX6_line) (maxL := 2) (ret := none) (own := RX6) (lv := [(0, .ref h0), (1, .int a1)]) (Qf := fun A => va_Qv P (fun u t => va_P D vwCl (WQ cI h0 h1 h2 h3 h4 h5 u) t.heap) A) (by decide) rfl rfl (Nat.le_of_ble_eq_true rfl) rfl ?_
  intro p e s m below meth c A ls S hr hlk hname hsz hP hK hD hA hSub hS hE hl
  have hx := S.1
  have hb := S.2.1
  have hown := S.2.2.2.1
  have hts := S.2.2.2.2
  have i_X6 : ∀ w ∈ u_ws RX6 TX6 29, w ∈ wsX6_line := by decide +kernel
  have f_26 := hts (.fieldLink RX6 26 "MachineCoreModel" "line" "I") (by decide +kernel)
  have f_30 := hts (.fieldLink RX6 30 "MachineCoreModel" "thrown" "I") (by decide +kernel)
  have b40 : ∀ (s1 : Int32) (u : SQ) (H : Heap) (locs : List Loc) (ls : Array Slot), va_P D vwCl (WQ cI h0 h1 h2 h3 h4 h5 u) H → va_D A (WQ cI h0 h1 h2 h3 h4 h5 u) → va_S A s.heap H locs → lv_has ls 2 [] → wX6_line_b40 a1 P s1 u → W p l e ({ frames := 0, cells := 0, slots := 0, locals := 0 } : Room) s m ([.ref h0, .int a1] : List Value).toArray below meth c H locs 0 0 (MQ below (va_Qv P (fun u t => va_P D vwCl (WQ cI h0 h1 h2 h3 h4 h5 u) t.heap) A) ([.ref h0, .int a1] : List Value).toArray s 0 0 A) (F0 m 40 ls [.int s1, .ref h0]) := by
    intro s1 u H locs ls hP hD hS hl hw
    unfold wX6_line_b40 at hw
    refine va_put (D := D) (ci := 6) (v := .int s1) (ty := .int) (C := RX6) (T := TX6) (N := 29) hx hb hts i_X6 tyX6 tyX6_ok nmX6 hown hK hP hD hS 0 rfl rfl 10 (by decide) f_26 (fun _ h9 => h9) rfl (by decide +kernel) rfl rfl (Nat.le_of_ble_eq_true rfl) dX6_line_40 (fun H locs hP hD hS => ?_)
    replace hP : va_P D vwCl (WQ cI h0 h1 h2 h3 h4 h5 (qs_line u s1)) H := hP
    replace hD : va_D A (WQ cI h0 h1 h2 h3 h4 h5 (qs_line u s1)) := hD
    exact rt_v (wo := (fun v => WQ cI h0 h1 h2 h3 h4 h5 v)) S hr hlk (qs_line u s1) hP hS hw dX6_line_43
  have b13 : ∀ (s1 : Int32) (u : SQ) (H : Heap) (locs : List Loc) (ls : Array Slot), va_P D vwCl (WQ cI h0 h1 h2 h3 h4 h5 u) H → va_D A (WQ cI h0 h1 h2 h3 h4 h5 u) → va_S A s.heap H locs → lv_has ls 2 [(0, .ref h0), (1, .int a1)] → wX6_line_b13 a1 P s1 u → W p l e ({ frames := 0, cells := 0, slots := 0, locals := 0 } : Room) s m ([.ref h0, .int a1] : List Value).toArray below meth c H locs 0 0 (MQ below (va_Qv P (fun u t => va_P D vwCl (WQ cI h0 h1 h2 h3 h4 h5 u) t.heap) A) ([.ref h0, .int a1] : List Value).toArray s 0 0 A) (F0 m 13 ls [.int s1, .ref h0]) := by
    intro s1 u H locs ls hP hD hS hl hw
    unfold wX6_line_b13 at hw
    refine va_put (D := D) (ci := 6) (v := .int s1) (ty := .int) (C := RX6) (T := TX6) (N := 29) hx hb hts i_X6 tyX6 tyX6_ok nmX6 hown hK hP hD hS 0 rfl rfl 0 (by decide) f_30 (fun _ h9 => h9) rfl (by decide +kernel) rfl rfl (Nat.le_of_ble_eq_true rfl) dX6_line_13 (fun H locs hP hD hS => ?_)
    replace hP : va_P D vwCl (WQ cI h0 h1 h2 h3 h4 h5 (qs_thrown u s1)) H := hP
    replace hD : va_D A (WQ cI h0 h1 h2 h3 h4 h5 (qs_thrown u s1)) := hD
    refine lv_aload_n hx hb dX6_line_16 rfl (lv_at hl 0 rfl) ?_
    refine lv_aload_n hx hb dX6_line_17 rfl (lv_at hl 0 rfl) ?_
    refine va_get (D := D) (ci := 6) (v := .int s1) (C := RX6) (T := TX6) (N := 29) hx hb hts i_X6 hown hK hP 0 rfl rfl 0 (by decide) f_30 (fun _ h9 => h9) rfl dX6_line_18 ?_
    refine lv_if_le (tgt := 31) hx hb dX6_line_21 (by decide) (fun c2 => ?_) (fun c2 => ?_)
    · replace hw := hw.1 c2
      refine lv_iload_n hx hb dX6_line_31 rfl (lv_at hl 1 rfl) ?_
      refine lv_if_ge (tgt := 39) hx hb dX6_line_32 (by decide) (fun c3 => ?_) (fun c3 => ?_)
      · replace hw := hw.1 c3
        refine lv_iload_n hx hb dX6_line_39 rfl (lv_at hl 1 rfl) ?_
        exact b40 a1 (qs_thrown u s1) H locs ls hP hD hS (lv_sub hl [] rfl) hw
      · replace hw := hw.2 c3
        refine lv_iconst (v := (-1 : Int32)) hx hb dX6_line_35 (by decide) ?_
        refine lv_goto (tgt := 40) hx hb dX6_line_36 (by decide) ?_
        exact b40 (-1 : Int32) (qs_thrown u s1) H locs ls hP hD hS (lv_sub hl [] rfl) hw
    · replace hw := hw.2 c2
      refine lv_aload_n hx hb dX6_line_24 rfl (lv_at hl 0 rfl) ?_
      refine va_get (D := D) (ci := 6) (v := .int (q_line u)) (C := RX6) (T := TX6) (N := 29) hx hb hts i_X6 hown hK hP 0 rfl rfl 10 (by decide) f_26 (fun _ h9 => h9) rfl dX6_line_25 ?_
      refine lv_goto (tgt := 40) hx hb dX6_line_28 (by decide) ?_
      exact b40 (q_line u) (qs_thrown u s1) H locs ls hP hD hS (lv_sub hl [] rfl) hw
  unfold wX6_line at hw
  obtain ⟨H, eH⟩ : ∃ H, H = s.heap := ⟨_, rfl⟩
  obtain ⟨locs, eL⟩ : ∃ locs : List Loc, locs = [] := ⟨_, rfl⟩
  replace hP : va_P D vwCl (WQ cI h0 h1 h2 h3 h4 h5 u) H := by rw [eH]; exact hP
  replace hS : va_S A s.heap H locs := by rw [eH, eL]; exact hS
  suffices hgo : W p l e ({ frames := 0, cells := 0, slots := 0, locals := 0 } : Room) s m ([.ref h0, .int a1] : List Value).toArray below meth c H locs 0 0 (MQ below (va_Qv P (fun u t => va_P D vwCl (WQ cI h0 h1 h2 h3 h4 h5 u) t.heap) A) ([.ref h0, .int a1] : List Value).toArray s 0 0 A) (F0 m 0 ls []) by rw [eH, eL] at hgo; exact hgo
  clear eH eL
  refine lv_aload_n hx hb dX6_line_0 rfl (lv_at hl 0 rfl) ?_
  refine lv_iload_n hx hb dX6_line_1 rfl (lv_at hl 1 rfl) ?_
  refine lv_sipush (v := (255 : Int32)) hx hb dX6_line_2 (by decide) ?_
  refine lv_icmp_le (tgt := 12) hx hb dX6_line_5 (by decide) (fun c1 => ?_) (fun c1 => ?_)
  · replace hw := hw.1 c1
    refine lv_iconst (v := (0 : Int32)) hx hb dX6_line_12 (by decide) ?_
    exact b13 (0 : Int32) u H locs ls hP hD hS (lv_sub hl [0, 1] rfl) hw
  · replace hw := hw.2 c1
    refine lv_iconst (v := (1 : Int32)) hx hb dX6_line_8 (by decide) ?_
    refine lv_goto (tgt := 13) hx hb dX6_line_9 (by decide) ?_
    exact b13 (1 : Int32) u H locs ls hP hD hS (lv_sub hl [0, 1] rfl) hw
-- X6_count
def wX6_count_b15 (a1 : Int32) (P : Int32 → SQ → Prop) (s1 : Int32) (u : SQ) : Prop := ((s1 ≤ (0 : Int32) → ((a1 = (0 : Int32) → (P (q_steps u) (qs_thrown u s1))) ∧ (¬ a1 = (0 : Int32) → ((a1 = (1 : Int32) → (P (q_pages u) (qs_thrown u s1))) ∧ (¬ a1 = (1 : Int32) → ((a1 = (2 : Int32) → (P (q_lost u) (qs_thrown u s1))) ∧ (¬ a1 = (2 : Int32) → (P (q_repetitions u) (qs_thrown u s1))))))))) ∧ (¬ s1 ≤ (0 : Int32) → (P (0 : Int32) (qs_thrown u s1))))
def wX6_count_b10 (a1 : Int32) (P : Int32 → SQ → Prop)  (u : SQ) : Prop := (wX6_count_b15 a1 P (1 : Int32) u)
def wX6_count (a1 : Int32) (u : SQ) (P : Int32 → SQ → Prop) : Prop := ((a1 < (0 : Int32) → (wX6_count_b10 a1 P u)) ∧ (¬ a1 < (0 : Int32) → ((a1 ≤ (3 : Int32) → (wX6_count_b15 a1 P (0 : Int32) u)) ∧ (¬ a1 ≤ (3 : Int32) → (wX6_count_b10 a1 P u)))))
set_option maxHeartbeats 4000000 in
set_option maxRecDepth 100000 in
theorem kcX6_count (l : Launch) (D : va_G) (cB cI : ClassId) (h0 h1 h2 h3 h4 h5 : Nat) (sz : Nat) (a1 : Int32) (u : SQ) (P : Int32 → SQ → Prop) (hw : wX6_count a1 u P) : Met l yX6_count wsX6_count ({ frames := 0, cells := 0, slots := 0, locals := 0 } : Room) (va_Pc [.ref h0, .int a1] (Pcw D (tyA cB cI) (WQ cI h0 h1 h2 h3 h4 h5 u) sz Tru)) (va_Qi P (fun u t => va_P D vwCl (WQ cI h0 h1 h2 h3 h4 h5 u) t.heap) (va_A (WQ cI h0 h1 h2 h3 h4 h5 u) sz)) 0 0 (va_A (WQ cI h0 h1 h2 h3 h4 h5 u) sz) := by
  refine en_ (cc := cX6_count) (maxL := 2) (ret := (some .int)) (own := RX6) (lv := [(0, .ref h0), (1, .int a1)]) (Qf := fun A => va_Qi P (fun u t => va_P D vwCl (WQ cI h0 h1 h2 h3 h4 h5 u) t.heap) A) (by decide) rfl rfl (Nat.le_of_ble_eq_true rfl) rfl ?_
  intro p e s m below meth c A ls S hr hlk hname hsz hP hK hD hA hSub hS hE hl
  have hx := S.1
  have hb := S.2.1
  have hown := S.2.2.2.1
  have hts := S.2.2.2.2
  have i_X6 : ∀ w ∈ u_ws RX6 TX6 29, w ∈ wsX6_count := by decide +kernel
  have f_30 := hts (.fieldLink RX6 30 "MachineCoreModel" "thrown" "I") (by decide +kernel)
  have f_33 := hts (.fieldLink RX6 33 "MachineCoreModel" "pages" "I") (by decide +kernel)
  have f_36 := hts (.fieldLink RX6 36 "MachineCoreModel" "lost" "I") (by decide +kernel)
  have f_193 := hts (.fieldLink RX6 193 "MachineCoreModel" "repetitions" "I") (by decide +kernel)
  have f_297 := hts (.fieldLink RX6 297 "MachineCoreModel" "steps" "I") (by decide +kernel)
  have b15 : ∀ (s1 : Int32) (u : SQ) (H : Heap) (locs : List Loc) (ls : Array Slot), va_P D vwCl (WQ cI h0 h1 h2 h3 h4 h5 u) H → va_D A (WQ cI h0 h1 h2 h3 h4 h5 u) → va_S A s.heap H locs → lv_has ls 2 [(0, .ref h0), (1, .int a1)] → wX6_count_b15 a1 P s1 u → W p l e ({ frames := 0, cells := 0, slots := 0, locals := 0 } : Room) s m ([.ref h0, .int a1] : List Value).toArray below meth c H locs 0 0 (MQ below (va_Qi P (fun u t => va_P D vwCl (WQ cI h0 h1 h2 h3 h4 h5 u) t.heap) A) ([.ref h0, .int a1] : List Value).toArray s 0 0 A) (F0 m 15 ls [.int s1, .ref h0]) := by
    intro s1 u H locs ls hP hD hS hl hw
    unfold wX6_count_b15 at hw
    refine va_put (D := D) (ci := 6) (v := .int s1) (ty := .int) (C := RX6) (T := TX6) (N := 29) hx hb hts i_X6 tyX6 tyX6_ok nmX6 hown hK hP hD hS 0 rfl rfl 0 (by decide) f_30 (fun _ h9 => h9) rfl (by decide +kernel) rfl rfl (Nat.le_of_ble_eq_true rfl) dX6_count_15 (fun H locs hP hD hS => ?_)
    replace hP : va_P D vwCl (WQ cI h0 h1 h2 h3 h4 h5 (qs_thrown u s1)) H := hP
    replace hD : va_D A (WQ cI h0 h1 h2 h3 h4 h5 (qs_thrown u s1)) := hD
    refine lv_aload_n hx hb dX6_count_18 rfl (lv_at hl 0 rfl) ?_
    refine va_get (D := D) (ci := 6) (v := .int s1) (C := RX6) (T := TX6) (N := 29) hx hb hts i_X6 hown hK hP 0 rfl rfl 0 (by decide) f_30 (fun _ h9 => h9) rfl dX6_count_19 ?_
    refine lv_if_le (tgt := 29) hx hb dX6_count_22 (by decide) (fun c3 => ?_) (fun c3 => ?_)
    · replace hw := hw.1 c3
      refine lv_iload_n hx hb dX6_count_29 rfl (lv_at hl 1 rfl) ?_
      refine lv_if_ne (tgt := 40) hx hb dX6_count_30 (by decide) (fun c4 => ?_) (fun c4 => ?_)
      · replace hw := hw.2 c4
        refine lv_iload_n hx hb dX6_count_40 rfl (lv_at hl 1 rfl) ?_
        refine lv_iconst (v := (1 : Int32)) hx hb dX6_count_41 (by decide) ?_
        refine lv_icmp_ne (tgt := 52) hx hb dX6_count_42 (by decide) (fun c5 => ?_) (fun c5 => ?_)
        · replace hw := hw.2 c5
          refine lv_iload_n hx hb dX6_count_52 rfl (lv_at hl 1 rfl) ?_
          refine lv_iconst (v := (2 : Int32)) hx hb dX6_count_53 (by decide) ?_
          refine lv_icmp_ne (tgt := 64) hx hb dX6_count_54 (by decide) (fun c6 => ?_) (fun c6 => ?_)
          · replace hw := hw.2 c6
            refine lv_aload_n hx hb dX6_count_64 rfl (lv_at hl 0 rfl) ?_
            refine va_get (D := D) (ci := 6) (v := .int (q_repetitions u)) (C := RX6) (T := TX6) (N := 29) hx hb hts i_X6 hown hK hP 0 rfl rfl 12 (by decide) f_193 (fun _ h9 => h9) rfl dX6_count_65 ?_
            exact rt_i (wo := (fun v => WQ cI h0 h1 h2 h3 h4 h5 v)) S hr hlk (qs_thrown u s1) hP hS hw dX6_count_68
          · replace hw := hw.1 c6
            refine lv_aload_n hx hb dX6_count_57 rfl (lv_at hl 0 rfl) ?_
            refine va_get (D := D) (ci := 6) (v := .int (q_lost u)) (C := RX6) (T := TX6) (N := 29) hx hb hts i_X6 hown hK hP 0 rfl rfl 8 (by decide) f_36 (fun _ h9 => h9) rfl dX6_count_58 ?_
            refine lv_goto (tgt := 68) hx hb dX6_count_61 (by decide) ?_
            exact rt_i (wo := (fun v => WQ cI h0 h1 h2 h3 h4 h5 v)) S hr hlk (qs_thrown u s1) hP hS hw dX6_count_68
        · replace hw := hw.1 c5
          refine lv_aload_n hx hb dX6_count_45 rfl (lv_at hl 0 rfl) ?_
          refine va_get (D := D) (ci := 6) (v := .int (q_pages u)) (C := RX6) (T := TX6) (N := 29) hx hb hts i_X6 hown hK hP 0 rfl rfl 7 (by decide) f_33 (fun _ h9 => h9) rfl dX6_count_46 ?_
          refine lv_goto (tgt := 68) hx hb dX6_count_49 (by decide) ?_
          exact rt_i (wo := (fun v => WQ cI h0 h1 h2 h3 h4 h5 v)) S hr hlk (qs_thrown u s1) hP hS hw dX6_count_68
      · replace hw := hw.1 c4
        refine lv_aload_n hx hb dX6_count_33 rfl (lv_at hl 0 rfl) ?_
        refine va_get (D := D) (ci := 6) (v := .int (q_steps u)) (C := RX6) (T := TX6) (N := 29) hx hb hts i_X6 hown hK hP 0 rfl rfl 11 (by decide) f_297 (fun _ h9 => h9) rfl dX6_count_34 ?_
        refine lv_goto (tgt := 68) hx hb dX6_count_37 (by decide) ?_
        exact rt_i (wo := (fun v => WQ cI h0 h1 h2 h3 h4 h5 v)) S hr hlk (qs_thrown u s1) hP hS hw dX6_count_68
    · replace hw := hw.2 c3
      refine lv_iconst (v := (0 : Int32)) hx hb dX6_count_25 (by decide) ?_
      refine lv_goto (tgt := 68) hx hb dX6_count_26 (by decide) ?_
      exact rt_i (wo := (fun v => WQ cI h0 h1 h2 h3 h4 h5 v)) S hr hlk (qs_thrown u s1) hP hS hw dX6_count_68
  have b10 : ∀  (u : SQ) (H : Heap) (locs : List Loc) (ls : Array Slot), va_P D vwCl (WQ cI h0 h1 h2 h3 h4 h5 u) H → va_D A (WQ cI h0 h1 h2 h3 h4 h5 u) → va_S A s.heap H locs → lv_has ls 2 [(0, .ref h0), (1, .int a1)] → wX6_count_b10 a1 P u → W p l e ({ frames := 0, cells := 0, slots := 0, locals := 0 } : Room) s m ([.ref h0, .int a1] : List Value).toArray below meth c H locs 0 0 (MQ below (va_Qi P (fun u t => va_P D vwCl (WQ cI h0 h1 h2 h3 h4 h5 u) t.heap) A) ([.ref h0, .int a1] : List Value).toArray s 0 0 A) (F0 m 10 ls [.ref h0]) := by
    intro u H locs ls hP hD hS hl hw
    unfold wX6_count_b10 at hw
    refine lv_iconst (v := (1 : Int32)) hx hb dX6_count_10 (by decide) ?_
    refine lv_goto (tgt := 15) hx hb dX6_count_11 (by decide) ?_
    exact b15 (1 : Int32) u H locs ls hP hD hS (lv_sub hl [0, 1] rfl) hw
  unfold wX6_count at hw
  obtain ⟨H, eH⟩ : ∃ H, H = s.heap := ⟨_, rfl⟩
  obtain ⟨locs, eL⟩ : ∃ locs : List Loc, locs = [] := ⟨_, rfl⟩
  replace hP : va_P D vwCl (WQ cI h0 h1 h2 h3 h4 h5 u) H := by rw [eH]; exact hP
  replace hS : va_S A s.heap H locs := by rw [eH, eL]; exact hS
  suffices hgo : W p l e ({ frames := 0, cells := 0, slots := 0, locals := 0 } : Room) s m ([.ref h0, .int a1] : List Value).toArray below meth c H locs 0 0 (MQ below (va_Qi P (fun u t => va_P D vwCl (WQ cI h0 h1 h2 h3 h4 h5 u) t.heap) A) ([.ref h0, .int a1] : List Value).toArray s 0 0 A) (F0 m 0 ls []) by rw [eH, eL] at hgo; exact hgo
  clear eH eL
  refine lv_aload_n hx hb dX6_count_0 rfl (lv_at hl 0 rfl) ?_
  refine lv_iload_n hx hb dX6_count_1 rfl (lv_at hl 1 rfl) ?_
  refine lv_if_lt (tgt := 10) hx hb dX6_count_2 (by decide) (fun c1 => ?_) (fun c1 => ?_)
  · replace hw := hw.1 c1
    exact b10 u H locs ls hP hD hS (lv_sub hl [0, 1] rfl) hw
  · replace hw := hw.2 c1
    refine lv_iload_n hx hb dX6_count_5 rfl (lv_at hl 1 rfl) ?_
    refine lv_iconst (v := (3 : Int32)) hx hb dX6_count_6 (by decide) ?_
    refine lv_icmp_le (tgt := 14) hx hb dX6_count_7 (by decide) (fun c2 => ?_) (fun c2 => ?_)
    · replace hw := hw.1 c2
      refine lv_iconst (v := (0 : Int32)) hx hb dX6_count_14 (by decide) ?_
      exact b15 (0 : Int32) u H locs ls hP hD hS (lv_sub hl [0, 1] rfl) hw
    · replace hw := hw.2 c2
      exact b10 u H locs ls hP hD hS (lv_sub hl [0, 1] rfl) hw
